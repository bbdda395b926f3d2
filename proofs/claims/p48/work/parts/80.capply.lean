theorem gCl_1 : Cond.methodLink RJ7 316 ⟨"[I", "clone", "()Ljava/lang/Object;"⟩ ∈ a_G := a_in5 (List.mem_of_getElem? (i := 138) rfl) rfl
theorem gCl_2 : Cond.sameMethod "[I" "java/lang/Object" "clone" "()Ljava/lang/Object;" ∈ a_G := a_in5 (List.mem_of_getElem? (i := 139) rfl) rfl
theorem gCl_3 : Cond.native ⟨"java/lang/Object", "clone", "()Ljava/lang/Object;"⟩ ∈ a_G := a_in5 (List.mem_of_getElem? (i := 140) rfl) rfl
theorem gCl_4 : Cond.instanceMethod ⟨"java/lang/Object", "clone", "()Ljava/lang/Object;"⟩ ∈ a_G := a_in5 (List.mem_of_getElem? (i := 141) rfl) rfl
theorem gCl_5 : Cond.selects "[I" ⟨"[I", "clone", "()Ljava/lang/Object;"⟩ ⟨"java/lang/Object", "clone", "()Ljava/lang/Object;"⟩ ∈ a_G := a_in5 (List.mem_of_getElem? (i := 142) rfl) rfl
set_option maxRecDepth 100000 in
theorem m_J7_copyOf_59c91 {T : List aT} {I : aI} {J : aJ} {R : aR} {a n c : Nat} (ha : T[a]? = some (.inl (.int, n))) (hc9 : c ≤ n) (hn9 : n ≤ 128) : MJ7_copyOf_59c91 1 128 [.ref a, .int (nI c)] T I J R (aRelT (fun v T2 I2 J2 R2 => ∃ G, v = some (.ref T.length) ∧ T2 = T ++ [.inl (.int, c)] ∧ I2 = a_ur I T.length G ∧ (∀ k, k < c → G k = I a k) ∧ J2 = J ∧ R2 = R)) := by
  refine a_met (by decide +kernel) a_le (fun X hC hq => ?_)
  show AW X 0 0 0 [some (.ref a), some (.int (nI c)), none] [] T I J R
  refine aw_iload_n hC dJ7_copyOf_59c91_0 rfl ?_
  refine aw_aload_n hC dJ7_copyOf_59c91_1 rfl ?_
  refine aw_alen (v := nI n) hC dJ7_copyOf_59c91_2 ha rfl ?_
  refine aw_icmp_ne (tgt := 14) hC dJ7_copyOf_59c91_3 (by decide) (fun h1 => ?_) (fun h1 => ?_)
  · show AW X 0 0 14 [some (.ref a), some (.int (nI c)), none] [] T I J R
    have h1n : ¬ c = n := fun q9 => h1 ((nI_eq (a := c) (b := n) (by omega) (by omega)).mpr q9)
    refine aw_iload_n hC dJ7_copyOf_59c91_14 rfl ?_
    refine aw_newarrayI (N := c) hC dJ7_copyOf_59c91_15 gA_int rfl (by omega) a_le (by omega) ?_
    obtain ⟨q0, hq0⟩ : ∃ q0, T.length = q0 := ⟨_, rfl⟩
    rw [hq0]
    obtain ⟨T1, hTT1⟩ : ∃ T1, T1 = T ++ [.inl (.int, c)] := ⟨_, rfl⟩
    rw [← hTT1]
    have hA1 := T_ap1 hq0 hTT1
    have hp1 : T <+: T1 := hA1.1
    show AW X (0 + 1) (0 + c) 17 [some (.ref a), some (.int (nI c)), none] [.ref q0] T1 I J R
    refine aw_astore_n (L2 := [some (.ref a), some (.int (nI c)), some (.ref q0)]) hC dJ7_copyOf_59c91_17 rfl (by decide) rfl ?_
    refine aw_aload_n hC dJ7_copyOf_59c91_18 rfl ?_
    refine aw_iconst (v := 0) hC dJ7_copyOf_59c91_19 (by decide) ?_
    refine aw_aload_n hC dJ7_copyOf_59c91_20 rfl ?_
    refine aw_iconst (v := 0) hC dJ7_copyOf_59c91_21 (by decide) ?_
    refine aw_aload_n hC dJ7_copyOf_59c91_22 rfl ?_
    refine aw_alen (v := nI n) hC dJ7_copyOf_59c91_23 (a_pfx hp1 ha) rfl ?_
    refine aw_iload_n hC dJ7_copyOf_59c91_24 rfl ?_
    refine aw_min hC dJ7_copyOf_59c91_25 gL_J7_304 a_le a_le a_le a_le (by omega) ?_
    have hmin : (if nI c < nI n then nI c else nI n) = nI c := if_pos ((nI_ltI (a := c) (b := n) (by omega) (by omega)).mpr (by omega))
    refine aw_copyI (n0 := n) (n1 := c) hC dJ7_copyOf_59c91_28 gL_J7_150 gAC_native gAC_static gN_J10 (a_pfx hp1 ha) hA1.2.2 (by decide) (by decide) (by rw [hmin]; exact Int32.not_lt.mpr (nI_pos' (by omega))) (by rw [hmin, nI_clamp (by omega)]; show 0 + c ≤ n; omega) (by rw [hmin, nI_clamp (by omega)]; show 0 + c ≤ c; omega) a_le a_le a_le ?_
    show AW X (0 + 1) (0 + c) 31 [some (.ref a), some (.int (nI c)), some (.ref q0)] [] T1 (a_ur I q0 (va_cpy (I a) (I q0) (0 : Int32).toNatClampNeg (0 : Int32).toNatClampNeg (if nI c < nI n then nI c else nI n).toNatClampNeg)) J R
    refine aw_aload_n hC dJ7_copyOf_59c91_31 rfl ?_
    exact aw_areturn hC hq rfl (by first | exact Or.inl ⟨_, rfl⟩ | exact Or.inr ⟨_, rfl⟩) dJ7_copyOf_59c91_32 a_le (by omega) ⟨_, rfl, _, by rw [hq0], hTT1, by rw [hq0], fun k hk => by rw [hmin, nI_clamp (by omega)]; exact (if_pos ⟨Nat.zero_le _, by rw [show (0 : Int32).toNatClampNeg = 0 from rfl]; omega⟩).trans (by rw [show (0 : Int32).toNatClampNeg = 0 from rfl, Nat.zero_add, Nat.sub_zero]), rfl, rfl⟩
  · show AW X 0 0 6 [some (.ref a), some (.int (nI c)), none] [] T I J R
    have h1n : c = n := (nI_eq (a := c) (b := n) (by omega) (by omega)).mp h1
    refine aw_aload_n hC dJ7_copyOf_59c91_6 rfl ?_
    refine aw_cloneI (n0 := n) hC dJ7_copyOf_59c91_7 dJ7_copyOf_59c91_10 gCl_1 gCl_2 gCl_3 gCl_4 gCl_5 gW_J7_317 ha a_le a_le a_le (by omega) (by omega) ?_
    obtain ⟨q0, hq0⟩ : ∃ q0, T.length = q0 := ⟨_, rfl⟩
    rw [hq0]
    show AW X (0 + 1) (0 + n) 13 [some (.ref a), some (.int (nI c)), none] [.ref q0] (T ++ [.inl (.int, n)]) (a_ur I q0 (I a)) J R
    exact aw_areturn hC hq rfl (by first | exact Or.inl ⟨_, rfl⟩ | exact Or.inr ⟨_, rfl⟩) dJ7_copyOf_59c91_13 a_le (by omega) ⟨_, rfl, _, by rw [hq0], by rw [show n = c by omega], by rw [hq0], fun k _ => rfl, rfl, rfl⟩
set_option maxRecDepth 100000 in
theorem m_X0_end {T : List aT} {I : aI} {J : aJ} {R : aR} (hT : aPT T) (hR : aPR R) : MX0_end 0 0 [.ref 38] T I J R (aPure none T (a_u I 38 0 0) J (a_u R 38 3 none)) := by
  refine a_met (by decide +kernel) a_le (fun X hC hq => ?_)
  show AW X 0 0 0 [some (.ref 38)] [] T I J R
  refine aw_aload_n hC dX0_end_0 rfl ?_
  refine aw_null hC dX0_end_1 ?_
  refine aw_putN hC dX0_end_2 aF_X0_27 rfl rfl (tg_38 hT) ?_
  have hR1 : aPR (a_u R 38 3 none) := hR.put (by decide +kernel)
  refine aw_aload_n hC dX0_end_5 rfl ?_
  refine aw_iconst (v := 0) hC dX0_end_6 (by decide) ?_
  refine aw_putZ hC dX0_end_7 aF_X0_41 rfl rfl (tg_38 hT) (Or.inl rfl) ?_
  exact aw_return hC hq rfl dX0_end_10 a_le a_le aPure_v
set_option maxRecDepth 100000 in
theorem m_X0_isOn {T : List aT} {I : aI} {J : aJ} {R : aR} (hT : aPT T) (hR : aPR R) {o3 : Option Nat} (h3 : R 38 3 = o3) : MX0_isOn 0 0 [.ref 38] T I J R (aPure (some (.int (bI (decide (R 38 3 ≠ none))))) T I J R) := by
  refine a_met (by decide +kernel) a_le (fun X hC hq => ?_)
  show AW X 0 0 0 [some (.ref 38)] [] T I J R
  refine aw_aload_n hC dX0_isOn_0 rfl ?_
  cases hr1 : R 38 3 with
  | none =>
    refine aw_getN hC dX0_isOn_1 aF_X0_27 rfl (tg_38 hT) hr1 ?_
    refine aw_ifnullN (tgt := 11) hC dX0_isOn_4 (by decide) ?_
    refine aw_iconst (v := 0) hC dX0_isOn_11 (by decide) ?_
    exact aw_zreturn hC hq rfl (Or.inl rfl) dX0_isOn_12 a_le a_le (aPure_i (bI_no (fun q => q (by assumption))))
  | some q2 =>
    refine aw_getR hC dX0_isOn_1 aF_X0_27 rfl (tg_38 hT) hr1 ?_
    refine aw_ifnull hC dX0_isOn_4 ?_
    refine aw_iconst (v := 1) hC dX0_isOn_7 (by decide) ?_
    refine aw_goto (tgt := 12) hC dX0_isOn_8 (by decide) ?_
    exact aw_zreturn hC hq rfl (Or.inr rfl) dX0_isOn_12 a_le a_le (aPure_i (bI_yes (fun q => by rw [q] at hr1; cases hr1)))
set_option maxRecDepth 100000 in
theorem m_X0_dayComesT {T : List aT} {I : aI} {J : aJ} {R : aR} (hT : aPT T) (hR : aPR R) {d : Int32} (h5 : I 38 5 ≤ d) : MX0_dayComes 0 0 [.ref 38, .int d] T I J R (aPure none T (a_u I 38 0 0) J (a_u R 38 3 none)) := by
  refine a_met (by decide +kernel) a_le (fun X hC hq => ?_)
  show AW X 0 0 0 [some (.ref 38), some (.int d)] [] T I J R
  refine aw_iload_n hC dX0_dayComes_0 rfl ?_
  refine aw_aload_n hC dX0_dayComes_1 rfl ?_
  refine aw_getI hC dX0_dayComes_2 aF_X0_44 rfl (tg_38 hT) ?_
  refine aw_icmp_lt (tgt := 12) hC dX0_dayComes_5 (by decide) (fun h => absurd h (Int32.not_lt.mpr h5)) (fun _ => ?_)
  show AW X 0 0 8 [some (.ref 38), some (.int d)] [] T I J R
  refine aw_aload_n hC dX0_dayComes_8 rfl ?_
  refine kX0_53 hC rfl (m_X0_end (I := I) hT hR) dX0_dayComes_9 (tg_38 hT) rfl a_le a_le a_le a_le a_le rfl aPure_x (aPure_k ?_)
  have hR1 : aPR (a_u R 38 3 none) := hR.put (by decide +kernel)
  show AW X 0 0 12 [some (.ref 38), some (.int d)] [] T (a_u I 38 0 0) J (a_u R 38 3 none)
  exact aw_return hC hq rfl dX0_dayComes_12 a_le a_le aPure_v
set_option maxRecDepth 100000 in
theorem m_X0_dayComesF {T : List aT} {I : aI} {J : aJ} {R : aR} (hT : aPT T) (hR : aPR R) {d : Int32} (h5 : d < I 38 5) : MX0_dayComes 0 0 [.ref 38, .int d] T I J R (aPure none T I J R) := by
  refine a_met (by decide +kernel) a_le (fun X hC hq => ?_)
  show AW X 0 0 0 [some (.ref 38), some (.int d)] [] T I J R
  refine aw_iload_n hC dX0_dayComes_0 rfl ?_
  refine aw_aload_n hC dX0_dayComes_1 rfl ?_
  refine aw_getI hC dX0_dayComes_2 aF_X0_44 rfl (tg_38 hT) ?_
  refine aw_icmp_lt (tgt := 12) hC dX0_dayComes_5 (by decide) (fun _ => ?_) (fun h => absurd h5 h)
  show AW X 0 0 12 [some (.ref 38), some (.int d)] [] T I J R
  exact aw_return hC hq rfl dX0_dayComes_12 a_le a_le aPure_v
set_option maxRecDepth 100000 in
theorem m_X0_begin {T : List aT} {I : aI} {J : aJ} {R : aR} (hT : aPT T) (hR : aPR R) {q : Nat} (hqt : T[q]? = some (.inr 6)) (d : Int32) : MX0_begin 0 0 [.ref 38, .ref q, .int d] T I J R (aPure none T (a_fill (a_fill (a_u (a_u (a_u (a_u I q 4 1) 38 4 0) 38 0 1) 38 5 (d + 3)) 40 64 (fun _ => (-1))) 39 64 (fun _ => 0)) J (a_u R 38 3 (some q))) := by
  refine a_met (by decide +kernel) a_le (fun X hC hq => ?_)
  show AW X 0 0 0 [some (.ref 38), some (.ref q), some (.int d), none] [] T I J R
  refine aw_aload_n hC dX0_begin_0 rfl ?_
  refine aw_iconst (v := 1) hC dX0_begin_1 (by decide) ?_
  refine aw_putZ hC dX0_begin_2 aF_X0_31 rfl rfl hqt (Or.inr rfl) ?_
  refine aw_aload_n hC dX0_begin_5 rfl ?_
  refine aw_aload_n hC dX0_begin_6 rfl ?_
  refine aw_putR hC dX0_begin_7 aF_X0_27 rfl rfl (tg_38 hT) ?_
  have hR1 : aPR (a_u R 38 3 (some q)) := hR.put (by decide +kernel)
  refine aw_aload_n hC dX0_begin_10 rfl ?_
  refine aw_iconst (v := 0) hC dX0_begin_11 (by decide) ?_
  refine aw_putI hC dX0_begin_12 aF_X0_37 rfl rfl (tg_38 hT) ?_
  refine aw_aload_n hC dX0_begin_15 rfl ?_
  refine aw_iconst (v := 1) hC dX0_begin_16 (by decide) ?_
  refine aw_putZ hC dX0_begin_17 aF_X0_41 rfl rfl (tg_38 hT) (Or.inr rfl) ?_
  refine aw_aload_n hC dX0_begin_20 rfl ?_
  refine aw_iload_n hC dX0_begin_21 rfl ?_
  refine aw_iconst (v := 3) hC dX0_begin_22 (by decide) ?_
  refine aw_iadd hC dX0_begin_23 ?_
  refine aw_putI hC dX0_begin_24 aF_X0_44 rfl rfl (tg_38 hT) ?_
  refine aw_aload_n hC dX0_begin_27 rfl ?_
  refine aw_getR hC dX0_begin_28 aF_X0_15 rfl (tg_38 hT) (pr_38_7 hR1) ?_
  refine aw_iconst (v := (-1)) hC dX0_begin_31 (by decide) ?_
  refine kX0_47 hC rfl (m_J7_fill_53178 (I := a_u (a_u (a_u (a_u I q 4 1) 38 4 0) 38 0 1) 38 5 (d + 3)) (n := 64) (tg_40 hT) (by omega) ((-1) : Int32)) dX0_begin_32 rfl a_le a_le a_le a_le a_le rfl aPure_x (aPure_k ?_)
  show AW X 0 0 35 [some (.ref 38), some (.ref q), some (.int d), none] [] T (a_fill (a_u (a_u (a_u (a_u I q 4 1) 38 4 0) 38 0 1) 38 5 (d + 3)) 40 64 (fun _ => (-1))) J (a_u R 38 3 (some q))
  refine aw_iconst (v := 0) hC dX0_begin_35 (by decide) ?_
  refine aw_istore_n (L2 := [some (.ref 38), some (.ref q), some (.int d), some (.int 0)]) hC dX0_begin_36 rfl (by decide) rfl ?_
  refine aw_setI (I2 := a_fill (a_fill (a_u (a_u (a_u (a_u I q 4 1) 38 4 0) 38 0 1) 38 5 (d + 3)) 40 64 (fun _ => (-1))) 39 0 (fun _ => 0)) a_fill_0.symm ?_
  have loop : ∀ k, k ≤ 64 → AW X 0 0 37 [some (.ref 38), some (.ref q), some (.int d), some (.int (nI k))] [] T (a_fill (a_fill (a_u (a_u (a_u (a_u I q 4 1) 38 4 0) 38 0 1) 38 5 (d + 3)) 40 64 (fun _ => (-1))) 39 k (fun _ => 0)) J (a_u R 38 3 (some q)) := by
    refine a_down 64 (fun k hk_k ih_k => ?_)
    refine aw_iload_n hC dX0_begin_37 rfl ?_
    refine aw_bipush (v := 64) hC dX0_begin_38 (by decide) ?_
    refine aw_icmp_ge (tgt := 56) hC dX0_begin_40 (by decide) (fun h2 => ?_) (fun h2 => ?_)
    · show AW X 0 0 56 [some (.ref 38), some (.ref q), some (.int d), some (.int (nI k))] [] T (a_fill (a_fill (a_u (a_u (a_u (a_u I q 4 1) 38 4 0) 38 0 1) 38 5 (d + 3)) 40 64 (fun _ => (-1))) 39 k (fun _ => 0)) J (a_u R 38 3 (some q))
      have h2n : 64 ≤ k := (nI_leI (a := 64) (b := k) (by omega) (by omega)).mp h2
      exact aw_return hC hq rfl dX0_begin_56 a_le a_le (aPure_ev (by rw [show k = 64 by omega]) rfl rfl)
    · show AW X 0 0 43 [some (.ref 38), some (.ref q), some (.int d), some (.int (nI k))] [] T (a_fill (a_fill (a_u (a_u (a_u (a_u I q 4 1) 38 4 0) 38 0 1) 38 5 (d + 3)) 40 64 (fun _ => (-1))) 39 k (fun _ => 0)) J (a_u R 38 3 (some q))
      have h2n : ¬ 64 ≤ k := fun q9 => h2 ((nI_leI (a := 64) (b := k) (by omega) (by omega)).mpr q9)
      refine aw_aload_n hC dX0_begin_43 rfl ?_
      refine aw_getR hC dX0_begin_44 aF_X0_9 rfl (tg_38 hT) (pr_38_6 hR1) ?_
      refine aw_iload_n hC dX0_begin_47 rfl ?_
      refine aw_iconst (v := 0) hC dX0_begin_48 (by decide) ?_
      refine aw_bastore_k (j := k) hC dX0_begin_49 (tg_39 hT) (nI_clamp (by omega)) (vp_in_nI (by omega) (by decide)) (Or.inl rfl) ?_
      refine aw_iinc (v := nI (k + 1)) (L2 := [some (.ref 38), some (.ref q), some (.int d), some (.int (nI (k + 1)))]) hC dX0_begin_50 rfl (nI_inc _) (by decide) rfl ?_
      refine aw_goto (tgt := 37) hC dX0_begin_53 (by decide) ?_
      rw [show a_u (a_fill (a_fill (a_u (a_u (a_u (a_u I q 4 1) 38 4 0) 38 0 1) 38 5 (d + 3)) 40 64 (fun _ => (-1))) 39 k (fun _ => 0)) 39 k 0 = a_fill (a_fill (a_u (a_u (a_u (a_u I q 4 1) 38 4 0) 38 0 1) 38 5 (d + 3)) 40 64 (fun _ => (-1))) 39 (k + 1) (fun _ => 0) from a_fill_succ (g := fun _ => 0)]
      exact ih_k (by omega)
  exact loop 0 (Nat.zero_le _)
abbrev abV (I : aI) (wh x r : Nat) : Bool := !(decide (wh = 1) && decide (60 ≤ r)) && (decide (wh = 3 ∨ wh = 4) || allB (fun a => decide (I 34 (3 * x + a) ≠ -1)) 3)
set_option maxRecDepth 100000 in
theorem m_X0_isAble {T : List aT} {I : aI} {J : aJ} {R : aR} (hT : aPT T) (hR : aPR R) {wh x r : Nat} (hwh : wh < 5) (hx : x < 64) (hr9 : I 19 6 = nI r) (hr60 : r ≤ 60) : MX0_isAble 0 0 [.ref 38, .int (nI wh), .int (nI x)] T I J R (aPure (some (.int (bI (abV I wh x r)))) T I J R) := by
  refine a_met (by decide +kernel) a_le (fun X hC hq => ?_)
  show AW X 0 0 0 [some (.ref 38), some (.int (nI wh)), some (.int (nI x)), none] [] T I J R
  refine aw_iload_n hC dX0_isAble_0 rfl ?_
  refine aw_iconst (v := 1) hC dX0_isAble_1 (by decide) ?_
  refine aw_icmp_ne (tgt := 19) hC dX0_isAble_2 (by decide) (fun h1 => ?_) (fun h1 => ?_)
  · show AW X 0 0 19 [some (.ref 38), some (.int (nI wh)), some (.int (nI x)), none] [] T I J R
    have h1n : ¬ wh = 1 := fun q9 => h1 ((nI_eq (a := wh) (b := 1) (by omega) (by omega)).mpr q9)
    refine aw_iload_n hC dX0_isAble_19 rfl ?_
    refine aw_iconst (v := 3) hC dX0_isAble_20 (by decide) ?_
    refine aw_icmp_eq (tgt := 29) hC dX0_isAble_21 (by decide) (fun h2 => ?_) (fun h2 => ?_)
    · show AW X 0 0 29 [some (.ref 38), some (.int (nI wh)), some (.int (nI x)), none] [] T I J R
      have h2n : wh = 3 := (nI_eq (a := wh) (b := 3) (by omega) (by omega)).mp h2
      refine aw_iconst (v := 1) hC dX0_isAble_29 (by decide) ?_
      exact aw_zreturn hC hq rfl (Or.inr rfl) dX0_isAble_30 a_le a_le (aPure_i (by rw [show abV I wh x r = true from by simp only [abV]; rw [show (!(decide (wh = 1) && decide (60 ≤ r))) = true from by rw [Bool.not_eq_true', Bool.and_eq_false_iff]; by_cases e : wh = 1; (exact Or.inr (decide_eq_false (by omega))); (exact Or.inl (decide_eq_false e)), decide_eq_true (show wh = 3 ∨ wh = 4 by omega)]; rfl]; rfl))
    · show AW X 0 0 24 [some (.ref 38), some (.int (nI wh)), some (.int (nI x)), none] [] T I J R
      have h2n : ¬ wh = 3 := fun q9 => h2 ((nI_eq (a := wh) (b := 3) (by omega) (by omega)).mpr q9)
      refine aw_iload_n hC dX0_isAble_24 rfl ?_
      refine aw_iconst (v := 4) hC dX0_isAble_25 (by decide) ?_
      refine aw_icmp_ne (tgt := 31) hC dX0_isAble_26 (by decide) (fun h3 => ?_) (fun h3 => ?_)
      · show AW X 0 0 31 [some (.ref 38), some (.int (nI wh)), some (.int (nI x)), none] [] T I J R
        have h3n : ¬ wh = 4 := fun q9 => h3 ((nI_eq (a := wh) (b := 4) (by omega) (by omega)).mpr q9)
        refine aw_iconst (v := 0) hC dX0_isAble_31 (by decide) ?_
        refine aw_istore_n (L2 := [some (.ref 38), some (.int (nI wh)), some (.int (nI x)), some (.int 0)]) hC dX0_isAble_32 rfl (by decide) rfl ?_
        have loop : ∀ k, k ≤ 3 → (∀ a, a < k → I 34 (3 * x + a) ≠ -1) → AW X 0 0 33 [some (.ref 38), some (.int (nI wh)), some (.int (nI x)), some (.int (nI k))] [] T I J R := by
          refine a_down 3 (fun k hk_k ih_k => ?_)
          intro hall
          refine aw_iload_n hC dX0_isAble_33 rfl ?_
          refine aw_iconst (v := 3) hC dX0_isAble_34 (by decide) ?_
          refine aw_icmp_ge (tgt := 63) hC dX0_isAble_35 (by decide) (fun h4 => ?_) (fun h4 => ?_)
          · show AW X 0 0 63 [some (.ref 38), some (.int (nI wh)), some (.int (nI x)), some (.int (nI k))] [] T I J R
            have h4n : 3 ≤ k := (nI_leI (a := 3) (b := k) (by omega) (by omega)).mp h4
            refine aw_iconst (v := 1) hC dX0_isAble_63 (by decide) ?_
            exact aw_zreturn hC hq rfl (Or.inr rfl) dX0_isAble_64 a_le a_le (aPure_i (by rw [show abV I wh x r = true from by simp only [abV]; rw [show (!(decide (wh = 1) && decide (60 ≤ r))) = true from by rw [Bool.not_eq_true', Bool.and_eq_false_iff]; by_cases e : wh = 1; (exact Or.inr (decide_eq_false (by omega))); (exact Or.inl (decide_eq_false e)), allB_iff.mpr (fun a ha => decide_eq_true (hall a (by omega))), Bool.or_true]; rfl]; rfl))
          · show AW X 0 0 38 [some (.ref 38), some (.int (nI wh)), some (.int (nI x)), some (.int (nI k))] [] T I J R
            have h4n : ¬ 3 ≤ k := fun q9 => h4 ((nI_leI (a := 3) (b := k) (by omega) (by omega)).mpr q9)
            refine aw_aload_n hC dX0_isAble_38 rfl ?_
            refine aw_getR hC dX0_isAble_39 aF_X0_23 rfl (tg_38 hT) (pr_38_2 hR) ?_
            refine aw_getR hC dX0_isAble_42 aF_X0_83 rfl (tg_33 hT) (pr_33_0 hR) ?_
            refine aw_iload_n hC dX0_isAble_45 rfl ?_
            refine aw_iconst (v := 3) hC dX0_isAble_46 (by decide) ?_
            refine aw_imul hC dX0_isAble_47 ?_
            rw [show (nI x) * 3 = nI (x * 3) from pk_mul x 3]
            refine aw_iload_n hC dX0_isAble_48 rfl ?_
            refine aw_iadd hC dX0_isAble_49 ?_
            rw [show (nI (x * 3)) + (nI k) = nI ((x * 3) + k) from nI_add (x * 3) k]
            refine aw_iaload_k (j := ((x * 3) + k)) hC dX0_isAble_50 (tg_34 hT) (nI_clamp (by omega)) (vp_in_nI (by omega) (by decide)) ?_
            rw [(show I 34 ((x * 3) + k) = I 34 (3 * x + k) from by rw [Nat.mul_comm])]
            refine aw_iconst (v := (-1)) hC dX0_isAble_51 (by decide) ?_
            refine aw_icmp_ne (tgt := 57) hC dX0_isAble_52 (by decide) (fun h5 => ?_) (fun h5 => ?_)
            · show AW X 0 0 57 [some (.ref 38), some (.int (nI wh)), some (.int (nI x)), some (.int (nI k))] [] T I J R
              refine aw_iinc (v := nI (k + 1)) (L2 := [some (.ref 38), some (.int (nI wh)), some (.int (nI x)), some (.int (nI (k + 1)))]) hC dX0_isAble_57 rfl (nI_inc _) (by decide) rfl ?_
              refine aw_goto (tgt := 33) hC dX0_isAble_60 (by decide) ?_
              exact ih_k (by omega) (fun a ha => by by_cases e : a = k; (rw [e]; assumption); exact hall a (by omega))
            · show AW X 0 0 55 [some (.ref 38), some (.int (nI wh)), some (.int (nI x)), some (.int (nI k))] [] T I J R
              refine aw_iconst (v := 0) hC dX0_isAble_55 (by decide) ?_
              exact aw_zreturn hC hq rfl (Or.inl rfl) dX0_isAble_56 a_le a_le (aPure_i (by rw [show abV I wh x r = false from by simp only [abV]; rw [decide_eq_false (show ¬ (wh = 3 ∨ wh = 4) by omega), allB_fl (k := k) (by omega) (decide_eq_false (not_not_intro (by assumption))), Bool.false_or, Bool.and_false]]; rfl))
        exact loop 0 (Nat.zero_le _) (fun a ha => absurd ha (by omega))
      · show AW X 0 0 29 [some (.ref 38), some (.int (nI wh)), some (.int (nI x)), none] [] T I J R
        have h3n : wh = 4 := (nI_eq (a := wh) (b := 4) (by omega) (by omega)).mp h3
        refine aw_iconst (v := 1) hC dX0_isAble_29 (by decide) ?_
        exact aw_zreturn hC hq rfl (Or.inr rfl) dX0_isAble_30 a_le a_le (aPure_i (by rw [show abV I wh x r = true from by simp only [abV]; rw [show (!(decide (wh = 1) && decide (60 ≤ r))) = true from by rw [Bool.not_eq_true', Bool.and_eq_false_iff]; by_cases e : wh = 1; (exact Or.inr (decide_eq_false (by omega))); (exact Or.inl (decide_eq_false e)), decide_eq_true (show wh = 3 ∨ wh = 4 by omega)]; rfl]; rfl))
  · show AW X 0 0 5 [some (.ref 38), some (.int (nI wh)), some (.int (nI x)), none] [] T I J R
    have h1n : wh = 1 := (nI_eq (a := wh) (b := 1) (by omega) (by omega)).mp h1
    refine aw_aload_n hC dX0_isAble_5 rfl ?_
    refine aw_getR hC dX0_isAble_6 aF_X0_19 rfl (tg_38 hT) (pr_38_1 hR) ?_
    refine aw_getI hC dX0_isAble_9 aF_X0_80 rfl (tg_19 hT) ?_
    rw [hr9]
    refine aw_bipush (v := 60) hC dX0_isAble_12 (by decide) ?_
    refine aw_icmp_lt (tgt := 19) hC dX0_isAble_14 (by decide) (fun h6 => ?_) (fun h6 => ?_)
    · show AW X 0 0 19 [some (.ref 38), some (.int (nI wh)), some (.int (nI x)), none] [] T I J R
      have h6n : r < 60 := (nI_ltI (a := r) (b := 60) (by omega) (by omega)).mp h6
      refine aw_iload_n hC dX0_isAble_19 rfl ?_
      refine aw_iconst (v := 3) hC dX0_isAble_20 (by decide) ?_
      refine aw_icmp_eq (tgt := 29) hC dX0_isAble_21 (by decide) (fun h7 => ?_) (fun h7 => ?_)
      · show AW X 0 0 29 [some (.ref 38), some (.int (nI wh)), some (.int (nI x)), none] [] T I J R
        have h7n : wh = 3 := (nI_eq (a := wh) (b := 3) (by omega) (by omega)).mp h7
        refine aw_iconst (v := 1) hC dX0_isAble_29 (by decide) ?_
        exact aw_zreturn hC hq rfl (Or.inr rfl) dX0_isAble_30 a_le a_le (aPure_i (by rw [show abV I wh x r = true from by simp only [abV]; rw [show (!(decide (wh = 1) && decide (60 ≤ r))) = true from by rw [Bool.not_eq_true', Bool.and_eq_false_iff]; by_cases e : wh = 1; (exact Or.inr (decide_eq_false (by omega))); (exact Or.inl (decide_eq_false e)), decide_eq_true (show wh = 3 ∨ wh = 4 by omega)]; rfl]; rfl))
      · show AW X 0 0 24 [some (.ref 38), some (.int (nI wh)), some (.int (nI x)), none] [] T I J R
        have h7n : ¬ wh = 3 := fun q9 => h7 ((nI_eq (a := wh) (b := 3) (by omega) (by omega)).mpr q9)
        refine aw_iload_n hC dX0_isAble_24 rfl ?_
        refine aw_iconst (v := 4) hC dX0_isAble_25 (by decide) ?_
        refine aw_icmp_ne (tgt := 31) hC dX0_isAble_26 (by decide) (fun h8 => ?_) (fun h8 => ?_)
        · show AW X 0 0 31 [some (.ref 38), some (.int (nI wh)), some (.int (nI x)), none] [] T I J R
          have h8n : ¬ wh = 4 := fun q9 => h8 ((nI_eq (a := wh) (b := 4) (by omega) (by omega)).mpr q9)
          refine aw_iconst (v := 0) hC dX0_isAble_31 (by decide) ?_
          refine aw_istore_n (L2 := [some (.ref 38), some (.int (nI wh)), some (.int (nI x)), some (.int 0)]) hC dX0_isAble_32 rfl (by decide) rfl ?_
          have loop : ∀ k, k ≤ 3 → (∀ a, a < k → I 34 (3 * x + a) ≠ -1) → AW X 0 0 33 [some (.ref 38), some (.int (nI wh)), some (.int (nI x)), some (.int (nI k))] [] T I J R := by
            refine a_down 3 (fun k hk_k ih_k => ?_)
            intro hall
            refine aw_iload_n hC dX0_isAble_33 rfl ?_
            refine aw_iconst (v := 3) hC dX0_isAble_34 (by decide) ?_
            refine aw_icmp_ge (tgt := 63) hC dX0_isAble_35 (by decide) (fun h9 => ?_) (fun h9 => ?_)
            · show AW X 0 0 63 [some (.ref 38), some (.int (nI wh)), some (.int (nI x)), some (.int (nI k))] [] T I J R
              have h9n : 3 ≤ k := (nI_leI (a := 3) (b := k) (by omega) (by omega)).mp h9
              refine aw_iconst (v := 1) hC dX0_isAble_63 (by decide) ?_
              exact aw_zreturn hC hq rfl (Or.inr rfl) dX0_isAble_64 a_le a_le (aPure_i (by rw [show abV I wh x r = true from by simp only [abV]; rw [show (!(decide (wh = 1) && decide (60 ≤ r))) = true from by rw [Bool.not_eq_true', Bool.and_eq_false_iff]; by_cases e : wh = 1; (exact Or.inr (decide_eq_false (by omega))); (exact Or.inl (decide_eq_false e)), allB_iff.mpr (fun a ha => decide_eq_true (hall a (by omega))), Bool.or_true]; rfl]; rfl))
            · show AW X 0 0 38 [some (.ref 38), some (.int (nI wh)), some (.int (nI x)), some (.int (nI k))] [] T I J R
              have h9n : ¬ 3 ≤ k := fun q9 => h9 ((nI_leI (a := 3) (b := k) (by omega) (by omega)).mpr q9)
              refine aw_aload_n hC dX0_isAble_38 rfl ?_
              refine aw_getR hC dX0_isAble_39 aF_X0_23 rfl (tg_38 hT) (pr_38_2 hR) ?_
              refine aw_getR hC dX0_isAble_42 aF_X0_83 rfl (tg_33 hT) (pr_33_0 hR) ?_
              refine aw_iload_n hC dX0_isAble_45 rfl ?_
              refine aw_iconst (v := 3) hC dX0_isAble_46 (by decide) ?_
              refine aw_imul hC dX0_isAble_47 ?_
              rw [show (nI x) * 3 = nI (x * 3) from pk_mul x 3]
              refine aw_iload_n hC dX0_isAble_48 rfl ?_
              refine aw_iadd hC dX0_isAble_49 ?_
              rw [show (nI (x * 3)) + (nI k) = nI ((x * 3) + k) from nI_add (x * 3) k]
              refine aw_iaload_k (j := ((x * 3) + k)) hC dX0_isAble_50 (tg_34 hT) (nI_clamp (by omega)) (vp_in_nI (by omega) (by decide)) ?_
              rw [(show I 34 ((x * 3) + k) = I 34 (3 * x + k) from by rw [Nat.mul_comm])]
              refine aw_iconst (v := (-1)) hC dX0_isAble_51 (by decide) ?_
              refine aw_icmp_ne (tgt := 57) hC dX0_isAble_52 (by decide) (fun h10 => ?_) (fun h10 => ?_)
              · show AW X 0 0 57 [some (.ref 38), some (.int (nI wh)), some (.int (nI x)), some (.int (nI k))] [] T I J R
                refine aw_iinc (v := nI (k + 1)) (L2 := [some (.ref 38), some (.int (nI wh)), some (.int (nI x)), some (.int (nI (k + 1)))]) hC dX0_isAble_57 rfl (nI_inc _) (by decide) rfl ?_
                refine aw_goto (tgt := 33) hC dX0_isAble_60 (by decide) ?_
                exact ih_k (by omega) (fun a ha => by by_cases e : a = k; (rw [e]; assumption); exact hall a (by omega))
              · show AW X 0 0 55 [some (.ref 38), some (.int (nI wh)), some (.int (nI x)), some (.int (nI k))] [] T I J R
                refine aw_iconst (v := 0) hC dX0_isAble_55 (by decide) ?_
                exact aw_zreturn hC hq rfl (Or.inl rfl) dX0_isAble_56 a_le a_le (aPure_i (by rw [show abV I wh x r = false from by simp only [abV]; rw [decide_eq_false (show ¬ (wh = 3 ∨ wh = 4) by omega), allB_fl (k := k) (by omega) (decide_eq_false (not_not_intro (by assumption))), Bool.false_or, Bool.and_false]]; rfl))
          exact loop 0 (Nat.zero_le _) (fun a ha => absurd ha (by omega))
        · show AW X 0 0 29 [some (.ref 38), some (.int (nI wh)), some (.int (nI x)), none] [] T I J R
          have h8n : wh = 4 := (nI_eq (a := wh) (b := 4) (by omega) (by omega)).mp h8
          refine aw_iconst (v := 1) hC dX0_isAble_29 (by decide) ?_
          exact aw_zreturn hC hq rfl (Or.inr rfl) dX0_isAble_30 a_le a_le (aPure_i (by rw [show abV I wh x r = true from by simp only [abV]; rw [show (!(decide (wh = 1) && decide (60 ≤ r))) = true from by rw [Bool.not_eq_true', Bool.and_eq_false_iff]; by_cases e : wh = 1; (exact Or.inr (decide_eq_false (by omega))); (exact Or.inl (decide_eq_false e)), decide_eq_true (show wh = 3 ∨ wh = 4 by omega)]; rfl]; rfl))
    · show AW X 0 0 17 [some (.ref 38), some (.int (nI wh)), some (.int (nI x)), none] [] T I J R
      have h6n : ¬ r < 60 := fun q9 => h6 ((nI_ltI (a := r) (b := 60) (by omega) (by omega)).mpr q9)
      refine aw_iconst (v := 0) hC dX0_isAble_17 (by decide) ?_
      exact aw_zreturn hC hq rfl (Or.inl rfl) dX0_isAble_18 a_le a_le (aPure_i (by rw [show abV I wh x r = false from by simp only [abV]; rw [decide_eq_true (show wh = 1 by omega), decide_eq_true (show 60 ≤ r by omega)]; rfl]; rfl))
