theorem aw_forget {X : aX} {cells slots pc : Nat} {L : List (Option Value)} {st : List Value} {T : List aT} {I : aI} {J : aJ} {R : aR} (i : Nat) {L2 : List (Option Value)} (hL : L.set i none = L2) (k : AW X cells slots pc L2 st T I J R) : AW X cells slots pc L st T I J R := by
  subst hL
  obtain ⟨p, l, e, Rm, s, m, args, below, meth, c, Q, A, D, ad0, T0⟩ := X
  intro tys ad ws H locs ls h1 h2 h3 h4 h5 h6 hK hP hD hS hl
  refine k tys ad ws H locs ls h1 h2 (fun v hv => ?_) h4 h5 h6 hK hP hD hS (a_lv_le hl (fun q hq => ?_))
  · rcases List.mem_or_eq_of_mem_set hv with h | h
    · exact h3 v h
    · cases h
  · obtain ⟨v, g1, g2⟩ := a_lv_mem.mp hq
    refine a_lv_mem.mpr ⟨v, ?_, g2⟩
    rw [List.getElem?_set] at g1
    split at g1
    · split at g1 <;> simp at g1
    · exact g1
theorem a_u_swap {α : Type} {f : Nat → Nat → α} {o o2 k : Nat} {g : Nat → α} {v : α} (h : o ≠ o2) : a_u (a_ur f o2 g) o k v = a_ur (a_u f o k v) o2 g := by
  funext a b; simp only [a_u, a_ur]; by_cases h1 : a = o <;> by_cases h2 : a = o2 <;> by_cases h3 : b = k <;> simp_all [a_u]
theorem a_ur_swap {α : Type} {f : Nat → Nat → α} {o o2 : Nat} {g g2 : Nat → α} (h : o ≠ o2) : a_ur (a_ur f o2 g2) o g = a_ur (a_ur f o g) o2 g2 := by
  funext a; simp only [a_ur]; by_cases h1 : a = o <;> by_cases h2 : a = o2 <;> simp_all
theorem a_ur_2 {α : Type} {f : Nat → Nat → α} {o : Nat} {g g2 : Nat → α} : a_ur (a_ur f o g) o g2 = a_ur f o g2 := by
  funext a; simp only [a_ur]; by_cases h1 : a = o <;> simp_all
theorem a_ur_cg {α : Type} {f f2 : Nat → Nat → α} {o : Nat} {g h : Nat → α} (e1 : f = f2) (e : ∀ j, g j = h j) : a_ur f o g = a_ur f2 o h := by rw [e1, show g = h from funext e]
abbrev pubS (I : aI) (a v n : Nat) : Nat → Int32 := fun j => if j < n ∧ I 50 j = nI a ∧ I 51 j = 0 then nI v else I 51 j
set_option maxRecDepth 100000 in
theorem m_X12_publishF1 {T : List aT} {I : aI} {J : aJ} {R : aR} (hT : aPT T) (hR : aPR R) (x : Int32) (hx : ¬ (0 ≤ x ∧ x ≤ 2)) : MX12_publish 0 0 [.ref 44, .int x] T I J R (aPure (some (.int (0))) T (a_u I 44 61 1) J R) := by
  refine a_met (by decide +kernel) a_le (fun X hC hq => ?_)
  show AW X 0 0 0 [some (.ref 44), some (.int x), none] [] T I J R
  refine aw_aload_n hC dX12_publish_0 rfl ?_
  refine aw_iload_n hC dX12_publish_1 rfl ?_
  refine aw_iconst (v := 0) hC dX12_publish_2 (by decide) ?_
  refine aw_iconst (v := 2) hC dX12_publish_3 (by decide) ?_
  refine kX12_169 hC rfl (m_X12_isIn x (0 : Int32) (2 : Int32)) dX12_publish_4 rfl a_le a_le a_le a_le a_le rfl aPure_x (aPure_k ?_)
  show AW X 0 0 7 [some (.ref 44), some (.int x), none] [.int (bI (decide ((0 : Int32) ≤ x ∧ x ≤ (2 : Int32)))), .ref 44] T I J R
  rw [show bI (decide ((0 : Int32) ≤ x ∧ x ≤ (2 : Int32))) = 0 from bI_zero hx]
  refine aw_if_ne (tgt := 14) hC dX12_publish_7 (by decide) (fun h1 => absurd h1 (by decide)) (fun _ => ?_)
  show AW X 0 0 10 [some (.ref 44), some (.int x), none] [.ref 44] T I J R
  refine aw_iconst (v := 1) hC dX12_publish_10 (by decide) ?_
  refine aw_goto (tgt := 29) hC dX12_publish_11 (by decide) ?_
  refine aw_putI hC dX12_publish_29 aF_X12_166 rfl rfl (tg_44 hT) ?_
  refine aw_aload_n hC dX12_publish_32 rfl ?_
  refine aw_getI hC dX12_publish_33 aF_X12_166 rfl (tg_44 hT) ?_
  rw [a_u_self (f := I) (o := 44) (k := 61) (v := 1)]
  refine aw_if_le (tgt := 41) hC dX12_publish_36 (by decide) (fun h2 => absurd h2 (by decide)) (fun _ => ?_)
  show AW X 0 0 39 [some (.ref 44), some (.int x), none] [] T (a_u I 44 61 1) J R
  refine aw_iconst (v := 0) hC dX12_publish_39 (by decide) ?_
  exact aw_ireturn hC hq rfl dX12_publish_40 a_le a_le (aPure_e (by clear hC hq; (try simp only [bI_e0, bI_n0, decide_eq_false_iff_not, decide_eq_true_eq, Classical.not_not] at *) <;> first | grind [nI_p1, a_u_2] | (exfalso; (simp only [i_le, i_lt, i_eq, Int32.reduceToInt] at *); omega)) (by clear hC hq; (try simp only [bI_e0, bI_n0, decide_eq_false_iff_not, decide_eq_true_eq, Classical.not_not] at *) <;> first | grind [nI_p1, a_u_2] | (exfalso; (simp only [i_le, i_lt, i_eq, Int32.reduceToInt] at *); omega)) rfl rfl)
set_option maxRecDepth 100000 in
theorem m_X12_publishF2 {T : List aT} {I : aI} {J : aJ} {R : aR} (hT : aPT T) (hR : aPR R) {a : Nat} (ha : a < 3) (hv : NR I 53 3 4) (h3 : iN I 53 a = 3) : MX12_publish 0 0 [.ref 44, .int (nI a)] T I J R (aPure (some (.int (0))) T (a_u I 44 61 2) J R) := by
  refine a_met (by decide +kernel) a_le (fun X hC hq => ?_)
  show AW X 0 0 0 [some (.ref 44), some (.int (nI a)), none] [] T I J R
  refine aw_aload_n hC dX12_publish_0 rfl ?_
  refine aw_iload_n hC dX12_publish_1 rfl ?_
  refine aw_iconst (v := 0) hC dX12_publish_2 (by decide) ?_
  refine aw_iconst (v := 2) hC dX12_publish_3 (by decide) ?_
  refine kX12_169 hC rfl (m_X12_isIn (nI a) (0 : Int32) (2 : Int32)) dX12_publish_4 rfl a_le a_le a_le a_le a_le rfl aPure_x (aPure_k ?_)
  show AW X 0 0 7 [some (.ref 44), some (.int (nI a)), none] [.int (bI (decide ((0 : Int32) ≤ (nI a) ∧ (nI a) ≤ (2 : Int32)))), .ref 44] T I J R
  rw [show bI (decide ((0 : Int32) ≤ (nI a) ∧ (nI a) ≤ (2 : Int32))) = 1 from bI_one ⟨nI_pos' (by omega), nI_le (b := 2) (by omega) (by omega)⟩]
  refine aw_if_ne (tgt := 14) hC dX12_publish_7 (by decide) (fun _ => ?_) (fun h1 => absurd h1 (by decide))
  show AW X 0 0 14 [some (.ref 44), some (.int (nI a)), none] [.ref 44] T I J R
  refine aw_aload_n hC dX12_publish_14 rfl ?_
  refine aw_getR hC dX12_publish_15 aF_X12_35 rfl (tg_44 hT) (pr_44_9 hR) ?_
  refine aw_iload_n hC dX12_publish_18 rfl ?_
  refine aw_iaload_k (j := a) hC dX12_publish_19 (tg_53 hT) (nI_clamp (by omega)) (vp_in_nI (by omega) (by decide)) ?_
  have hb2 := hv a (by omega)
  rw [hb2.1]
  refine aw_iconst (v := 3) hC dX12_publish_20 (by decide) ?_
  refine aw_icmp_ne (tgt := 28) hC dX12_publish_21 (by decide) (fun h3 => ?_) (fun h3 => ?_)
  · show AW X 0 0 28 [some (.ref 44), some (.int (nI a)), none] [.ref 44] T I J R
    have h3n : ¬ (iN I 53 a) = 3 := fun q9 => h3 ((nI_eq (a := (iN I 53 a)) (b := 3) (by omega) (by omega)).mpr q9)
    refine aw_iconst (v := 0) hC dX12_publish_28 (by decide) ?_
    refine aw_putI hC dX12_publish_29 aF_X12_166 rfl rfl (tg_44 hT) ?_
    refine aw_aload_n hC dX12_publish_32 rfl ?_
    refine aw_getI hC dX12_publish_33 aF_X12_166 rfl (tg_44 hT) ?_
    rw [a_u_self (f := I) (o := 44) (k := 61) (v := 0)]
    refine aw_if_le (tgt := 41) hC dX12_publish_36 (by decide) (fun _ => ?_) (fun h4 => absurd h4 (by decide))
    show AW X 0 0 41 [some (.ref 44), some (.int (nI a)), none] [] T (a_u I 44 61 0) J R
    exfalso; omega
  · show AW X 0 0 24 [some (.ref 44), some (.int (nI a)), none] [.ref 44] T I J R
    have h3n : (iN I 53 a) = 3 := (nI_eq (a := (iN I 53 a)) (b := 3) (by omega) (by omega)).mp h3
    refine aw_iconst (v := 2) hC dX12_publish_24 (by decide) ?_
    refine aw_goto (tgt := 29) hC dX12_publish_25 (by decide) ?_
    refine aw_putI hC dX12_publish_29 aF_X12_166 rfl rfl (tg_44 hT) ?_
    refine aw_aload_n hC dX12_publish_32 rfl ?_
    refine aw_getI hC dX12_publish_33 aF_X12_166 rfl (tg_44 hT) ?_
    rw [a_u_self (f := I) (o := 44) (k := 61) (v := 2)]
    refine aw_if_le (tgt := 41) hC dX12_publish_36 (by decide) (fun h5 => absurd h5 (by decide)) (fun _ => ?_)
    show AW X 0 0 39 [some (.ref 44), some (.int (nI a)), none] [] T (a_u I 44 61 2) J R
    refine aw_iconst (v := 0) hC dX12_publish_39 (by decide) ?_
    exact aw_ireturn hC hq rfl dX12_publish_40 a_le a_le (aPure_e (by clear hC hq; (try simp only [bI_e0, bI_n0, decide_eq_false_iff_not, decide_eq_true_eq, Classical.not_not] at *) <;> first | grind [nI_p1, a_u_2] | (exfalso; (simp only [i_le, i_lt, i_eq, Int32.reduceToInt] at *); omega)) (by clear hC hq; (try simp only [bI_e0, bI_n0, decide_eq_false_iff_not, decide_eq_true_eq, Classical.not_not] at *) <;> first | grind [nI_p1, a_u_2] | (exfalso; (simp only [i_le, i_lt, i_eq, Int32.reduceToInt] at *); omega)) rfl rfl)
set_option maxRecDepth 100000 in
theorem m_X12_publishT {T : List aT} {I : aI} {J : aJ} {R : aR} (hT : aPT T) (hR : aPR R) {a : Nat} (ha : a < 3) (hv : NR I 53 3 4) (h3 : iN I 53 a < 3) {n : Nat} (hn : I 44 0 = nI n) (hn30 : n ≤ 30) : MX12_publish 0 0 [.ref 44, .int (nI a)] T I J R (aPure (some (.int (nI (iN I 53 a + 1)))) T (a_ur (a_u (a_u I 44 61 0) 53 a (nI (iN I 53 a + 1))) 51 (pubS I a (iN I 53 a + 1) n)) J R) := by
  refine a_met (by decide +kernel) a_le (fun X hC hq => ?_)
  show AW X 0 0 0 [some (.ref 44), some (.int (nI a)), none] [] T I J R
  refine aw_aload_n hC dX12_publish_0 rfl ?_
  refine aw_iload_n hC dX12_publish_1 rfl ?_
  refine aw_iconst (v := 0) hC dX12_publish_2 (by decide) ?_
  refine aw_iconst (v := 2) hC dX12_publish_3 (by decide) ?_
  refine kX12_169 hC rfl (m_X12_isIn (nI a) (0 : Int32) (2 : Int32)) dX12_publish_4 rfl a_le a_le a_le a_le a_le rfl aPure_x (aPure_k ?_)
  show AW X 0 0 7 [some (.ref 44), some (.int (nI a)), none] [.int (bI (decide ((0 : Int32) ≤ (nI a) ∧ (nI a) ≤ (2 : Int32)))), .ref 44] T I J R
  rw [show bI (decide ((0 : Int32) ≤ (nI a) ∧ (nI a) ≤ (2 : Int32))) = 1 from bI_one ⟨nI_pos' (by omega), nI_le (b := 2) (by omega) (by omega)⟩]
  refine aw_if_ne (tgt := 14) hC dX12_publish_7 (by decide) (fun _ => ?_) (fun h1 => absurd h1 (by decide))
  show AW X 0 0 14 [some (.ref 44), some (.int (nI a)), none] [.ref 44] T I J R
  refine aw_aload_n hC dX12_publish_14 rfl ?_
  refine aw_getR hC dX12_publish_15 aF_X12_35 rfl (tg_44 hT) (pr_44_9 hR) ?_
  refine aw_iload_n hC dX12_publish_18 rfl ?_
  refine aw_iaload_k (j := a) hC dX12_publish_19 (tg_53 hT) (nI_clamp (by omega)) (vp_in_nI (by omega) (by decide)) ?_
  have hb2 := hv a (by omega)
  rw [hb2.1]
  refine aw_iconst (v := 3) hC dX12_publish_20 (by decide) ?_
  refine aw_icmp_ne (tgt := 28) hC dX12_publish_21 (by decide) (fun h3 => ?_) (fun h3 => ?_)
  · show AW X 0 0 28 [some (.ref 44), some (.int (nI a)), none] [.ref 44] T I J R
    have h3n : ¬ (iN I 53 a) = 3 := fun q9 => h3 ((nI_eq (a := (iN I 53 a)) (b := 3) (by omega) (by omega)).mpr q9)
    refine aw_iconst (v := 0) hC dX12_publish_28 (by decide) ?_
    refine aw_putI hC dX12_publish_29 aF_X12_166 rfl rfl (tg_44 hT) ?_
    refine aw_aload_n hC dX12_publish_32 rfl ?_
    refine aw_getI hC dX12_publish_33 aF_X12_166 rfl (tg_44 hT) ?_
    rw [a_u_self (f := I) (o := 44) (k := 61) (v := 0)]
    refine aw_if_le (tgt := 41) hC dX12_publish_36 (by decide) (fun _ => ?_) (fun h4 => absurd h4 (by decide))
    show AW X 0 0 41 [some (.ref 44), some (.int (nI a)), none] [] T (a_u I 44 61 0) J R
    refine aw_aload_n hC dX12_publish_41 rfl ?_
    refine aw_getR hC dX12_publish_42 aF_X12_35 rfl (tg_44 hT) (pr_44_9 hR) ?_
    refine aw_iload_n hC dX12_publish_45 rfl ?_
    refine aw_dup2 hC dX12_publish_46 rfl rfl ?_
    refine aw_iaload_k (j := a) hC dX12_publish_47 (tg_53 hT) (nI_clamp (by omega)) (vp_in_nI (by omega) (by decide)) ?_
    rw [a_u_ne (f := I) (o := 44) (k := 61) (a := 53) (b := a) (v := 0) (fun q => absurd q.1 (by decide))]
    have hb5 := hv a (by omega)
    rw [hb5.1]
    refine aw_iconst (v := 1) hC dX12_publish_48 (by decide) ?_
    refine aw_iadd hC dX12_publish_49 ?_
    rw [show (nI (iN I 53 a)) + 1 = nI ((iN I 53 a) + 1) from nI_add (iN I 53 a) 1]
    refine aw_iastore_k (j := a) hC dX12_publish_50 (tg_53 hT) (nI_clamp (by omega)) (vp_in_nI (by omega) (by decide)) ?_
    refine aw_iconst (v := 0) hC dX12_publish_51 (by decide) ?_
    refine aw_istore_n (L2 := [some (.ref 44), some (.int (nI a)), some (.int 0)]) hC dX12_publish_52 rfl (by decide) rfl ?_
    have e0 : a_u (a_u I 44 61 0) 53 a (nI (iN I 53 a + 1)) = a_ur (a_u (a_u I 44 61 0) 53 a (nI (iN I 53 a + 1))) 51 (pubS I a (iN I 53 a + 1) 0) := ((a_ur_id (fun j => by rw [pubS, if_neg (by omega), a_u_ne (fun q => absurd q.1 (by decide)), a_u_ne (fun q => absurd q.1 (by decide))])).symm)
    rw [e0]
    have loop : ∀ k, k ≤ n → AW X 0 0 53 [some (.ref 44), some (.int (nI a)), some (.int (nI k))] [] T (a_ur (a_u (a_u I 44 61 0) 53 a (nI (iN I 53 a + 1))) 51 (pubS I a (iN I 53 a + 1) k)) J R := by
      refine a_down n (fun k hkloop ihloop => ?_)
      refine aw_iload_n hC dX12_publish_53 rfl ?_
      refine aw_aload_n hC dX12_publish_54 rfl ?_
      refine aw_getI hC dX12_publish_55 aF_X12_183 rfl (tg_44 hT) ?_
      rw [a_ur_ne (f := a_u (a_u I 44 61 0) 53 a (nI (iN I 53 a + 1))) (o := 51) (a := 44) (g := pubS I a (iN I 53 a + 1) k) (by decide)]
      rw [a_u_ne (f := a_u I 44 61 0) (o := 53) (k := a) (a := 44) (b := 0) (v := nI (iN I 53 a + 1)) (fun q => absurd q.1 (by decide))]
      rw [a_u_ne (f := I) (o := 44) (k := 61) (a := 44) (b := 0) (v := 0) (fun q => absurd q.2 (by decide))]
      rw [hn]
      refine aw_icmp_ge (tgt := 107) hC dX12_publish_58 (by decide) (fun h6 => ?_) (fun h6 => ?_)
      · show AW X 0 0 107 [some (.ref 44), some (.int (nI a)), some (.int (nI k))] [] T (a_ur (a_u (a_u I 44 61 0) 53 a (nI (iN I 53 a + 1))) 51 (pubS I a (iN I 53 a + 1) k)) J R
        have h6n : n ≤ k := (nI_leI (a := n) (b := k) (by omega) (by omega)).mp h6
        refine aw_aload_n hC dX12_publish_107 rfl ?_
        refine aw_getR hC dX12_publish_108 aF_X12_35 rfl (tg_44 hT) (pr_44_9 hR) ?_
        refine aw_iload_n hC dX12_publish_111 rfl ?_
        refine aw_iaload_k (j := a) hC dX12_publish_112 (tg_53 hT) (nI_clamp (by omega)) (vp_in_nI (by omega) (by decide)) ?_
        rw [a_ur_ne (f := a_u (a_u I 44 61 0) 53 a (nI (iN I 53 a + 1))) (o := 51) (a := 53) (g := pubS I a (iN I 53 a + 1) k) (by decide)]
        rw [a_u_self (f := a_u I 44 61 0) (o := 53) (k := a) (v := nI (iN I 53 a + 1))]
        exact aw_ireturn hC hq rfl dX12_publish_113 a_le a_le (aPure_e rfl (by rw [show k = n from by omega]) rfl rfl)
      · show AW X 0 0 61 [some (.ref 44), some (.int (nI a)), some (.int (nI k))] [] T (a_ur (a_u (a_u I 44 61 0) 53 a (nI (iN I 53 a + 1))) 51 (pubS I a (iN I 53 a + 1) k)) J R
        have h6n : ¬ n ≤ k := fun q9 => h6 ((nI_leI (a := n) (b := k) (by omega) (by omega)).mpr q9)
        refine aw_aload_n hC dX12_publish_61 rfl ?_
        refine aw_getR hC dX12_publish_62 aF_X12_28 rfl (tg_44 hT) (pr_44_7 hR) ?_
        refine aw_iload_n hC dX12_publish_65 rfl ?_
        refine aw_aload_n hC dX12_publish_66 rfl ?_
        refine aw_getR hC dX12_publish_67 aF_X12_25 rfl (tg_44 hT) (pr_44_6 hR) ?_
        refine aw_iload_n hC dX12_publish_70 rfl ?_
        refine aw_iaload_k (j := k) hC dX12_publish_71 (tg_50 hT) (nI_clamp (by omega)) (vp_in_nI (by omega) (by decide)) ?_
        rw [a_ur_ne (f := a_u (a_u I 44 61 0) 53 a (nI (iN I 53 a + 1))) (o := 51) (a := 50) (g := pubS I a (iN I 53 a + 1) k) (by decide)]
        rw [a_u_ne (f := a_u I 44 61 0) (o := 53) (k := a) (a := 50) (b := k) (v := nI (iN I 53 a + 1)) (fun q => absurd q.1 (by decide))]
        rw [a_u_ne (f := I) (o := 44) (k := 61) (a := 50) (b := k) (v := 0) (fun q => absurd q.1 (by decide))]
        refine aw_iload_n hC dX12_publish_72 rfl ?_
        refine aw_icmp_ne (tgt := 94) hC dX12_publish_73 (by decide) (fun h7 => ?_) (fun h7 => ?_)
        · show AW X 0 0 94 [some (.ref 44), some (.int (nI a)), some (.int (nI k))] [.int (nI k), .ref 51] T (a_ur (a_u (a_u I 44 61 0) 53 a (nI (iN I 53 a + 1))) 51 (pubS I a (iN I 53 a + 1) k)) J R
          refine aw_aload_n hC dX12_publish_94 rfl ?_
          refine aw_getR hC dX12_publish_95 aF_X12_28 rfl (tg_44 hT) (pr_44_7 hR) ?_
          refine aw_iload_n hC dX12_publish_98 rfl ?_
          refine aw_iaload_k (j := k) hC dX12_publish_99 (tg_51 hT) (nI_clamp (by omega)) (vp_in_nI (by omega) (by decide)) ?_
          rw [a_ur_self (f := a_u (a_u I 44 61 0) 53 a (nI (iN I 53 a + 1))) (o := 51) (g := pubS I a (iN I 53 a + 1) k)]
          refine aw_iastore_k (j := k) hC dX12_publish_100 (tg_51 hT) (nI_clamp (by omega)) (vp_in_nI (by omega) (by decide)) ?_
          refine aw_iinc (v := nI (k + 1)) (L2 := [some (.ref 44), some (.int (nI a)), some (.int (nI (k + 1)))]) hC dX12_publish_101 rfl (nI_inc _) (by decide) rfl ?_
          refine aw_goto (tgt := 53) hC dX12_publish_104 (by decide) ?_
          rw [show a_u (a_ur (a_u (a_u I 44 61 0) 53 a (nI (iN I 53 a + 1))) 51 (pubS I a (iN I 53 a + 1) k)) 51 k ((pubS I a (iN I 53 a + 1) k) k) = a_ur (a_u (a_u I 44 61 0) 53 a (nI (iN I 53 a + 1))) 51 (pubS I a (iN I 53 a + 1) (k + 1)) from by rw [a_ur_put]; exact a_ur_ext (fun j => by clear hC hq; (try dsimp only at *); grind)]
          exact ihloop (by omega) 
        · show AW X 0 0 76 [some (.ref 44), some (.int (nI a)), some (.int (nI k))] [.int (nI k), .ref 51] T (a_ur (a_u (a_u I 44 61 0) 53 a (nI (iN I 53 a + 1))) 51 (pubS I a (iN I 53 a + 1) k)) J R
          refine aw_aload_n hC dX12_publish_76 rfl ?_
          refine aw_getR hC dX12_publish_77 aF_X12_28 rfl (tg_44 hT) (pr_44_7 hR) ?_
          refine aw_iload_n hC dX12_publish_80 rfl ?_
          refine aw_iaload_k (j := k) hC dX12_publish_81 (tg_51 hT) (nI_clamp (by omega)) (vp_in_nI (by omega) (by decide)) ?_
          rw [a_ur_self (f := a_u (a_u I 44 61 0) 53 a (nI (iN I 53 a + 1))) (o := 51) (g := pubS I a (iN I 53 a + 1) k)]
          refine aw_if_ne (tgt := 94) hC dX12_publish_82 (by decide) (fun h8 => ?_) (fun h8 => ?_)
          · show AW X 0 0 94 [some (.ref 44), some (.int (nI a)), some (.int (nI k))] [.int (nI k), .ref 51] T (a_ur (a_u (a_u I 44 61 0) 53 a (nI (iN I 53 a + 1))) 51 (pubS I a (iN I 53 a + 1) k)) J R
            refine aw_aload_n hC dX12_publish_94 rfl ?_
            refine aw_getR hC dX12_publish_95 aF_X12_28 rfl (tg_44 hT) (pr_44_7 hR) ?_
            refine aw_iload_n hC dX12_publish_98 rfl ?_
            refine aw_iaload_k (j := k) hC dX12_publish_99 (tg_51 hT) (nI_clamp (by omega)) (vp_in_nI (by omega) (by decide)) ?_
            rw [a_ur_self (f := a_u (a_u I 44 61 0) 53 a (nI (iN I 53 a + 1))) (o := 51) (g := pubS I a (iN I 53 a + 1) k)]
            refine aw_iastore_k (j := k) hC dX12_publish_100 (tg_51 hT) (nI_clamp (by omega)) (vp_in_nI (by omega) (by decide)) ?_
            refine aw_iinc (v := nI (k + 1)) (L2 := [some (.ref 44), some (.int (nI a)), some (.int (nI (k + 1)))]) hC dX12_publish_101 rfl (nI_inc _) (by decide) rfl ?_
            refine aw_goto (tgt := 53) hC dX12_publish_104 (by decide) ?_
            rw [show a_u (a_ur (a_u (a_u I 44 61 0) 53 a (nI (iN I 53 a + 1))) 51 (pubS I a (iN I 53 a + 1) k)) 51 k ((pubS I a (iN I 53 a + 1) k) k) = a_ur (a_u (a_u I 44 61 0) 53 a (nI (iN I 53 a + 1))) 51 (pubS I a (iN I 53 a + 1) (k + 1)) from by rw [a_ur_put]; exact a_ur_ext (fun j => by clear hC hq; (try dsimp only at *); grind)]
            exact ihloop (by omega) 
          · show AW X 0 0 85 [some (.ref 44), some (.int (nI a)), some (.int (nI k))] [.int (nI k), .ref 51] T (a_ur (a_u (a_u I 44 61 0) 53 a (nI (iN I 53 a + 1))) 51 (pubS I a (iN I 53 a + 1) k)) J R
            refine aw_aload_n hC dX12_publish_85 rfl ?_
            refine aw_getR hC dX12_publish_86 aF_X12_35 rfl (tg_44 hT) (pr_44_9 hR) ?_
            refine aw_iload_n hC dX12_publish_89 rfl ?_
            refine aw_iaload_k (j := a) hC dX12_publish_90 (tg_53 hT) (nI_clamp (by omega)) (vp_in_nI (by omega) (by decide)) ?_
            rw [a_ur_ne (f := a_u (a_u I 44 61 0) 53 a (nI (iN I 53 a + 1))) (o := 51) (a := 53) (g := pubS I a (iN I 53 a + 1) k) (by decide)]
            rw [a_u_self (f := a_u I 44 61 0) (o := 53) (k := a) (v := nI (iN I 53 a + 1))]
            refine aw_goto (tgt := 100) hC dX12_publish_91 (by decide) ?_
            refine aw_iastore_k (j := k) hC dX12_publish_100 (tg_51 hT) (nI_clamp (by omega)) (vp_in_nI (by omega) (by decide)) ?_
            refine aw_iinc (v := nI (k + 1)) (L2 := [some (.ref 44), some (.int (nI a)), some (.int (nI (k + 1)))]) hC dX12_publish_101 rfl (nI_inc _) (by decide) rfl ?_
            refine aw_goto (tgt := 53) hC dX12_publish_104 (by decide) ?_
            rw [show a_u (a_ur (a_u (a_u I 44 61 0) 53 a (nI (iN I 53 a + 1))) 51 (pubS I a (iN I 53 a + 1) k)) 51 k (nI (iN I 53 a + 1)) = a_ur (a_u (a_u I 44 61 0) 53 a (nI (iN I 53 a + 1))) 51 (pubS I a (iN I 53 a + 1) (k + 1)) from by rw [a_ur_put]; exact a_ur_ext (fun j => by clear hC hq; (try dsimp only at *); grind)]
            exact ihloop (by omega) 
    exact loop 0 (Nat.zero_le _)
  · show AW X 0 0 24 [some (.ref 44), some (.int (nI a)), none] [.ref 44] T I J R
    have h3n : (iN I 53 a) = 3 := (nI_eq (a := (iN I 53 a)) (b := 3) (by omega) (by omega)).mp h3
    refine aw_iconst (v := 2) hC dX12_publish_24 (by decide) ?_
    refine aw_goto (tgt := 29) hC dX12_publish_25 (by decide) ?_
    refine aw_putI hC dX12_publish_29 aF_X12_166 rfl rfl (tg_44 hT) ?_
    refine aw_aload_n hC dX12_publish_32 rfl ?_
    refine aw_getI hC dX12_publish_33 aF_X12_166 rfl (tg_44 hT) ?_
    rw [a_u_self (f := I) (o := 44) (k := 61) (v := 2)]
    refine aw_if_le (tgt := 41) hC dX12_publish_36 (by decide) (fun h9 => absurd h9 (by decide)) (fun _ => ?_)
    show AW X 0 0 39 [some (.ref 44), some (.int (nI a)), none] [] T (a_u I 44 61 2) J R
    refine aw_iconst (v := 0) hC dX12_publish_39 (by decide) ?_
    exact aw_ireturn hC hq rfl dX12_publish_40 a_le a_le (by exfalso; omega)
def sTurn (I : aI) (t s : Int32) : Int32 := if s < 10 then s else if I 62 ((s - 10) / 3).toNatClampNeg ≠ t then s else if (s - 10) - (s - 10) / 3 * 3 = 2 then s else if (s - 10) - (s - 10) / 3 * 3 = 0 then s + 1 else s - 1
abbrev chgR (f : Nat → Int32) (at0 : Nat) : Nat → Int32 := fun j => if j = at0 + 2 then 2 * f (at0 + 2) else if j = at0 + 1 then 2 * f at0 else if j = at0 then 2 * f (at0 + 1) else f j
set_option maxRecDepth 100000 in
theorem m_X12_turned {T : List aT} {I : aI} {J : aJ} {R : aR} (hT : aPT T) (hR : aPR R) (s t : Int32) (hs : 10 ≤ s → vp_in ((s - 10) / 3) 4) : MX12_turned 0 0 [.ref 44, .int s, .int t] T I J R (aPure (some (.int (sTurn I t s))) T I J R) := by
  refine a_met (by decide +kernel) a_le (fun X hC hq => ?_)
  show AW X 0 0 0 [some (.ref 44), some (.int s), some (.int t)] [] T I J R
  refine aw_iload_n hC dX12_turned_0 rfl ?_
  refine aw_bipush (v := 10) hC dX12_turned_1 (by decide) ?_
  refine aw_icmp_lt (tgt := 29) hC dX12_turned_3 (by decide) (fun h1 => ?_) (fun h1 => ?_)
  · show AW X 0 0 29 [some (.ref 44), some (.int s), some (.int t)] [] T I J R
    refine aw_iload_n hC dX12_turned_29 rfl ?_
    exact aw_ireturn hC hq rfl dX12_turned_30 a_le a_le (aPure_i (by clear hC hq; (try simp only [bI_e0, bI_n0, decide_eq_false_iff_not, decide_eq_true_eq, Classical.not_not] at *); unfold sTurn; grind))
  · show AW X 0 0 6 [some (.ref 44), some (.int s), some (.int t)] [] T I J R
    refine aw_aload_n hC dX12_turned_6 rfl ?_
    refine aw_getR hC dX12_turned_7 aF_X12_62 rfl (tg_44 hT) (pr_44_21 hR) ?_
    refine aw_iload_n hC dX12_turned_10 rfl ?_
    refine kX12_333 hC rfl (m_X12_sourceOf s) dX12_turned_11 rfl a_le a_le a_le a_le a_le rfl aPure_x (aPure_k ?_)
    show AW X 0 0 14 [some (.ref 44), some (.int s), some (.int t)] [.int ((s - 10) / 3), .ref 62] T I J R
    refine aw_iaload_k (j := ((s - 10) / 3).toNatClampNeg) hC dX12_turned_14 (tg_62 hT) rfl (hs (by first | assumption | exact Int32.not_lt.mp (by assumption))) ?_
    refine aw_iload_n hC dX12_turned_15 rfl ?_
    refine aw_icmp_ne (tgt := 29) hC dX12_turned_16 (by decide) (fun h2 => ?_) (fun h2 => ?_)
    · show AW X 0 0 29 [some (.ref 44), some (.int s), some (.int t)] [] T I J R
      refine aw_iload_n hC dX12_turned_29 rfl ?_
      exact aw_ireturn hC hq rfl dX12_turned_30 a_le a_le (aPure_i (by clear hC hq; (try simp only [bI_e0, bI_n0, decide_eq_false_iff_not, decide_eq_true_eq, Classical.not_not] at *); unfold sTurn; grind))
    · show AW X 0 0 19 [some (.ref 44), some (.int s), some (.int t)] [] T I J R
      refine aw_iload_n hC dX12_turned_19 rfl ?_
      refine aw_bipush (v := 10) hC dX12_turned_20 (by decide) ?_
      refine aw_isub hC dX12_turned_22 ?_
      refine aw_iconst (v := 3) hC dX12_turned_23 (by decide) ?_
      refine aw_irem hC dX12_turned_24 (by decide) ?_
      refine aw_iconst (v := 2) hC dX12_turned_25 (by decide) ?_
      refine aw_icmp_ne (tgt := 31) hC dX12_turned_26 (by decide) (fun h3 => ?_) (fun h3 => ?_)
      · show AW X 0 0 31 [some (.ref 44), some (.int s), some (.int t)] [] T I J R
        refine aw_iload_n hC dX12_turned_31 rfl ?_
        refine aw_bipush (v := 10) hC dX12_turned_32 (by decide) ?_
        refine aw_isub hC dX12_turned_34 ?_
        refine aw_iconst (v := 3) hC dX12_turned_35 (by decide) ?_
        refine aw_irem hC dX12_turned_36 (by decide) ?_
        refine aw_if_ne (tgt := 46) hC dX12_turned_37 (by decide) (fun h4 => ?_) (fun h4 => ?_)
        · show AW X 0 0 46 [some (.ref 44), some (.int s), some (.int t)] [] T I J R
          refine aw_iload_n hC dX12_turned_46 rfl ?_
          refine aw_iconst (v := 1) hC dX12_turned_47 (by decide) ?_
          refine aw_isub hC dX12_turned_48 ?_
          exact aw_ireturn hC hq rfl dX12_turned_49 a_le a_le (aPure_i (by clear hC hq; (try simp only [bI_e0, bI_n0, decide_eq_false_iff_not, decide_eq_true_eq, Classical.not_not] at *); unfold sTurn; grind))
        · show AW X 0 0 40 [some (.ref 44), some (.int s), some (.int t)] [] T I J R
          refine aw_iload_n hC dX12_turned_40 rfl ?_
          refine aw_iconst (v := 1) hC dX12_turned_41 (by decide) ?_
          refine aw_iadd hC dX12_turned_42 ?_
          refine aw_goto (tgt := 49) hC dX12_turned_43 (by decide) ?_
          exact aw_ireturn hC hq rfl dX12_turned_49 a_le a_le (aPure_i (by clear hC hq; (try simp only [bI_e0, bI_n0, decide_eq_false_iff_not, decide_eq_true_eq, Classical.not_not] at *); unfold sTurn; grind))
      · show AW X 0 0 29 [some (.ref 44), some (.int s), some (.int t)] [] T I J R
        refine aw_iload_n hC dX12_turned_29 rfl ?_
        exact aw_ireturn hC hq rfl dX12_turned_30 a_le a_le (aPure_i (by clear hC hq; (try simp only [bI_e0, bI_n0, decide_eq_false_iff_not, decide_eq_true_eq, Classical.not_not] at *); unfold sTurn; grind))
theorem chg_lem {I : aI} {r m : Nat} : a_u (a_u (a_u I r m (2 * I r (m + 1))) r (m + 1) (2 * I r m)) r (m + 2) (2 * a_u (a_u I r m (2 * I r (m + 1))) r (m + 1) (2 * I r m) r (m + 2)) = a_ur I r (chgR (I r) m) := by
  funext x9 y9
  by_cases h9 : x9 = r
  · subst h9; rw [a_ur_self]; simp only [a_u, true_and]; grind
  · rw [a_ur_ne h9, a_u_ne (fun q => h9 q.1), a_u_ne (fun q => h9 q.1), a_u_ne (fun q => h9 q.1)]
set_option maxRecDepth 100000 in
theorem m_X12_changes70 {T : List aT} {I : aI} {J : aJ} {R : aR} (hT : aPT T) (hR : aPR R) {m : Nat} (hm : m + 2 < 192) : MX12_changes 0 0 [.ref 44, .ref 70, .int (nI m)] T I J R (aPure none T (a_ur I 70 (chgR (I 70) m)) J R) := by
  refine a_met (by decide +kernel) a_le (fun X hC hq => ?_)
  show AW X 0 0 0 [some (.ref 44), some (.ref 70), some (.int (nI m)), none] [] T I J R
  refine aw_aload_n hC dX12_changes_0 rfl ?_
  refine aw_iload_n hC dX12_changes_1 rfl ?_
  refine aw_iaload_k (j := m) hC dX12_changes_2 (tg_70 hT) (nI_clamp (by omega)) (vp_in_nI (by omega) (by decide)) ?_
  refine aw_istore_n (L2 := [some (.ref 44), some (.ref 70), some (.int (nI m)), some (.int (I 70 m))]) hC dX12_changes_3 rfl (by decide) rfl ?_
  refine aw_aload_n hC dX12_changes_4 rfl ?_
  refine aw_iload_n hC dX12_changes_5 rfl ?_
  refine aw_iconst (v := 2) hC dX12_changes_6 (by decide) ?_
  refine aw_aload_n hC dX12_changes_7 rfl ?_
  refine aw_iload_n hC dX12_changes_8 rfl ?_
  refine aw_iconst (v := 1) hC dX12_changes_9 (by decide) ?_
  refine aw_iadd hC dX12_changes_10 ?_
  rw [show (nI m) + 1 = nI (m + 1) from nI_add m 1]
  refine aw_iaload_k (j := (m + 1)) hC dX12_changes_11 (tg_70 hT) (nI_clamp (by omega)) (vp_in_nI (by omega) (by decide)) ?_
  refine aw_imul hC dX12_changes_12 ?_
  refine aw_iastore_k (j := m) hC dX12_changes_13 (tg_70 hT) (nI_clamp (by omega)) (vp_in_nI (by omega) (by decide)) ?_
  refine aw_aload_n hC dX12_changes_14 rfl ?_
  refine aw_iload_n hC dX12_changes_15 rfl ?_
  refine aw_iconst (v := 1) hC dX12_changes_16 (by decide) ?_
  refine aw_iadd hC dX12_changes_17 ?_
  rw [show (nI m) + 1 = nI (m + 1) from nI_add m 1]
  refine aw_iconst (v := 2) hC dX12_changes_18 (by decide) ?_
  refine aw_iload_n hC dX12_changes_19 rfl ?_
  refine aw_imul hC dX12_changes_20 ?_
  refine aw_iastore_k (j := (m + 1)) hC dX12_changes_21 (tg_70 hT) (nI_clamp (by omega)) (vp_in_nI (by omega) (by decide)) ?_
  refine aw_aload_n hC dX12_changes_22 rfl ?_
  refine aw_iload_n hC dX12_changes_23 rfl ?_
  refine aw_iconst (v := 2) hC dX12_changes_24 (by decide) ?_
  refine aw_iadd hC dX12_changes_25 ?_
  rw [show (nI m) + 2 = nI (m + 2) from nI_add m 2]
  refine aw_iconst (v := 2) hC dX12_changes_26 (by decide) ?_
  refine aw_aload_n hC dX12_changes_27 rfl ?_
  refine aw_iload_n hC dX12_changes_28 rfl ?_
  refine aw_iconst (v := 2) hC dX12_changes_29 (by decide) ?_
  refine aw_iadd hC dX12_changes_30 ?_
  rw [show (nI m) + 2 = nI (m + 2) from nI_add m 2]
  refine aw_iaload_k (j := (m + 2)) hC dX12_changes_31 (tg_70 hT) (nI_clamp (by omega)) (vp_in_nI (by omega) (by decide)) ?_
  refine aw_imul hC dX12_changes_32 ?_
  refine aw_iastore_k (j := (m + 2)) hC dX12_changes_33 (tg_70 hT) (nI_clamp (by omega)) (vp_in_nI (by omega) (by decide)) ?_
  exact aw_return hC hq rfl dX12_changes_34 a_le a_le (aPure_ev chg_lem rfl rfl)
set_option maxRecDepth 100000 in
theorem m_X12_changes73 {T : List aT} {I : aI} {J : aJ} {R : aR} (hT : aPT T) (hR : aPR R) {m : Nat} (hm : m + 2 < 192) : MX12_changes 0 0 [.ref 44, .ref 73, .int (nI m)] T I J R (aPure none T (a_ur I 73 (chgR (I 73) m)) J R) := by
  refine a_met (by decide +kernel) a_le (fun X hC hq => ?_)
  show AW X 0 0 0 [some (.ref 44), some (.ref 73), some (.int (nI m)), none] [] T I J R
  refine aw_aload_n hC dX12_changes_0 rfl ?_
  refine aw_iload_n hC dX12_changes_1 rfl ?_
  refine aw_iaload_k (j := m) hC dX12_changes_2 (tg_73 hT) (nI_clamp (by omega)) (vp_in_nI (by omega) (by decide)) ?_
  refine aw_istore_n (L2 := [some (.ref 44), some (.ref 73), some (.int (nI m)), some (.int (I 73 m))]) hC dX12_changes_3 rfl (by decide) rfl ?_
  refine aw_aload_n hC dX12_changes_4 rfl ?_
  refine aw_iload_n hC dX12_changes_5 rfl ?_
  refine aw_iconst (v := 2) hC dX12_changes_6 (by decide) ?_
  refine aw_aload_n hC dX12_changes_7 rfl ?_
  refine aw_iload_n hC dX12_changes_8 rfl ?_
  refine aw_iconst (v := 1) hC dX12_changes_9 (by decide) ?_
  refine aw_iadd hC dX12_changes_10 ?_
  rw [show (nI m) + 1 = nI (m + 1) from nI_add m 1]
  refine aw_iaload_k (j := (m + 1)) hC dX12_changes_11 (tg_73 hT) (nI_clamp (by omega)) (vp_in_nI (by omega) (by decide)) ?_
  refine aw_imul hC dX12_changes_12 ?_
  refine aw_iastore_k (j := m) hC dX12_changes_13 (tg_73 hT) (nI_clamp (by omega)) (vp_in_nI (by omega) (by decide)) ?_
  refine aw_aload_n hC dX12_changes_14 rfl ?_
  refine aw_iload_n hC dX12_changes_15 rfl ?_
  refine aw_iconst (v := 1) hC dX12_changes_16 (by decide) ?_
  refine aw_iadd hC dX12_changes_17 ?_
  rw [show (nI m) + 1 = nI (m + 1) from nI_add m 1]
  refine aw_iconst (v := 2) hC dX12_changes_18 (by decide) ?_
  refine aw_iload_n hC dX12_changes_19 rfl ?_
  refine aw_imul hC dX12_changes_20 ?_
  refine aw_iastore_k (j := (m + 1)) hC dX12_changes_21 (tg_73 hT) (nI_clamp (by omega)) (vp_in_nI (by omega) (by decide)) ?_
  refine aw_aload_n hC dX12_changes_22 rfl ?_
  refine aw_iload_n hC dX12_changes_23 rfl ?_
  refine aw_iconst (v := 2) hC dX12_changes_24 (by decide) ?_
  refine aw_iadd hC dX12_changes_25 ?_
  rw [show (nI m) + 2 = nI (m + 2) from nI_add m 2]
  refine aw_iconst (v := 2) hC dX12_changes_26 (by decide) ?_
  refine aw_aload_n hC dX12_changes_27 rfl ?_
  refine aw_iload_n hC dX12_changes_28 rfl ?_
  refine aw_iconst (v := 2) hC dX12_changes_29 (by decide) ?_
  refine aw_iadd hC dX12_changes_30 ?_
  rw [show (nI m) + 2 = nI (m + 2) from nI_add m 2]
  refine aw_iaload_k (j := (m + 2)) hC dX12_changes_31 (tg_73 hT) (nI_clamp (by omega)) (vp_in_nI (by omega) (by decide)) ?_
  refine aw_imul hC dX12_changes_32 ?_
  refine aw_iastore_k (j := (m + 2)) hC dX12_changes_33 (tg_73 hT) (nI_clamp (by omega)) (vp_in_nI (by omega) (by decide)) ?_
  exact aw_return hC hq rfl dX12_changes_34 a_le a_le (aPure_ev chg_lem rfl rfl)
set_option maxRecDepth 100000 in
theorem m_X12_changes67 {T : List aT} {I : aI} {J : aJ} {R : aR} (hT : aPT T) (hR : aPR R) {m : Nat} (hm : m + 2 < 180) : MX12_changes 0 0 [.ref 44, .ref 67, .int (nI m)] T I J R (aPure none T (a_ur I 67 (chgR (I 67) m)) J R) := by
  refine a_met (by decide +kernel) a_le (fun X hC hq => ?_)
  show AW X 0 0 0 [some (.ref 44), some (.ref 67), some (.int (nI m)), none] [] T I J R
  refine aw_aload_n hC dX12_changes_0 rfl ?_
  refine aw_iload_n hC dX12_changes_1 rfl ?_
  refine aw_iaload_k (j := m) hC dX12_changes_2 (tg_67 hT) (nI_clamp (by omega)) (vp_in_nI (by omega) (by decide)) ?_
  refine aw_istore_n (L2 := [some (.ref 44), some (.ref 67), some (.int (nI m)), some (.int (I 67 m))]) hC dX12_changes_3 rfl (by decide) rfl ?_
  refine aw_aload_n hC dX12_changes_4 rfl ?_
  refine aw_iload_n hC dX12_changes_5 rfl ?_
  refine aw_iconst (v := 2) hC dX12_changes_6 (by decide) ?_
  refine aw_aload_n hC dX12_changes_7 rfl ?_
  refine aw_iload_n hC dX12_changes_8 rfl ?_
  refine aw_iconst (v := 1) hC dX12_changes_9 (by decide) ?_
  refine aw_iadd hC dX12_changes_10 ?_
  rw [show (nI m) + 1 = nI (m + 1) from nI_add m 1]
  refine aw_iaload_k (j := (m + 1)) hC dX12_changes_11 (tg_67 hT) (nI_clamp (by omega)) (vp_in_nI (by omega) (by decide)) ?_
  refine aw_imul hC dX12_changes_12 ?_
  refine aw_iastore_k (j := m) hC dX12_changes_13 (tg_67 hT) (nI_clamp (by omega)) (vp_in_nI (by omega) (by decide)) ?_
  refine aw_aload_n hC dX12_changes_14 rfl ?_
  refine aw_iload_n hC dX12_changes_15 rfl ?_
  refine aw_iconst (v := 1) hC dX12_changes_16 (by decide) ?_
  refine aw_iadd hC dX12_changes_17 ?_
  rw [show (nI m) + 1 = nI (m + 1) from nI_add m 1]
  refine aw_iconst (v := 2) hC dX12_changes_18 (by decide) ?_
  refine aw_iload_n hC dX12_changes_19 rfl ?_
  refine aw_imul hC dX12_changes_20 ?_
  refine aw_iastore_k (j := (m + 1)) hC dX12_changes_21 (tg_67 hT) (nI_clamp (by omega)) (vp_in_nI (by omega) (by decide)) ?_
  refine aw_aload_n hC dX12_changes_22 rfl ?_
  refine aw_iload_n hC dX12_changes_23 rfl ?_
  refine aw_iconst (v := 2) hC dX12_changes_24 (by decide) ?_
  refine aw_iadd hC dX12_changes_25 ?_
  rw [show (nI m) + 2 = nI (m + 2) from nI_add m 2]
  refine aw_iconst (v := 2) hC dX12_changes_26 (by decide) ?_
  refine aw_aload_n hC dX12_changes_27 rfl ?_
  refine aw_iload_n hC dX12_changes_28 rfl ?_
  refine aw_iconst (v := 2) hC dX12_changes_29 (by decide) ?_
  refine aw_iadd hC dX12_changes_30 ?_
  rw [show (nI m) + 2 = nI (m + 2) from nI_add m 2]
  refine aw_iaload_k (j := (m + 2)) hC dX12_changes_31 (tg_67 hT) (nI_clamp (by omega)) (vp_in_nI (by omega) (by decide)) ?_
  refine aw_imul hC dX12_changes_32 ?_
  refine aw_iastore_k (j := (m + 2)) hC dX12_changes_33 (tg_67 hT) (nI_clamp (by omega)) (vp_in_nI (by omega) (by decide)) ?_
  exact aw_return hC hq rfl dX12_changes_34 a_le a_le (aPure_ev chg_lem rfl rfl)
theorem sTurn_cg {I I2 : aI} (h : I 62 = I2 62) (t s : Int32) : sTurn I t s = sTurn I2 t s := by unfold sTurn; rw [h]
abbrev tr9 (I : aI) (t : Nat) (j : Nat) : Int32 := sTurn I (nI t) (I 65 j)
abbrev upS (I : aI) (t j : Nat) : Int32 := if I 62 (j / 3) = nI t then (if j % 3 = 0 then tr9 I t (j + 1) else if j % 3 = 1 then tr9 I t (j - 1) else tr9 I t j) else tr9 I t j
abbrev S65 (I : aI) (t k : Nat) : Nat → Int32 := fun j => if j < 3 * k then upS I t j else I 65 j
abbrev S65m (I : aI) (t k m : Nat) : Nat → Int32 := fun j => if j < 3 * k then upS I t j else if j < 3 * k + m then tr9 I t j else I 65 j
abbrev chgA (f : Nat → Int32) (j : Nat) : Int32 := if j % 3 = 0 then 2 * f (j + 1) else if j % 3 = 1 then 2 * f (j - 1) else 2 * f j
abbrev SV (I : aI) (r t k : Nat) : Nat → Int32 := fun j => if j < 48 * k ∧ I 62 (j / 48) = nI t then chgA (I r) j else I r j
abbrev SVn (I : aI) (r t k n : Nat) : Nat → Int32 := fun j => if (j < 48 * k ∧ I 62 (j / 48) = nI t) ∨ (48 * k ≤ j ∧ j < 3 * n) then chgA (I r) j else I r j
abbrev adT (x : Int32) : Int32 := ((x &&& 4) ||| ((x &&& 1) <<< ((1 : Int32) &&& 31))) ||| ((x >>> ((1 : Int32) &&& 31)) &&& 1)
abbrev SA (I : aI) (t k : Nat) : Nat → Int32 := fun j => if j < 16 * k ∧ I 62 (j / 16) = nI t then adT (I 72 j) else I 72 j
abbrev SAn (I : aI) (t k n : Nat) : Nat → Int32 := fun j => if (j < 16 * k ∧ I 62 (j / 16) = nI t) ∨ (16 * k ≤ j ∧ j < n) then adT (I 72 j) else I 72 j
abbrev SR (I : aI) (t k : Nat) : Nat → Int32 := fun j => if j < 3 * k ∧ I 66 (j / 3) = nI t then chgA (I 67) j else I 67 j
theorem up65a {I : aI} {t k : Nat} (h : I 62 k = nI t) (j : Nat) : (if j = 3 * k + 1 then S65m I t k 3 (3 * k) else if j = 3 * k then S65m I t k 3 (3 * k + 1) else S65m I t k 3 j) = S65 I t (k + 1) j := by
  simp only [S65, S65m]
  rcases (show j < 3 * k ∨ j = 3 * k ∨ j = 3 * k + 1 ∨ j = 3 * k + 2 ∨ 3 * k + 3 ≤ j by omega) with c | rfl | rfl | rfl | c
  · rw [if_neg (by omega), if_neg (by omega), if_pos c, if_pos (by omega)]
  · rw [if_neg (by omega), if_pos rfl, if_neg (by omega), if_pos (by omega), if_pos (by omega)]
    simp only [upS]; rw [show 3 * k / 3 = k by omega, if_pos h, if_pos (by omega)]
  · rw [if_pos rfl, if_neg (by omega), if_pos (by omega), if_pos (by omega)]
    simp only [upS]; rw [show (3 * k + 1) / 3 = k by omega, if_pos h, if_neg (by omega), if_pos (by omega), show 3 * k + 1 - 1 = 3 * k by omega]
  · rw [if_neg (by omega), if_neg (by omega), if_neg (by omega), if_pos (by omega), if_pos (by omega)]
    simp only [upS]; rw [show (3 * k + 2) / 3 = k by omega, if_pos h, if_neg (by omega), if_neg (by omega)]
  · rw [if_neg (by omega), if_neg (by omega), if_neg (by omega), if_neg (by omega), if_neg (by omega)]
theorem up65b {I : aI} {t k : Nat} (h : I 62 k ≠ nI t) (j : Nat) : S65m I t k 3 j = S65 I t (k + 1) j := by
  simp only [S65, S65m]
  rcases (show j < 3 * k ∨ (3 * k ≤ j ∧ j < 3 * k + 3) ∨ 3 * k + 3 ≤ j by omega) with c | c | c
  · rw [if_pos c, if_pos (by omega)]
  · rw [if_neg (by omega), if_pos c.2, if_pos (by omega)]
    simp only [upS]; rw [show j / 3 = k by omega, if_neg h]
  · rw [if_neg (by omega), if_neg (by omega), if_neg (by omega)]
theorem upSVn {I : aI} {r t k n : Nat} (h1 : 16 * k ≤ n) (j : Nat) : chgR (SVn I r t k n) (3 * n) j = SVn I r t k (n + 1) j := by
  have q : ∀ m, m < 3 → SVn I r t k n (3 * n + m) = I r (3 * n + m) := fun m hm => by simp only [SVn]; rw [if_neg (by omega)]
  have p : ∀ m, m < 3 → SVn I r t k (n + 1) (3 * n + m) = chgA (I r) (3 * n + m) := fun m hm => by simp only [SVn]; rw [if_pos (by omega)]
  rcases (show j = 3 * n ∨ j = 3 * n + 1 ∨ j = 3 * n + 2 ∨ j < 3 * n ∨ 3 * n + 3 ≤ j by omega) with rfl | rfl | rfl | c | c
  · have p0 : SVn I r t k (n + 1) (3 * n) = chgA (I r) (3 * n) := p 0 (by omega)
    rw [p0]; simp only [chgR, chgA]; rw [if_neg (by omega), if_neg (by omega), q 1 (by omega)]; simp
  · rw [p 1 (by omega)]; have q0 : SVn I r t k n (3 * n) = I r (3 * n) := q 0 (by omega)
    simp only [chgR, chgA]; rw [if_neg (by omega), if_pos trivial, q0, if_neg (by omega), if_pos (by omega), show 3 * n + 1 - 1 = 3 * n by omega]
  · rw [p 2 (by omega)]
    simp only [chgR, chgA]; rw [if_pos trivial, q 2 (by omega), if_neg (by omega), if_neg (by omega)]
  · simp only [chgR]; rw [if_neg (by omega), if_neg (by omega), if_neg (by omega)]
    simp only [SVn]
    by_cases e : (j < 48 * k ∧ I 62 (j / 48) = nI t) ∨ (48 * k ≤ j ∧ j < 3 * n)
    · rw [if_pos e, if_pos (e.imp id (fun x => ⟨x.1, by omega⟩))]
    · rw [if_neg e, if_neg (fun x => e (x.imp id (fun y => ⟨y.1, c⟩)))]
  · simp only [chgR]; rw [if_neg (by omega), if_neg (by omega), if_neg (by omega)]
    simp only [SVn]
    by_cases e : j < 48 * k ∧ I 62 (j / 48) = nI t
    · rw [if_pos (Or.inl e), if_pos (Or.inl e)]
    · rw [if_neg (fun x => x.elim e (fun y => by omega)), if_neg (fun x => x.elim e (fun y => by omega))]
set_option maxRecDepth 100000 in
theorem m_X12_upgradeT {T : List aT} {I : aI} {J : aJ} {R : aR} (hT : aPT T) (hR : aPR R) {g : Nat} (hg : I 44 20 = nI g) (hg9 : g ≤ 4) {r : Nat} (hr : I 44 25 = nI r) (hr9 : r ≤ 60) (ht : NR I 62 4 3) (hu : NR I 61 3 3) (ht6 : NR I 66 60 3) (hs : ∀ j, j < 12 → 10 ≤ I 65 j → vp_in ((I 65 j - 10) / 3) 4) {t : Nat} (h3 : t < 3) (hu2 : iN I 61 t < 2) (hun : I 44 45 < 0) : MX12_upgrade 0 0 [.ref 44, .int (nI t)] T I J R (aPure (some (.int (nI (iN I 61 t + 1)))) T (a_ur (a_ur (a_ur (a_ur (a_ur (a_u (a_u (a_u (a_u (a_u I 44 61 0) 61 t (nI (iN I 61 t + 1))) 58 (3 * t) (I 58 (3 * t + 1))) 58 (3 * t + 1) (I 58 (3 * t))) 44 35 (I 44 35 + 1)) 65 (S65 I t g)) 70 (SV I 70 t g)) 73 (SV I 73 t g)) 72 (SA I t g)) 67 (SR I t r)) J R) := by
  refine a_met (by decide +kernel) a_le (fun X hC hq => ?_)
  show AW X 0 0 0 [some (.ref 44), some (.int (nI t)), none, none, none, none] [] T I J R
  refine aw_aload_n hC dX12_upgrade_0 rfl ?_
  refine aw_iload_n hC dX12_upgrade_1 rfl ?_
  refine kX12_318 hC rfl (m_X12_isType (nI t)) dX12_upgrade_2 rfl a_le a_le a_le a_le a_le rfl aPure_x (aPure_k ?_)
  show AW X 0 0 5 [some (.ref 44), some (.int (nI t)), none, none, none, none] [.int (bI (decide (0 ≤ (nI t) ∧ (nI t) ≤ 2))), .ref 44] T I J R
  rw [show bI (decide (0 ≤ (nI t) ∧ (nI t) ≤ 2)) = 1 from bI_one ⟨nI_pos' (by omega), nI_le (b := 2) (by omega) (by omega)⟩]
  refine aw_if_ne (tgt := 12) hC dX12_upgrade_5 (by decide) (fun _ => ?_) (fun h1 => absurd h1 (by decide))
  show AW X 0 0 12 [some (.ref 44), some (.int (nI t)), none, none, none, none] [.ref 44] T I J R
  refine aw_aload_n hC dX12_upgrade_12 rfl ?_
  refine aw_getR hC dX12_upgrade_13 aF_X12_59 rfl (tg_44 hT) (pr_44_19 hR) ?_
  refine aw_iload_n hC dX12_upgrade_16 rfl ?_
  refine aw_iaload_k (j := t) hC dX12_upgrade_17 (tg_61 hT) (nI_clamp (by omega)) (vp_in_nI (by omega) (by decide)) ?_
  have hb2 := hu t (by omega)
  rw [hb2.1]
  refine aw_iconst (v := 2) hC dX12_upgrade_18 (by decide) ?_
  refine aw_icmp_eq (tgt := 29) hC dX12_upgrade_19 (by decide) (fun h3 => ?_) (fun h3 => ?_)
  · show AW X 0 0 29 [some (.ref 44), some (.int (nI t)), none, none, none, none] [.ref 44] T I J R
    have h3n : (iN I 61 t) = 2 := (nI_eq (a := (iN I 61 t)) (b := 2) (by omega) (by omega)).mp h3
    exfalso; first | omega | exact absurd hun (Int32.not_lt.mpr (by assumption)) | exact absurd hun (by assumption)
  · show AW X 0 0 22 [some (.ref 44), some (.int (nI t)), none, none, none, none] [.ref 44] T I J R
    have h3n : ¬ (iN I 61 t) = 2 := fun q9 => h3 ((nI_eq (a := (iN I 61 t)) (b := 2) (by omega) (by omega)).mpr q9)
    refine aw_aload_n hC dX12_upgrade_22 rfl ?_
    refine aw_getI hC dX12_upgrade_23 aF_X12_123 rfl (tg_44 hT) ?_
    refine aw_if_lt (tgt := 33) hC dX12_upgrade_26 (by decide) (fun h4 => ?_) (fun h4 => ?_)
    · show AW X 0 0 33 [some (.ref 44), some (.int (nI t)), none, none, none, none] [.ref 44] T I J R
      refine aw_iconst (v := 0) hC dX12_upgrade_33 (by decide) ?_
      refine aw_putI hC dX12_upgrade_34 aF_X12_166 rfl rfl (tg_44 hT) ?_
      refine aw_aload_n hC dX12_upgrade_37 rfl ?_
      refine aw_getI hC dX12_upgrade_38 aF_X12_166 rfl (tg_44 hT) ?_
      rw [a_u_self (f := I) (o := 44) (k := 61) (v := 0)]
      refine aw_if_le (tgt := 46) hC dX12_upgrade_41 (by decide) (fun _ => ?_) (fun h5 => absurd h5 (by decide))
      show AW X 0 0 46 [some (.ref 44), some (.int (nI t)), none, none, none, none] [] T (a_u I 44 61 0) J R
      refine aw_aload_n hC dX12_upgrade_46 rfl ?_
      refine aw_getR hC dX12_upgrade_47 aF_X12_59 rfl (tg_44 hT) (pr_44_19 hR) ?_
      refine aw_iload_n hC dX12_upgrade_50 rfl ?_
      refine aw_dup2 hC dX12_upgrade_51 rfl rfl ?_
      refine aw_iaload_k (j := t) hC dX12_upgrade_52 (tg_61 hT) (nI_clamp (by omega)) (vp_in_nI (by omega) (by decide)) ?_
      rw [a_u_ne (f := I) (o := 44) (k := 61) (a := 61) (b := t) (v := 0) (fun q => absurd q.1 (by decide))]
      have hb6 := hu t (by omega)
      rw [hb6.1]
      refine aw_iconst (v := 1) hC dX12_upgrade_53 (by decide) ?_
      refine aw_iadd hC dX12_upgrade_54 ?_
      rw [show (nI (iN I 61 t)) + 1 = nI ((iN I 61 t) + 1) from nI_add (iN I 61 t) 1]
      refine aw_iastore_k (j := t) hC dX12_upgrade_55 (tg_61 hT) (nI_clamp (by omega)) (vp_in_nI (by omega) (by decide)) ?_
      refine aw_aload_n hC dX12_upgrade_56 rfl ?_
      refine aw_getR hC dX12_upgrade_57 aF_X12_50 rfl (tg_44 hT) (pr_44_16 hR) ?_
      refine aw_iconst (v := 3) hC dX12_upgrade_60 (by decide) ?_
      refine aw_iload_n hC dX12_upgrade_61 rfl ?_
      refine aw_imul hC dX12_upgrade_62 ?_
      rw [show 3 * (nI t) = nI (3 * t) from pk_mul 3 t]
      refine aw_iaload_k (j := (3 * t)) hC dX12_upgrade_63 (tg_58 hT) (nI_clamp (by omega)) (vp_in_nI (by omega) (by decide)) ?_
      rw [a_u_ne (f := a_u I 44 61 0) (o := 61) (k := t) (a := 58) (b := (3 * t)) (v := nI ((iN I 61 t) + 1)) (fun q => absurd q.1 (by decide))]
      rw [a_u_ne (f := I) (o := 44) (k := 61) (a := 58) (b := (3 * t)) (v := 0) (fun q => absurd q.1 (by decide))]
      refine aw_istore_n (L2 := [some (.ref 44), some (.int (nI t)), some (.int (I 58 (3 * t))), none, none, none]) hC dX12_upgrade_64 rfl (by decide) rfl ?_
      refine aw_aload_n hC dX12_upgrade_65 rfl ?_
      refine aw_getR hC dX12_upgrade_66 aF_X12_50 rfl (tg_44 hT) (pr_44_16 hR) ?_
      refine aw_iconst (v := 3) hC dX12_upgrade_69 (by decide) ?_
      refine aw_iload_n hC dX12_upgrade_70 rfl ?_
      refine aw_imul hC dX12_upgrade_71 ?_
      rw [show 3 * (nI t) = nI (3 * t) from pk_mul 3 t]
      refine aw_aload_n hC dX12_upgrade_72 rfl ?_
      refine aw_getR hC dX12_upgrade_73 aF_X12_50 rfl (tg_44 hT) (pr_44_16 hR) ?_
      refine aw_iconst (v := 3) hC dX12_upgrade_76 (by decide) ?_
      refine aw_iload_n hC dX12_upgrade_77 rfl ?_
      refine aw_imul hC dX12_upgrade_78 ?_
      rw [show 3 * (nI t) = nI (3 * t) from pk_mul 3 t]
      refine aw_iconst (v := 1) hC dX12_upgrade_79 (by decide) ?_
      refine aw_iadd hC dX12_upgrade_80 ?_
      rw [show (nI (3 * t)) + 1 = nI ((3 * t) + 1) from nI_add (3 * t) 1]
      refine aw_iaload_k (j := ((3 * t) + 1)) hC dX12_upgrade_81 (tg_58 hT) (nI_clamp (by omega)) (vp_in_nI (by omega) (by decide)) ?_
      rw [a_u_ne (f := a_u I 44 61 0) (o := 61) (k := t) (a := 58) (b := ((3 * t) + 1)) (v := nI ((iN I 61 t) + 1)) (fun q => absurd q.1 (by decide))]
      rw [a_u_ne (f := I) (o := 44) (k := 61) (a := 58) (b := ((3 * t) + 1)) (v := 0) (fun q => absurd q.1 (by decide))]
      refine aw_iastore_k (j := (3 * t)) hC dX12_upgrade_82 (tg_58 hT) (nI_clamp (by omega)) (vp_in_nI (by omega) (by decide)) ?_
      refine aw_aload_n hC dX12_upgrade_83 rfl ?_
      refine aw_getR hC dX12_upgrade_84 aF_X12_50 rfl (tg_44 hT) (pr_44_16 hR) ?_
      refine aw_iconst (v := 3) hC dX12_upgrade_87 (by decide) ?_
      refine aw_iload_n hC dX12_upgrade_88 rfl ?_
      refine aw_imul hC dX12_upgrade_89 ?_
      rw [show 3 * (nI t) = nI (3 * t) from pk_mul 3 t]
      refine aw_iconst (v := 1) hC dX12_upgrade_90 (by decide) ?_
      refine aw_iadd hC dX12_upgrade_91 ?_
      rw [show (nI (3 * t)) + 1 = nI ((3 * t) + 1) from nI_add (3 * t) 1]
      refine aw_iload_n hC dX12_upgrade_92 rfl ?_
      refine aw_iastore_k (j := ((3 * t) + 1)) hC dX12_upgrade_93 (tg_58 hT) (nI_clamp (by omega)) (vp_in_nI (by omega) (by decide)) ?_
      refine aw_iconst (v := 0) hC dX12_upgrade_94 (by decide) ?_
      refine aw_istore_n (L2 := [some (.ref 44), some (.int (nI t)), some (.int (I 58 (3 * t))), some (.int 0), none, none]) hC dX12_upgrade_95 rfl (by decide) rfl ?_
      have e0 : a_u (a_u (a_u (a_u I 44 61 0) 61 t (nI ((iN I 61 t) + 1))) 58 (3 * t) (I 58 ((3 * t) + 1))) 58 ((3 * t) + 1) (I 58 (3 * t)) = a_ur (a_ur (a_ur (a_ur (a_u (a_u (a_u (a_u I 44 61 0) 61 t (nI ((iN I 61 t) + 1))) 58 (3 * t) (I 58 ((3 * t) + 1))) 58 ((3 * t) + 1) (I 58 (3 * t))) 65 (S65 I t 0)) 70 (SV I 70 t 0)) 73 (SV I 73 t 0)) 72 (SA I t 0) := by rw [a_ur_id (f := a_u (a_u (a_u (a_u I 44 61 0) 61 t (nI ((iN I 61 t) + 1))) 58 (3 * t) (I 58 ((3 * t) + 1))) 58 ((3 * t) + 1) (I 58 (3 * t))) (o := 65) (g := S65 I t 0) (fun j => by (try simp only [S65, S65m, SV, SVn, SA, SAn, SR]); rw [if_neg (by omega)]; simp [a_u]), a_ur_id (f := a_u (a_u (a_u (a_u I 44 61 0) 61 t (nI ((iN I 61 t) + 1))) 58 (3 * t) (I 58 ((3 * t) + 1))) 58 ((3 * t) + 1) (I 58 (3 * t))) (o := 70) (g := SV I 70 t 0) (fun j => by (try simp only [S65, S65m, SV, SVn, SA, SAn, SR]); rw [if_neg (by omega)]; simp [a_u]), a_ur_id (f := a_u (a_u (a_u (a_u I 44 61 0) 61 t (nI ((iN I 61 t) + 1))) 58 (3 * t) (I 58 ((3 * t) + 1))) 58 ((3 * t) + 1) (I 58 (3 * t))) (o := 73) (g := SV I 73 t 0) (fun j => by (try simp only [S65, S65m, SV, SVn, SA, SAn, SR]); rw [if_neg (by omega)]; simp [a_u]), a_ur_id (f := a_u (a_u (a_u (a_u I 44 61 0) 61 t (nI ((iN I 61 t) + 1))) 58 (3 * t) (I 58 ((3 * t) + 1))) 58 ((3 * t) + 1) (I 58 (3 * t))) (o := 72) (g := SA I t 0) (fun j => by (try simp only [S65, S65m, SV, SVn, SA, SAn, SR]); rw [if_neg (by omega)]; simp [a_u])]
      rw [e0]
      have loopA : ∀ k, k ≤ g → AW X 0 0 96 [some (.ref 44), some (.int (nI t)), some (.int (I 58 (3 * t))), some (.int (nI k)), none, none] [] T (a_ur (a_ur (a_ur (a_ur (a_u (a_u (a_u (a_u I 44 61 0) 61 t (nI ((iN I 61 t) + 1))) 58 (3 * t) (I 58 ((3 * t) + 1))) 58 ((3 * t) + 1) (I 58 (3 * t))) 65 (S65 I t k)) 70 (SV I 70 t k)) 73 (SV I 73 t k)) 72 (SA I t k)) J R := by
        refine a_down g (fun k hkA ihA => ?_)
        refine aw_iload_n hC dX12_upgrade_96 rfl ?_
        refine aw_aload_n hC dX12_upgrade_97 rfl ?_
        refine aw_getI hC dX12_upgrade_98 aF_X12_312 rfl (tg_44 hT) ?_
        rw [a_ur_ne (f := a_ur (a_ur (a_ur (a_u (a_u (a_u (a_u I 44 61 0) 61 t (nI ((iN I 61 t) + 1))) 58 (3 * t) (I 58 ((3 * t) + 1))) 58 ((3 * t) + 1) (I 58 (3 * t))) 65 (S65 I t k)) 70 (SV I 70 t k)) 73 (SV I 73 t k)) (o := 72) (a := 44) (g := SA I t k) (by decide)]
        rw [a_ur_ne (f := a_ur (a_ur (a_u (a_u (a_u (a_u I 44 61 0) 61 t (nI ((iN I 61 t) + 1))) 58 (3 * t) (I 58 ((3 * t) + 1))) 58 ((3 * t) + 1) (I 58 (3 * t))) 65 (S65 I t k)) 70 (SV I 70 t k)) (o := 73) (a := 44) (g := SV I 73 t k) (by decide)]
        rw [a_ur_ne (f := a_ur (a_u (a_u (a_u (a_u I 44 61 0) 61 t (nI ((iN I 61 t) + 1))) 58 (3 * t) (I 58 ((3 * t) + 1))) 58 ((3 * t) + 1) (I 58 (3 * t))) 65 (S65 I t k)) (o := 70) (a := 44) (g := SV I 70 t k) (by decide)]
        rw [a_ur_ne (f := a_u (a_u (a_u (a_u I 44 61 0) 61 t (nI ((iN I 61 t) + 1))) 58 (3 * t) (I 58 ((3 * t) + 1))) 58 ((3 * t) + 1) (I 58 (3 * t))) (o := 65) (a := 44) (g := S65 I t k) (by decide)]
        rw [a_u_ne (f := a_u (a_u (a_u I 44 61 0) 61 t (nI ((iN I 61 t) + 1))) 58 (3 * t) (I 58 ((3 * t) + 1))) (o := 58) (k := ((3 * t) + 1)) (a := 44) (b := 20) (v := I 58 (3 * t)) (fun q => absurd q.1 (by decide))]
        rw [a_u_ne (f := a_u (a_u I 44 61 0) 61 t (nI ((iN I 61 t) + 1))) (o := 58) (k := (3 * t)) (a := 44) (b := 20) (v := I 58 ((3 * t) + 1)) (fun q => absurd q.1 (by decide))]
        rw [a_u_ne (f := a_u I 44 61 0) (o := 61) (k := t) (a := 44) (b := 20) (v := nI ((iN I 61 t) + 1)) (fun q => absurd q.1 (by decide))]
        rw [a_u_ne (f := I) (o := 44) (k := 61) (a := 44) (b := 20) (v := 0) (fun q => absurd q.2 (by decide))]
        rw [hg]
        refine aw_icmp_ge (tgt := 290) hC dX12_upgrade_101 (by decide) (fun h7 => ?_) (fun h7 => ?_)
        · show AW X 0 0 290 [some (.ref 44), some (.int (nI t)), some (.int (I 58 (3 * t))), some (.int (nI k)), none, none] [] T (a_ur (a_ur (a_ur (a_ur (a_u (a_u (a_u (a_u I 44 61 0) 61 t (nI ((iN I 61 t) + 1))) 58 (3 * t) (I 58 ((3 * t) + 1))) 58 ((3 * t) + 1) (I 58 (3 * t))) 65 (S65 I t k)) 70 (SV I 70 t k)) 73 (SV I 73 t k)) 72 (SA I t k)) J R
          have h7n : g ≤ k := (nI_leI (a := g) (b := k) (by omega) (by omega)).mp h7
          refine aw_iconst (v := 0) hC dX12_upgrade_290 (by decide) ?_
          refine aw_istore_n (L2 := [some (.ref 44), some (.int (nI t)), some (.int (I 58 (3 * t))), some (.int 0), none, none]) hC dX12_upgrade_291 rfl (by decide) rfl ?_
          rw [show k = g from by omega]
          rw [show a_ur (a_ur (a_ur (a_ur (a_u (a_u (a_u (a_u I 44 61 0) 61 t (nI ((iN I 61 t) + 1))) 58 (3 * t) (I 58 ((3 * t) + 1))) 58 ((3 * t) + 1) (I 58 (3 * t))) 65 (S65 I t g)) 70 (SV I 70 t g)) 73 (SV I 73 t g)) 72 (SA I t g) = a_ur (a_ur (a_ur (a_ur (a_ur (a_u (a_u (a_u (a_u I 44 61 0) 61 t (nI ((iN I 61 t) + 1))) 58 (3 * t) (I 58 ((3 * t) + 1))) 58 ((3 * t) + 1) (I 58 (3 * t))) 65 (S65 I t g)) 70 (SV I 70 t g)) 73 (SV I 73 t g)) 72 (SA I t g)) 67 (SR I t 0) from (a_ur_id (f := a_ur (a_ur (a_ur (a_ur (a_u (a_u (a_u (a_u I 44 61 0) 61 t (nI ((iN I 61 t) + 1))) 58 (3 * t) (I 58 ((3 * t) + 1))) 58 ((3 * t) + 1) (I 58 (3 * t))) 65 (S65 I t g)) 70 (SV I 70 t g)) 73 (SV I 73 t g)) 72 (SA I t g)) (o := 67) (g := SR I t 0) (fun j => by (try simp only [S65, S65m, SV, SVn, SA, SAn, SR]); rw [if_neg (by omega)]; simp [a_u, a_ur])).symm]
          have loopD : ∀ k2, k2 ≤ r → AW X 0 0 292 [some (.ref 44), some (.int (nI t)), some (.int (I 58 (3 * t))), some (.int (nI k2)), none, none] [] T (a_ur (a_ur (a_ur (a_ur (a_ur (a_u (a_u (a_u (a_u I 44 61 0) 61 t (nI ((iN I 61 t) + 1))) 58 (3 * t) (I 58 ((3 * t) + 1))) 58 ((3 * t) + 1) (I 58 (3 * t))) 65 (S65 I t g)) 70 (SV I 70 t g)) 73 (SV I 73 t g)) 72 (SA I t g)) 67 (SR I t k2)) J R := by
            refine a_down r (fun k2 hkD ihD => ?_)
            refine aw_iload_n hC dX12_upgrade_292 rfl ?_
            refine aw_aload_n hC dX12_upgrade_293 rfl ?_
            refine aw_getI hC dX12_upgrade_294 aF_X12_315 rfl (tg_44 hT) ?_
            rw [a_ur_ne (f := a_ur (a_ur (a_ur (a_ur (a_u (a_u (a_u (a_u I 44 61 0) 61 t (nI ((iN I 61 t) + 1))) 58 (3 * t) (I 58 ((3 * t) + 1))) 58 ((3 * t) + 1) (I 58 (3 * t))) 65 (S65 I t g)) 70 (SV I 70 t g)) 73 (SV I 73 t g)) 72 (SA I t g)) (o := 67) (a := 44) (g := SR I t k2) (by decide)]
            rw [a_ur_ne (f := a_ur (a_ur (a_ur (a_u (a_u (a_u (a_u I 44 61 0) 61 t (nI ((iN I 61 t) + 1))) 58 (3 * t) (I 58 ((3 * t) + 1))) 58 ((3 * t) + 1) (I 58 (3 * t))) 65 (S65 I t g)) 70 (SV I 70 t g)) 73 (SV I 73 t g)) (o := 72) (a := 44) (g := SA I t g) (by decide)]
            rw [a_ur_ne (f := a_ur (a_ur (a_u (a_u (a_u (a_u I 44 61 0) 61 t (nI ((iN I 61 t) + 1))) 58 (3 * t) (I 58 ((3 * t) + 1))) 58 ((3 * t) + 1) (I 58 (3 * t))) 65 (S65 I t g)) 70 (SV I 70 t g)) (o := 73) (a := 44) (g := SV I 73 t g) (by decide)]
            rw [a_ur_ne (f := a_ur (a_u (a_u (a_u (a_u I 44 61 0) 61 t (nI ((iN I 61 t) + 1))) 58 (3 * t) (I 58 ((3 * t) + 1))) 58 ((3 * t) + 1) (I 58 (3 * t))) 65 (S65 I t g)) (o := 70) (a := 44) (g := SV I 70 t g) (by decide)]
            rw [a_ur_ne (f := a_u (a_u (a_u (a_u I 44 61 0) 61 t (nI ((iN I 61 t) + 1))) 58 (3 * t) (I 58 ((3 * t) + 1))) 58 ((3 * t) + 1) (I 58 (3 * t))) (o := 65) (a := 44) (g := S65 I t g) (by decide)]
            rw [a_u_ne (f := a_u (a_u (a_u I 44 61 0) 61 t (nI ((iN I 61 t) + 1))) 58 (3 * t) (I 58 ((3 * t) + 1))) (o := 58) (k := ((3 * t) + 1)) (a := 44) (b := 25) (v := I 58 (3 * t)) (fun q => absurd q.1 (by decide))]
            rw [a_u_ne (f := a_u (a_u I 44 61 0) 61 t (nI ((iN I 61 t) + 1))) (o := 58) (k := (3 * t)) (a := 44) (b := 25) (v := I 58 ((3 * t) + 1)) (fun q => absurd q.1 (by decide))]
            rw [a_u_ne (f := a_u I 44 61 0) (o := 61) (k := t) (a := 44) (b := 25) (v := nI ((iN I 61 t) + 1)) (fun q => absurd q.1 (by decide))]
            rw [a_u_ne (f := I) (o := 44) (k := 61) (a := 44) (b := 25) (v := 0) (fun q => absurd q.2 (by decide))]
            rw [hr]
            refine aw_icmp_ge (tgt := 327) hC dX12_upgrade_297 (by decide) (fun h8 => ?_) (fun h8 => ?_)
            · show AW X 0 0 327 [some (.ref 44), some (.int (nI t)), some (.int (I 58 (3 * t))), some (.int (nI k2)), none, none] [] T (a_ur (a_ur (a_ur (a_ur (a_ur (a_u (a_u (a_u (a_u I 44 61 0) 61 t (nI ((iN I 61 t) + 1))) 58 (3 * t) (I 58 ((3 * t) + 1))) 58 ((3 * t) + 1) (I 58 (3 * t))) 65 (S65 I t g)) 70 (SV I 70 t g)) 73 (SV I 73 t g)) 72 (SA I t g)) 67 (SR I t k2)) J R
              have h8n : r ≤ k2 := (nI_leI (a := r) (b := k2) (by omega) (by omega)).mp h8
              refine aw_aload_n hC dX12_upgrade_327 rfl ?_
              refine aw_dup hC dX12_upgrade_328 rfl ?_
              refine aw_getI hC dX12_upgrade_329 aF_X12_343 rfl (tg_44 hT) ?_
              rw [a_ur_ne (f := a_ur (a_ur (a_ur (a_ur (a_u (a_u (a_u (a_u I 44 61 0) 61 t (nI ((iN I 61 t) + 1))) 58 (3 * t) (I 58 ((3 * t) + 1))) 58 ((3 * t) + 1) (I 58 (3 * t))) 65 (S65 I t g)) 70 (SV I 70 t g)) 73 (SV I 73 t g)) 72 (SA I t g)) (o := 67) (a := 44) (g := SR I t k2) (by decide)]
              rw [a_ur_ne (f := a_ur (a_ur (a_ur (a_u (a_u (a_u (a_u I 44 61 0) 61 t (nI ((iN I 61 t) + 1))) 58 (3 * t) (I 58 ((3 * t) + 1))) 58 ((3 * t) + 1) (I 58 (3 * t))) 65 (S65 I t g)) 70 (SV I 70 t g)) 73 (SV I 73 t g)) (o := 72) (a := 44) (g := SA I t g) (by decide)]
              rw [a_ur_ne (f := a_ur (a_ur (a_u (a_u (a_u (a_u I 44 61 0) 61 t (nI ((iN I 61 t) + 1))) 58 (3 * t) (I 58 ((3 * t) + 1))) 58 ((3 * t) + 1) (I 58 (3 * t))) 65 (S65 I t g)) 70 (SV I 70 t g)) (o := 73) (a := 44) (g := SV I 73 t g) (by decide)]
              rw [a_ur_ne (f := a_ur (a_u (a_u (a_u (a_u I 44 61 0) 61 t (nI ((iN I 61 t) + 1))) 58 (3 * t) (I 58 ((3 * t) + 1))) 58 ((3 * t) + 1) (I 58 (3 * t))) 65 (S65 I t g)) (o := 70) (a := 44) (g := SV I 70 t g) (by decide)]
              rw [a_ur_ne (f := a_u (a_u (a_u (a_u I 44 61 0) 61 t (nI ((iN I 61 t) + 1))) 58 (3 * t) (I 58 ((3 * t) + 1))) 58 ((3 * t) + 1) (I 58 (3 * t))) (o := 65) (a := 44) (g := S65 I t g) (by decide)]
              rw [a_u_ne (f := a_u (a_u (a_u I 44 61 0) 61 t (nI ((iN I 61 t) + 1))) 58 (3 * t) (I 58 ((3 * t) + 1))) (o := 58) (k := ((3 * t) + 1)) (a := 44) (b := 35) (v := I 58 (3 * t)) (fun q => absurd q.1 (by decide))]
              rw [a_u_ne (f := a_u (a_u I 44 61 0) 61 t (nI ((iN I 61 t) + 1))) (o := 58) (k := (3 * t)) (a := 44) (b := 35) (v := I 58 ((3 * t) + 1)) (fun q => absurd q.1 (by decide))]
              rw [a_u_ne (f := a_u I 44 61 0) (o := 61) (k := t) (a := 44) (b := 35) (v := nI ((iN I 61 t) + 1)) (fun q => absurd q.1 (by decide))]
              rw [a_u_ne (f := I) (o := 44) (k := 61) (a := 44) (b := 35) (v := 0) (fun q => absurd q.2 (by decide))]
              refine aw_iconst (v := 1) hC dX12_upgrade_332 (by decide) ?_
              refine aw_iadd hC dX12_upgrade_333 ?_
              refine aw_putI hC dX12_upgrade_334 aF_X12_343 rfl rfl (tg_44 hT) ?_
              rw [show a_u (a_ur (a_ur (a_ur (a_ur (a_ur (a_u (a_u (a_u (a_u I 44 61 0) 61 t (nI ((iN I 61 t) + 1))) 58 (3 * t) (I 58 ((3 * t) + 1))) 58 ((3 * t) + 1) (I 58 (3 * t))) 65 (S65 I t g)) 70 (SV I 70 t g)) 73 (SV I 73 t g)) 72 (SA I t g)) 67 (SR I t k2)) 44 35 ((I 44 35) + 1) = a_ur (a_ur (a_ur (a_ur (a_ur (a_u (a_u (a_u (a_u (a_u I 44 61 0) 61 t (nI ((iN I 61 t) + 1))) 58 (3 * t) (I 58 ((3 * t) + 1))) 58 ((3 * t) + 1) (I 58 (3 * t))) 44 35 ((I 44 35) + 1)) 65 (S65 I t g)) 70 (SV I 70 t g)) 73 (SV I 73 t g)) 72 (SA I t g)) 67 (SR I t k2) from by rw [a_u_swap (by first | decide | omega), a_u_swap (by first | decide | omega), a_u_swap (by first | decide | omega), a_u_swap (by first | decide | omega), a_u_swap (by first | decide | omega)]]
              refine aw_aload_n hC dX12_upgrade_337 rfl ?_
              refine aw_getR hC dX12_upgrade_338 aF_X12_59 rfl (tg_44 hT) (pr_44_19 hR) ?_
              refine aw_iload_n hC dX12_upgrade_341 rfl ?_
              refine aw_iaload_k (j := t) hC dX12_upgrade_342 (tg_61 hT) (nI_clamp (by omega)) (vp_in_nI (by omega) (by decide)) ?_
              rw [a_ur_ne (f := a_ur (a_ur (a_ur (a_ur (a_u (a_u (a_u (a_u (a_u I 44 61 0) 61 t (nI ((iN I 61 t) + 1))) 58 (3 * t) (I 58 ((3 * t) + 1))) 58 ((3 * t) + 1) (I 58 (3 * t))) 44 35 ((I 44 35) + 1)) 65 (S65 I t g)) 70 (SV I 70 t g)) 73 (SV I 73 t g)) 72 (SA I t g)) (o := 67) (a := 61) (g := SR I t k2) (by decide)]
              rw [a_ur_ne (f := a_ur (a_ur (a_ur (a_u (a_u (a_u (a_u (a_u I 44 61 0) 61 t (nI ((iN I 61 t) + 1))) 58 (3 * t) (I 58 ((3 * t) + 1))) 58 ((3 * t) + 1) (I 58 (3 * t))) 44 35 ((I 44 35) + 1)) 65 (S65 I t g)) 70 (SV I 70 t g)) 73 (SV I 73 t g)) (o := 72) (a := 61) (g := SA I t g) (by decide)]
              rw [a_ur_ne (f := a_ur (a_ur (a_u (a_u (a_u (a_u (a_u I 44 61 0) 61 t (nI ((iN I 61 t) + 1))) 58 (3 * t) (I 58 ((3 * t) + 1))) 58 ((3 * t) + 1) (I 58 (3 * t))) 44 35 ((I 44 35) + 1)) 65 (S65 I t g)) 70 (SV I 70 t g)) (o := 73) (a := 61) (g := SV I 73 t g) (by decide)]
              rw [a_ur_ne (f := a_ur (a_u (a_u (a_u (a_u (a_u I 44 61 0) 61 t (nI ((iN I 61 t) + 1))) 58 (3 * t) (I 58 ((3 * t) + 1))) 58 ((3 * t) + 1) (I 58 (3 * t))) 44 35 ((I 44 35) + 1)) 65 (S65 I t g)) (o := 70) (a := 61) (g := SV I 70 t g) (by decide)]
              rw [a_ur_ne (f := a_u (a_u (a_u (a_u (a_u I 44 61 0) 61 t (nI ((iN I 61 t) + 1))) 58 (3 * t) (I 58 ((3 * t) + 1))) 58 ((3 * t) + 1) (I 58 (3 * t))) 44 35 ((I 44 35) + 1)) (o := 65) (a := 61) (g := S65 I t g) (by decide)]
              rw [a_u_ne (f := a_u (a_u (a_u (a_u I 44 61 0) 61 t (nI ((iN I 61 t) + 1))) 58 (3 * t) (I 58 ((3 * t) + 1))) 58 ((3 * t) + 1) (I 58 (3 * t))) (o := 44) (k := 35) (a := 61) (b := t) (v := (I 44 35) + 1) (fun q => absurd q.1 (by decide))]
              rw [a_u_ne (f := a_u (a_u (a_u I 44 61 0) 61 t (nI ((iN I 61 t) + 1))) 58 (3 * t) (I 58 ((3 * t) + 1))) (o := 58) (k := ((3 * t) + 1)) (a := 61) (b := t) (v := I 58 (3 * t)) (fun q => absurd q.1 (by decide))]
              rw [a_u_ne (f := a_u (a_u I 44 61 0) 61 t (nI ((iN I 61 t) + 1))) (o := 58) (k := (3 * t)) (a := 61) (b := t) (v := I 58 ((3 * t) + 1)) (fun q => absurd q.1 (by decide))]
              rw [a_u_self (f := a_u I 44 61 0) (o := 61) (k := t) (v := nI ((iN I 61 t) + 1))]
              exact aw_ireturn hC hq rfl dX12_upgrade_343 a_le a_le (aPure_e rfl (by rw [show k2 = r from by omega]) rfl rfl)
            · show AW X 0 0 300 [some (.ref 44), some (.int (nI t)), some (.int (I 58 (3 * t))), some (.int (nI k2)), none, none] [] T (a_ur (a_ur (a_ur (a_ur (a_ur (a_u (a_u (a_u (a_u I 44 61 0) 61 t (nI ((iN I 61 t) + 1))) 58 (3 * t) (I 58 ((3 * t) + 1))) 58 ((3 * t) + 1) (I 58 (3 * t))) 65 (S65 I t g)) 70 (SV I 70 t g)) 73 (SV I 73 t g)) 72 (SA I t g)) 67 (SR I t k2)) J R
              have h8n : ¬ r ≤ k2 := fun q9 => h8 ((nI_leI (a := r) (b := k2) (by omega) (by omega)).mpr q9)
              refine aw_aload_n hC dX12_upgrade_300 rfl ?_
              refine aw_getR hC dX12_upgrade_301 aF_X12_74 rfl (tg_44 hT) (pr_44_26 hR) ?_
              refine aw_iload_n hC dX12_upgrade_304 rfl ?_
              refine aw_iaload_k (j := k2) hC dX12_upgrade_305 (tg_66 hT) (nI_clamp (by omega)) (vp_in_nI (by omega) (by decide)) ?_
              rw [a_ur_ne (f := a_ur (a_ur (a_ur (a_ur (a_u (a_u (a_u (a_u I 44 61 0) 61 t (nI ((iN I 61 t) + 1))) 58 (3 * t) (I 58 ((3 * t) + 1))) 58 ((3 * t) + 1) (I 58 (3 * t))) 65 (S65 I t g)) 70 (SV I 70 t g)) 73 (SV I 73 t g)) 72 (SA I t g)) (o := 67) (a := 66) (g := SR I t k2) (by decide)]
              rw [a_ur_ne (f := a_ur (a_ur (a_ur (a_u (a_u (a_u (a_u I 44 61 0) 61 t (nI ((iN I 61 t) + 1))) 58 (3 * t) (I 58 ((3 * t) + 1))) 58 ((3 * t) + 1) (I 58 (3 * t))) 65 (S65 I t g)) 70 (SV I 70 t g)) 73 (SV I 73 t g)) (o := 72) (a := 66) (g := SA I t g) (by decide)]
              rw [a_ur_ne (f := a_ur (a_ur (a_u (a_u (a_u (a_u I 44 61 0) 61 t (nI ((iN I 61 t) + 1))) 58 (3 * t) (I 58 ((3 * t) + 1))) 58 ((3 * t) + 1) (I 58 (3 * t))) 65 (S65 I t g)) 70 (SV I 70 t g)) (o := 73) (a := 66) (g := SV I 73 t g) (by decide)]
              rw [a_ur_ne (f := a_ur (a_u (a_u (a_u (a_u I 44 61 0) 61 t (nI ((iN I 61 t) + 1))) 58 (3 * t) (I 58 ((3 * t) + 1))) 58 ((3 * t) + 1) (I 58 (3 * t))) 65 (S65 I t g)) (o := 70) (a := 66) (g := SV I 70 t g) (by decide)]
              rw [a_ur_ne (f := a_u (a_u (a_u (a_u I 44 61 0) 61 t (nI ((iN I 61 t) + 1))) 58 (3 * t) (I 58 ((3 * t) + 1))) 58 ((3 * t) + 1) (I 58 (3 * t))) (o := 65) (a := 66) (g := S65 I t g) (by decide)]
              rw [a_u_ne (f := a_u (a_u (a_u I 44 61 0) 61 t (nI ((iN I 61 t) + 1))) 58 (3 * t) (I 58 ((3 * t) + 1))) (o := 58) (k := ((3 * t) + 1)) (a := 66) (b := k2) (v := I 58 (3 * t)) (fun q => absurd q.1 (by decide))]
              rw [a_u_ne (f := a_u (a_u I 44 61 0) 61 t (nI ((iN I 61 t) + 1))) (o := 58) (k := (3 * t)) (a := 66) (b := k2) (v := I 58 ((3 * t) + 1)) (fun q => absurd q.1 (by decide))]
              rw [a_u_ne (f := a_u I 44 61 0) (o := 61) (k := t) (a := 66) (b := k2) (v := nI ((iN I 61 t) + 1)) (fun q => absurd q.1 (by decide))]
              rw [a_u_ne (f := I) (o := 44) (k := 61) (a := 66) (b := k2) (v := 0) (fun q => absurd q.1 (by decide))]
              have hb9 := ht6 k2 (by omega)
              rw [hb9.1]
              refine aw_iload_n hC dX12_upgrade_306 rfl ?_
              refine aw_icmp_ne (tgt := 321) hC dX12_upgrade_307 (by decide) (fun h10 => ?_) (fun h10 => ?_)
              · show AW X 0 0 321 [some (.ref 44), some (.int (nI t)), some (.int (I 58 (3 * t))), some (.int (nI k2)), none, none] [] T (a_ur (a_ur (a_ur (a_ur (a_ur (a_u (a_u (a_u (a_u I 44 61 0) 61 t (nI ((iN I 61 t) + 1))) 58 (3 * t) (I 58 ((3 * t) + 1))) 58 ((3 * t) + 1) (I 58 (3 * t))) 65 (S65 I t g)) 70 (SV I 70 t g)) 73 (SV I 73 t g)) 72 (SA I t g)) 67 (SR I t k2)) J R
                have h10n : ¬ (iN I 66 k2) = t := fun q9 => h10 ((nI_eq (a := (iN I 66 k2)) (b := t) (by omega) (by omega)).mpr q9)
                refine aw_iinc (v := nI (k2 + 1)) (L2 := [some (.ref 44), some (.int (nI t)), some (.int (I 58 (3 * t))), some (.int (nI (k2 + 1))), none, none]) hC dX12_upgrade_321 rfl (nI_inc _) (by decide) rfl ?_
                refine aw_goto (tgt := 292) hC dX12_upgrade_324 (by decide) ?_
                rw [show a_ur (a_ur (a_ur (a_ur (a_ur (a_u (a_u (a_u (a_u I 44 61 0) 61 t (nI ((iN I 61 t) + 1))) 58 (3 * t) (I 58 ((3 * t) + 1))) 58 ((3 * t) + 1) (I 58 (3 * t))) 65 (S65 I t g)) 70 (SV I 70 t g)) 73 (SV I 73 t g)) 72 (SA I t g)) 67 (SR I t k2) = a_ur (a_ur (a_ur (a_ur (a_ur (a_u (a_u (a_u (a_u I 44 61 0) 61 t (nI ((iN I 61 t) + 1))) 58 (3 * t) (I 58 ((3 * t) + 1))) 58 ((3 * t) + 1) (I 58 (3 * t))) 65 (S65 I t g)) 70 (SV I 70 t g)) 73 (SV I 73 t g)) 72 (SA I t g)) 67 (SR I t (k2 + 1)) from (a_ur_cg (a_ur_cg (a_ur_cg (a_ur_cg (a_ur_ext (fun j => rfl)) (fun j => rfl)) (fun j => rfl)) (fun j => rfl)) (fun j => by clear hC hq; have e1 : 3 * k2 ≤ j → j < 3 * k2 + 3 → j / 3 = k2 := (by omega); (try simp only [S65, S65m, SV, SVn, SA, SAn, SR]); grind))]
                exact ihD (by omega)
              · show AW X 0 0 310 [some (.ref 44), some (.int (nI t)), some (.int (I 58 (3 * t))), some (.int (nI k2)), none, none] [] T (a_ur (a_ur (a_ur (a_ur (a_ur (a_u (a_u (a_u (a_u I 44 61 0) 61 t (nI ((iN I 61 t) + 1))) 58 (3 * t) (I 58 ((3 * t) + 1))) 58 ((3 * t) + 1) (I 58 (3 * t))) 65 (S65 I t g)) 70 (SV I 70 t g)) 73 (SV I 73 t g)) 72 (SA I t g)) 67 (SR I t k2)) J R
                have h10n : (iN I 66 k2) = t := (nI_eq (a := (iN I 66 k2)) (b := t) (by omega) (by omega)).mp h10
                refine aw_aload_n hC dX12_upgrade_310 rfl ?_
                refine aw_aload_n hC dX12_upgrade_311 rfl ?_
                refine aw_getR hC dX12_upgrade_312 aF_X12_77 rfl (tg_44 hT) (pr_44_27 hR) ?_
                refine aw_iconst (v := 3) hC dX12_upgrade_315 (by decide) ?_
                refine aw_iload_n hC dX12_upgrade_316 rfl ?_
                refine aw_imul hC dX12_upgrade_317 ?_
                rw [show 3 * (nI k2) = nI (3 * k2) from pk_mul 3 k2]
                refine kX12_339 hC rfl (m_X12_changes67 hT hR (m := (3 * k2)) (by omega)) dX12_upgrade_318 (tg_44 hT) rfl a_le a_le a_le a_le a_le rfl aPure_x (aPure_k ?_)
                rw [show a_ur (a_ur (a_ur (a_ur (a_ur (a_ur (a_u (a_u (a_u (a_u I 44 61 0) 61 t (nI ((iN I 61 t) + 1))) 58 (3 * t) (I 58 ((3 * t) + 1))) 58 ((3 * t) + 1) (I 58 (3 * t))) 65 (S65 I t g)) 70 (SV I 70 t g)) 73 (SV I 73 t g)) 72 (SA I t g)) 67 (SR I t k2)) 67 (chgR ((a_ur (a_ur (a_ur (a_ur (a_ur (a_u (a_u (a_u (a_u I 44 61 0) 61 t (nI ((iN I 61 t) + 1))) 58 (3 * t) (I 58 ((3 * t) + 1))) 58 ((3 * t) + 1) (I 58 (3 * t))) 65 (S65 I t g)) 70 (SV I 70 t g)) 73 (SV I 73 t g)) 72 (SA I t g)) 67 (SR I t k2)) 67) (3 * k2)) = a_ur (a_ur (a_ur (a_ur (a_ur (a_u (a_u (a_u (a_u I 44 61 0) 61 t (nI ((iN I 61 t) + 1))) 58 (3 * t) (I 58 ((3 * t) + 1))) 58 ((3 * t) + 1) (I 58 (3 * t))) 65 (S65 I t g)) 70 (SV I 70 t g)) 73 (SV I 73 t g)) 72 (SA I t g)) 67 (chgR (SR I t k2) (3 * k2)) from by rw [show (a_ur (a_ur (a_ur (a_ur (a_ur (a_u (a_u (a_u (a_u I 44 61 0) 61 t (nI ((iN I 61 t) + 1))) 58 (3 * t) (I 58 ((3 * t) + 1))) 58 ((3 * t) + 1) (I 58 (3 * t))) 65 (S65 I t g)) 70 (SV I 70 t g)) 73 (SV I 73 t g)) 72 (SA I t g)) 67 (SR I t k2)) 67 = SR I t k2 from by rw [a_ur_self], a_ur_2]]
                show AW X 0 0 321 [some (.ref 44), some (.int (nI t)), some (.int (I 58 (3 * t))), some (.int (nI k2)), none, none] [] T (a_ur (a_ur (a_ur (a_ur (a_ur (a_u (a_u (a_u (a_u I 44 61 0) 61 t (nI ((iN I 61 t) + 1))) 58 (3 * t) (I 58 ((3 * t) + 1))) 58 ((3 * t) + 1) (I 58 (3 * t))) 65 (S65 I t g)) 70 (SV I 70 t g)) 73 (SV I 73 t g)) 72 (SA I t g)) 67 (chgR (SR I t k2) (3 * k2))) J R
                refine aw_iinc (v := nI (k2 + 1)) (L2 := [some (.ref 44), some (.int (nI t)), some (.int (I 58 (3 * t))), some (.int (nI (k2 + 1))), none, none]) hC dX12_upgrade_321 rfl (nI_inc _) (by decide) rfl ?_
                refine aw_goto (tgt := 292) hC dX12_upgrade_324 (by decide) ?_
                rw [show a_ur (a_ur (a_ur (a_ur (a_ur (a_u (a_u (a_u (a_u I 44 61 0) 61 t (nI ((iN I 61 t) + 1))) 58 (3 * t) (I 58 ((3 * t) + 1))) 58 ((3 * t) + 1) (I 58 (3 * t))) 65 (S65 I t g)) 70 (SV I 70 t g)) 73 (SV I 73 t g)) 72 (SA I t g)) 67 (chgR (SR I t k2) (3 * k2)) = a_ur (a_ur (a_ur (a_ur (a_ur (a_u (a_u (a_u (a_u I 44 61 0) 61 t (nI ((iN I 61 t) + 1))) 58 (3 * t) (I 58 ((3 * t) + 1))) 58 ((3 * t) + 1) (I 58 (3 * t))) 65 (S65 I t g)) 70 (SV I 70 t g)) 73 (SV I 73 t g)) 72 (SA I t g)) 67 (SR I t (k2 + 1)) from (a_ur_cg (a_ur_cg (a_ur_cg (a_ur_cg (a_ur_ext (fun j => rfl)) (fun j => rfl)) (fun j => rfl)) (fun j => rfl)) (fun j => by clear hC hq; have e1 : 3 * k2 ≤ j → j < 3 * k2 + 3 → j / 3 = k2 := (by omega); (try simp only [S65, S65m, SV, SVn, SA, SAn, SR]); grind))]
                exact ihD (by omega)
          exact loopD 0 (Nat.zero_le _)
        · show AW X 0 0 104 [some (.ref 44), some (.int (nI t)), some (.int (I 58 (3 * t))), some (.int (nI k)), none, none] [] T (a_ur (a_ur (a_ur (a_ur (a_u (a_u (a_u (a_u I 44 61 0) 61 t (nI ((iN I 61 t) + 1))) 58 (3 * t) (I 58 ((3 * t) + 1))) 58 ((3 * t) + 1) (I 58 (3 * t))) 65 (S65 I t k)) 70 (SV I 70 t k)) 73 (SV I 73 t k)) 72 (SA I t k)) J R
          have h7n : ¬ g ≤ k := fun q9 => h7 ((nI_leI (a := g) (b := k) (by omega) (by omega)).mpr q9)
          refine aw_iconst (v := 0) hC dX12_upgrade_104 (by decide) ?_
          refine aw_istore (L2 := [some (.ref 44), some (.int (nI t)), some (.int (I 58 (3 * t))), some (.int (nI k)), some (.int 0), none]) hC dX12_upgrade_105 (by decide) rfl ?_
          rw [show a_ur (a_ur (a_ur (a_ur (a_u (a_u (a_u (a_u I 44 61 0) 61 t (nI ((iN I 61 t) + 1))) 58 (3 * t) (I 58 ((3 * t) + 1))) 58 ((3 * t) + 1) (I 58 (3 * t))) 65 (S65 I t k)) 70 (SV I 70 t k)) 73 (SV I 73 t k)) 72 (SA I t k) = a_ur (a_ur (a_ur (a_ur (a_u (a_u (a_u (a_u I 44 61 0) 61 t (nI ((iN I 61 t) + 1))) 58 (3 * t) (I 58 ((3 * t) + 1))) 58 ((3 * t) + 1) (I 58 (3 * t))) 65 (S65m I t k 0)) 70 (SV I 70 t k)) 73 (SV I 73 t k)) 72 (SA I t k) from (a_ur_cg (a_ur_cg (a_ur_cg (a_ur_ext (fun j => by clear hC hq; (try simp only [S65, S65m, SV, SVn, SA, SAn, SR]); grind)) (fun j => rfl)) (fun j => rfl)) (fun j => rfl))]
          have loopB : ∀ m, m ≤ 3 → AW X 0 0 107 [some (.ref 44), some (.int (nI t)), some (.int (I 58 (3 * t))), some (.int (nI k)), some (.int (nI m)), none] [] T (a_ur (a_ur (a_ur (a_ur (a_u (a_u (a_u (a_u I 44 61 0) 61 t (nI ((iN I 61 t) + 1))) 58 (3 * t) (I 58 ((3 * t) + 1))) 58 ((3 * t) + 1) (I 58 (3 * t))) 65 (S65m I t k m)) 70 (SV I 70 t k)) 73 (SV I 73 t k)) 72 (SA I t k)) J R := by
            refine a_down 3 (fun m hkB ihB => ?_)
            refine aw_iload hC dX12_upgrade_107 rfl ?_
            refine aw_iconst (v := 3) hC dX12_upgrade_109 (by decide) ?_
            refine aw_icmp_ge (tgt := 146) hC dX12_upgrade_110 (by decide) (fun h11 => ?_) (fun h11 => ?_)
            · show AW X 0 0 146 [some (.ref 44), some (.int (nI t)), some (.int (I 58 (3 * t))), some (.int (nI k)), some (.int (nI m)), none] [] T (a_ur (a_ur (a_ur (a_ur (a_u (a_u (a_u (a_u I 44 61 0) 61 t (nI ((iN I 61 t) + 1))) 58 (3 * t) (I 58 ((3 * t) + 1))) 58 ((3 * t) + 1) (I 58 (3 * t))) 65 (S65m I t k m)) 70 (SV I 70 t k)) 73 (SV I 73 t k)) 72 (SA I t k)) J R
              have h11n : 3 ≤ m := (nI_leI (a := 3) (b := m) (by omega) (by omega)).mp h11
              refine aw_aload_n hC dX12_upgrade_146 rfl ?_
              refine aw_getR hC dX12_upgrade_147 aF_X12_62 rfl (tg_44 hT) (pr_44_21 hR) ?_
              refine aw_iload_n hC dX12_upgrade_150 rfl ?_
              refine aw_iaload_k (j := k) hC dX12_upgrade_151 (tg_62 hT) (nI_clamp (by omega)) (vp_in_nI (by omega) (by decide)) ?_
              rw [a_ur_ne (f := a_ur (a_ur (a_ur (a_u (a_u (a_u (a_u I 44 61 0) 61 t (nI ((iN I 61 t) + 1))) 58 (3 * t) (I 58 ((3 * t) + 1))) 58 ((3 * t) + 1) (I 58 (3 * t))) 65 (S65m I t k m)) 70 (SV I 70 t k)) 73 (SV I 73 t k)) (o := 72) (a := 62) (g := SA I t k) (by decide)]
              rw [a_ur_ne (f := a_ur (a_ur (a_u (a_u (a_u (a_u I 44 61 0) 61 t (nI ((iN I 61 t) + 1))) 58 (3 * t) (I 58 ((3 * t) + 1))) 58 ((3 * t) + 1) (I 58 (3 * t))) 65 (S65m I t k m)) 70 (SV I 70 t k)) (o := 73) (a := 62) (g := SV I 73 t k) (by decide)]
              rw [a_ur_ne (f := a_ur (a_u (a_u (a_u (a_u I 44 61 0) 61 t (nI ((iN I 61 t) + 1))) 58 (3 * t) (I 58 ((3 * t) + 1))) 58 ((3 * t) + 1) (I 58 (3 * t))) 65 (S65m I t k m)) (o := 70) (a := 62) (g := SV I 70 t k) (by decide)]
              rw [a_ur_ne (f := a_u (a_u (a_u (a_u I 44 61 0) 61 t (nI ((iN I 61 t) + 1))) 58 (3 * t) (I 58 ((3 * t) + 1))) 58 ((3 * t) + 1) (I 58 (3 * t))) (o := 65) (a := 62) (g := S65m I t k m) (by decide)]
              rw [a_u_ne (f := a_u (a_u (a_u I 44 61 0) 61 t (nI ((iN I 61 t) + 1))) 58 (3 * t) (I 58 ((3 * t) + 1))) (o := 58) (k := ((3 * t) + 1)) (a := 62) (b := k) (v := I 58 (3 * t)) (fun q => absurd q.1 (by decide))]
              rw [a_u_ne (f := a_u (a_u I 44 61 0) 61 t (nI ((iN I 61 t) + 1))) (o := 58) (k := (3 * t)) (a := 62) (b := k) (v := I 58 ((3 * t) + 1)) (fun q => absurd q.1 (by decide))]
              rw [a_u_ne (f := a_u I 44 61 0) (o := 61) (k := t) (a := 62) (b := k) (v := nI ((iN I 61 t) + 1)) (fun q => absurd q.1 (by decide))]
              rw [a_u_ne (f := I) (o := 44) (k := 61) (a := 62) (b := k) (v := 0) (fun q => absurd q.1 (by decide))]
              have hb12 := ht k (by omega)
              rw [hb12.1]
              refine aw_iload_n hC dX12_upgrade_152 rfl ?_
              refine aw_icmp_ne (tgt := 284) hC dX12_upgrade_153 (by decide) (fun h13 => ?_) (fun h13 => ?_)
              · show AW X 0 0 284 [some (.ref 44), some (.int (nI t)), some (.int (I 58 (3 * t))), some (.int (nI k)), some (.int (nI m)), none] [] T (a_ur (a_ur (a_ur (a_ur (a_u (a_u (a_u (a_u I 44 61 0) 61 t (nI ((iN I 61 t) + 1))) 58 (3 * t) (I 58 ((3 * t) + 1))) 58 ((3 * t) + 1) (I 58 (3 * t))) 65 (S65m I t k m)) 70 (SV I 70 t k)) 73 (SV I 73 t k)) 72 (SA I t k)) J R
                have h13n : ¬ (iN I 62 k) = t := fun q9 => h13 ((nI_eq (a := (iN I 62 k)) (b := t) (by omega) (by omega)).mpr q9)
                refine aw_iinc (v := nI (k + 1)) (L2 := [some (.ref 44), some (.int (nI t)), some (.int (I 58 (3 * t))), some (.int (nI (k + 1))), some (.int (nI m)), none]) hC dX12_upgrade_284 rfl (nI_inc _) (by decide) rfl ?_
                refine aw_goto (tgt := 96) hC dX12_upgrade_287 (by decide) ?_
                rw [show a_ur (a_ur (a_ur (a_ur (a_u (a_u (a_u (a_u I 44 61 0) 61 t (nI ((iN I 61 t) + 1))) 58 (3 * t) (I 58 ((3 * t) + 1))) 58 ((3 * t) + 1) (I 58 (3 * t))) 65 (S65m I t k m)) 70 (SV I 70 t k)) 73 (SV I 73 t k)) 72 (SA I t k) = a_ur (a_ur (a_ur (a_ur (a_u (a_u (a_u (a_u I 44 61 0) 61 t (nI ((iN I 61 t) + 1))) 58 (3 * t) (I 58 ((3 * t) + 1))) 58 ((3 * t) + 1) (I 58 (3 * t))) 65 (S65 I t (k + 1))) 70 (SV I 70 t (k + 1))) 73 (SV I 73 t (k + 1))) 72 (SA I t (k + 1)) from (a_ur_cg (a_ur_cg (a_ur_cg (a_ur_ext (fun j => by clear hC hq hs; have e2 : m = 3 := (by omega); subst e2; first | exact up65a (by rw [(ht k (by omega)).1]; congr 1) j | exact up65b (by rw [(ht k (by omega)).1]; assumption) j | grind)) (fun j => by clear hC hq; have e1 : 48 * k ≤ j → j < 48 * k + 48 → j / 48 = k := (by omega); (try simp only [S65, S65m, SV, SVn, SA, SAn, SR]); grind)) (fun j => by clear hC hq; have e1 : 48 * k ≤ j → j < 48 * k + 48 → j / 48 = k := (by omega); (try simp only [S65, S65m, SV, SVn, SA, SAn, SR]); grind)) (fun j => by clear hC hq; have e1 : 16 * k ≤ j → j < 16 * k + 16 → j / 16 = k := (by omega); (try simp only [S65, S65m, SV, SVn, SA, SAn, SR]); grind))]
                refine aw_forget 4 (L2 := [some (.ref 44), some (.int (nI t)), some (.int (I 58 (3 * t))), some (.int (nI (k + 1))), none, none]) rfl ?_
                exact ihA (by omega)
              · show AW X 0 0 156 [some (.ref 44), some (.int (nI t)), some (.int (I 58 (3 * t))), some (.int (nI k)), some (.int (nI m)), none] [] T (a_ur (a_ur (a_ur (a_ur (a_u (a_u (a_u (a_u I 44 61 0) 61 t (nI ((iN I 61 t) + 1))) 58 (3 * t) (I 58 ((3 * t) + 1))) 58 ((3 * t) + 1) (I 58 (3 * t))) 65 (S65m I t k m)) 70 (SV I 70 t k)) 73 (SV I 73 t k)) 72 (SA I t k)) J R
                have h13n : (iN I 62 k) = t := (nI_eq (a := (iN I 62 k)) (b := t) (by omega) (by omega)).mp h13
                refine aw_aload_n hC dX12_upgrade_156 rfl ?_
                refine aw_getR hC dX12_upgrade_157 aF_X12_71 rfl (tg_44 hT) (pr_44_24 hR) ?_
                refine aw_iconst (v := 3) hC dX12_upgrade_160 (by decide) ?_
                refine aw_iload_n hC dX12_upgrade_161 rfl ?_
                refine aw_imul hC dX12_upgrade_162 ?_
                rw [show 3 * (nI k) = nI (3 * k) from pk_mul 3 k]
                refine aw_iaload_k (j := (3 * k)) hC dX12_upgrade_163 (tg_65 hT) (nI_clamp (by omega)) (vp_in_nI (by omega) (by decide)) ?_
                rw [a_ur_ne (f := a_ur (a_ur (a_ur (a_u (a_u (a_u (a_u I 44 61 0) 61 t (nI ((iN I 61 t) + 1))) 58 (3 * t) (I 58 ((3 * t) + 1))) 58 ((3 * t) + 1) (I 58 (3 * t))) 65 (S65m I t k m)) 70 (SV I 70 t k)) 73 (SV I 73 t k)) (o := 72) (a := 65) (g := SA I t k) (by decide)]
                rw [a_ur_ne (f := a_ur (a_ur (a_u (a_u (a_u (a_u I 44 61 0) 61 t (nI ((iN I 61 t) + 1))) 58 (3 * t) (I 58 ((3 * t) + 1))) 58 ((3 * t) + 1) (I 58 (3 * t))) 65 (S65m I t k m)) 70 (SV I 70 t k)) (o := 73) (a := 65) (g := SV I 73 t k) (by decide)]
                rw [a_ur_ne (f := a_ur (a_u (a_u (a_u (a_u I 44 61 0) 61 t (nI ((iN I 61 t) + 1))) 58 (3 * t) (I 58 ((3 * t) + 1))) 58 ((3 * t) + 1) (I 58 (3 * t))) 65 (S65m I t k m)) (o := 70) (a := 65) (g := SV I 70 t k) (by decide)]
                rw [a_ur_self (f := a_u (a_u (a_u (a_u I 44 61 0) 61 t (nI ((iN I 61 t) + 1))) 58 (3 * t) (I 58 ((3 * t) + 1))) 58 ((3 * t) + 1) (I 58 (3 * t))) (o := 65) (g := S65m I t k m)]
                refine aw_istore (L2 := [some (.ref 44), some (.int (nI t)), some (.int (I 58 (3 * t))), some (.int (nI k)), some (.int ((S65m I t k m) (3 * k))), none]) hC dX12_upgrade_164 (by decide) rfl ?_
                refine aw_aload_n hC dX12_upgrade_166 rfl ?_
                refine aw_getR hC dX12_upgrade_167 aF_X12_71 rfl (tg_44 hT) (pr_44_24 hR) ?_
                refine aw_iconst (v := 3) hC dX12_upgrade_170 (by decide) ?_
                refine aw_iload_n hC dX12_upgrade_171 rfl ?_
                refine aw_imul hC dX12_upgrade_172 ?_
                rw [show 3 * (nI k) = nI (3 * k) from pk_mul 3 k]
                refine aw_aload_n hC dX12_upgrade_173 rfl ?_
                refine aw_getR hC dX12_upgrade_174 aF_X12_71 rfl (tg_44 hT) (pr_44_24 hR) ?_
                refine aw_iconst (v := 3) hC dX12_upgrade_177 (by decide) ?_
                refine aw_iload_n hC dX12_upgrade_178 rfl ?_
                refine aw_imul hC dX12_upgrade_179 ?_
                rw [show 3 * (nI k) = nI (3 * k) from pk_mul 3 k]
                refine aw_iconst (v := 1) hC dX12_upgrade_180 (by decide) ?_
                refine aw_iadd hC dX12_upgrade_181 ?_
                rw [show (nI (3 * k)) + 1 = nI ((3 * k) + 1) from nI_add (3 * k) 1]
                refine aw_iaload_k (j := ((3 * k) + 1)) hC dX12_upgrade_182 (tg_65 hT) (nI_clamp (by omega)) (vp_in_nI (by omega) (by decide)) ?_
                rw [a_ur_ne (f := a_ur (a_ur (a_ur (a_u (a_u (a_u (a_u I 44 61 0) 61 t (nI ((iN I 61 t) + 1))) 58 (3 * t) (I 58 ((3 * t) + 1))) 58 ((3 * t) + 1) (I 58 (3 * t))) 65 (S65m I t k m)) 70 (SV I 70 t k)) 73 (SV I 73 t k)) (o := 72) (a := 65) (g := SA I t k) (by decide)]
                rw [a_ur_ne (f := a_ur (a_ur (a_u (a_u (a_u (a_u I 44 61 0) 61 t (nI ((iN I 61 t) + 1))) 58 (3 * t) (I 58 ((3 * t) + 1))) 58 ((3 * t) + 1) (I 58 (3 * t))) 65 (S65m I t k m)) 70 (SV I 70 t k)) (o := 73) (a := 65) (g := SV I 73 t k) (by decide)]
                rw [a_ur_ne (f := a_ur (a_u (a_u (a_u (a_u I 44 61 0) 61 t (nI ((iN I 61 t) + 1))) 58 (3 * t) (I 58 ((3 * t) + 1))) 58 ((3 * t) + 1) (I 58 (3 * t))) 65 (S65m I t k m)) (o := 70) (a := 65) (g := SV I 70 t k) (by decide)]
                rw [a_ur_self (f := a_u (a_u (a_u (a_u I 44 61 0) 61 t (nI ((iN I 61 t) + 1))) 58 (3 * t) (I 58 ((3 * t) + 1))) 58 ((3 * t) + 1) (I 58 (3 * t))) (o := 65) (g := S65m I t k m)]
                refine aw_iastore_k (j := (3 * k)) hC dX12_upgrade_183 (tg_65 hT) (nI_clamp (by omega)) (vp_in_nI (by omega) (by decide)) ?_
                rw [show a_u (a_ur (a_ur (a_ur (a_ur (a_u (a_u (a_u (a_u I 44 61 0) 61 t (nI ((iN I 61 t) + 1))) 58 (3 * t) (I 58 ((3 * t) + 1))) 58 ((3 * t) + 1) (I 58 (3 * t))) 65 (S65m I t k m)) 70 (SV I 70 t k)) 73 (SV I 73 t k)) 72 (SA I t k)) 65 (3 * k) ((S65m I t k m) ((3 * k) + 1)) = a_ur (a_ur (a_ur (a_ur (a_u (a_u (a_u (a_u I 44 61 0) 61 t (nI ((iN I 61 t) + 1))) 58 (3 * t) (I 58 ((3 * t) + 1))) 58 ((3 * t) + 1) (I 58 (3 * t))) 65 (fun j => if j = (3 * k) then (S65m I t k m) ((3 * k) + 1) else (S65m I t k m) j)) 70 (SV I 70 t k)) 73 (SV I 73 t k)) 72 (SA I t k) from by rw [a_u_swap (by first | decide | omega), a_u_swap (by first | decide | omega), a_u_swap (by first | decide | omega), a_ur_put]]
                refine aw_aload_n hC dX12_upgrade_184 rfl ?_
                refine aw_getR hC dX12_upgrade_185 aF_X12_71 rfl (tg_44 hT) (pr_44_24 hR) ?_
                refine aw_iconst (v := 3) hC dX12_upgrade_188 (by decide) ?_
                refine aw_iload_n hC dX12_upgrade_189 rfl ?_
                refine aw_imul hC dX12_upgrade_190 ?_
                rw [show 3 * (nI k) = nI (3 * k) from pk_mul 3 k]
                refine aw_iconst (v := 1) hC dX12_upgrade_191 (by decide) ?_
                refine aw_iadd hC dX12_upgrade_192 ?_
                rw [show (nI (3 * k)) + 1 = nI ((3 * k) + 1) from nI_add (3 * k) 1]
                refine aw_iload hC dX12_upgrade_193 rfl ?_
                refine aw_iastore_k (j := ((3 * k) + 1)) hC dX12_upgrade_195 (tg_65 hT) (nI_clamp (by omega)) (vp_in_nI (by omega) (by decide)) ?_
                rw [show a_u (a_ur (a_ur (a_ur (a_ur (a_u (a_u (a_u (a_u I 44 61 0) 61 t (nI ((iN I 61 t) + 1))) 58 (3 * t) (I 58 ((3 * t) + 1))) 58 ((3 * t) + 1) (I 58 (3 * t))) 65 (fun j => if j = (3 * k) then (S65m I t k m) ((3 * k) + 1) else (S65m I t k m) j)) 70 (SV I 70 t k)) 73 (SV I 73 t k)) 72 (SA I t k)) 65 ((3 * k) + 1) ((S65m I t k m) (3 * k)) = a_ur (a_ur (a_ur (a_ur (a_u (a_u (a_u (a_u I 44 61 0) 61 t (nI ((iN I 61 t) + 1))) 58 (3 * t) (I 58 ((3 * t) + 1))) 58 ((3 * t) + 1) (I 58 (3 * t))) 65 (fun j => if j = ((3 * k) + 1) then (S65m I t k m) (3 * k) else (fun j => if j = (3 * k) then (S65m I t k m) ((3 * k) + 1) else (S65m I t k m) j) j)) 70 (SV I 70 t k)) 73 (SV I 73 t k)) 72 (SA I t k) from by rw [a_u_swap (by first | decide | omega), a_u_swap (by first | decide | omega), a_u_swap (by first | decide | omega), a_ur_put]]
                refine aw_bipush (v := 16) hC dX12_upgrade_196 (by decide) ?_
                refine aw_iload_n hC dX12_upgrade_198 rfl ?_
                refine aw_imul hC dX12_upgrade_199 ?_
                rw [show 16 * (nI k) = nI (16 * k) from pk_mul 16 k]
                refine aw_istore (L2 := [some (.ref 44), some (.int (nI t)), some (.int (I 58 (3 * t))), some (.int (nI k)), some (.int ((S65m I t k m) (3 * k))), some (.int (nI (16 * k)))]) hC dX12_upgrade_200 (by decide) rfl ?_
                rw [show a_ur (a_ur (a_ur (a_ur (a_u (a_u (a_u (a_u I 44 61 0) 61 t (nI ((iN I 61 t) + 1))) 58 (3 * t) (I 58 ((3 * t) + 1))) 58 ((3 * t) + 1) (I 58 (3 * t))) 65 (fun j => if j = ((3 * k) + 1) then (S65m I t k m) (3 * k) else (fun j => if j = (3 * k) then (S65m I t k m) ((3 * k) + 1) else (S65m I t k m) j) j)) 70 (SV I 70 t k)) 73 (SV I 73 t k)) 72 (SA I t k) = a_ur (a_ur (a_ur (a_ur (a_u (a_u (a_u (a_u I 44 61 0) 61 t (nI ((iN I 61 t) + 1))) 58 (3 * t) (I 58 ((3 * t) + 1))) 58 ((3 * t) + 1) (I 58 (3 * t))) 65 (fun j => if j = ((3 * k) + 1) then (S65m I t k m) (3 * k) else (fun j => if j = (3 * k) then (S65m I t k m) ((3 * k) + 1) else (S65m I t k m) j) j)) 70 (SVn I 70 t k (16 * k))) 73 (SVn I 73 t k (16 * k))) 72 (SAn I t k (16 * k)) from (a_ur_cg (a_ur_cg (a_ur_cg (a_ur_ext (fun j => rfl)) (fun j => by clear hC hq; (try simp only [S65, S65m, SV, SVn, SA, SAn, SR]); grind)) (fun j => by clear hC hq; (try simp only [S65, S65m, SV, SVn, SA, SAn, SR]); grind)) (fun j => by clear hC hq; (try simp only [S65, S65m, SV, SVn, SA, SAn, SR]); grind))]
                have loopC : ∀ n, n ≤ 16 * k + 16 → 16 * k ≤ n → AW X 0 0 202 [some (.ref 44), some (.int (nI t)), some (.int (I 58 (3 * t))), some (.int (nI k)), some (.int ((S65m I t k m) (3 * k))), some (.int (nI n))] [] T (a_ur (a_ur (a_ur (a_ur (a_u (a_u (a_u (a_u I 44 61 0) 61 t (nI ((iN I 61 t) + 1))) 58 (3 * t) (I 58 ((3 * t) + 1))) 58 ((3 * t) + 1) (I 58 (3 * t))) 65 (fun j => if j = ((3 * k) + 1) then (S65m I t k m) (3 * k) else (fun j => if j = (3 * k) then (S65m I t k m) ((3 * k) + 1) else (S65m I t k m) j) j)) 70 (SVn I 70 t k n)) 73 (SVn I 73 t k n)) 72 (SAn I t k n)) J R := by
                  refine a_down (16 * k + 16) (fun n hkC ihC => ?_)
                  intro hkC2
                  refine aw_iload hC dX12_upgrade_202 rfl ?_
                  refine aw_bipush (v := 16) hC dX12_upgrade_204 (by decide) ?_
                  refine aw_iload_n hC dX12_upgrade_206 rfl ?_
                  refine aw_imul hC dX12_upgrade_207 ?_
                  rw [show 16 * (nI k) = nI (16 * k) from pk_mul 16 k]
                  refine aw_bipush (v := 16) hC dX12_upgrade_208 (by decide) ?_
                  refine aw_iadd hC dX12_upgrade_210 ?_
                  rw [show (nI (16 * k)) + 16 = nI ((16 * k) + 16) from nI_add (16 * k) 16]
                  refine aw_icmp_ge (tgt := 284) hC dX12_upgrade_211 (by decide) (fun h14 => ?_) (fun h14 => ?_)
                  · show AW X 0 0 284 [some (.ref 44), some (.int (nI t)), some (.int (I 58 (3 * t))), some (.int (nI k)), some (.int ((S65m I t k m) (3 * k))), some (.int (nI n))] [] T (a_ur (a_ur (a_ur (a_ur (a_u (a_u (a_u (a_u I 44 61 0) 61 t (nI ((iN I 61 t) + 1))) 58 (3 * t) (I 58 ((3 * t) + 1))) 58 ((3 * t) + 1) (I 58 (3 * t))) 65 (fun j => if j = ((3 * k) + 1) then (S65m I t k m) (3 * k) else (fun j => if j = (3 * k) then (S65m I t k m) ((3 * k) + 1) else (S65m I t k m) j) j)) 70 (SVn I 70 t k n)) 73 (SVn I 73 t k n)) 72 (SAn I t k n)) J R
                    have h14n : ((16 * k) + 16) ≤ n := (nI_leI (a := ((16 * k) + 16)) (b := n) (by omega) (by omega)).mp h14
                    refine aw_iinc (v := nI (k + 1)) (L2 := [some (.ref 44), some (.int (nI t)), some (.int (I 58 (3 * t))), some (.int (nI (k + 1))), some (.int ((S65m I t k m) (3 * k))), some (.int (nI n))]) hC dX12_upgrade_284 rfl (nI_inc _) (by decide) rfl ?_
                    refine aw_goto (tgt := 96) hC dX12_upgrade_287 (by decide) ?_
                    rw [show a_ur (a_ur (a_ur (a_ur (a_u (a_u (a_u (a_u I 44 61 0) 61 t (nI ((iN I 61 t) + 1))) 58 (3 * t) (I 58 ((3 * t) + 1))) 58 ((3 * t) + 1) (I 58 (3 * t))) 65 (fun j => if j = ((3 * k) + 1) then (S65m I t k m) (3 * k) else (fun j => if j = (3 * k) then (S65m I t k m) ((3 * k) + 1) else (S65m I t k m) j) j)) 70 (SVn I 70 t k n)) 73 (SVn I 73 t k n)) 72 (SAn I t k n) = a_ur (a_ur (a_ur (a_ur (a_u (a_u (a_u (a_u I 44 61 0) 61 t (nI ((iN I 61 t) + 1))) 58 (3 * t) (I 58 ((3 * t) + 1))) 58 ((3 * t) + 1) (I 58 (3 * t))) 65 (S65 I t (k + 1))) 70 (SV I 70 t (k + 1))) 73 (SV I 73 t (k + 1))) 72 (SA I t (k + 1)) from (a_ur_cg (a_ur_cg (a_ur_cg (a_ur_ext (fun j => by clear hC hq hs; have e2 : m = 3 := (by omega); subst e2; first | exact up65a (by rw [(ht k (by omega)).1]; congr 1) j | exact up65b (by rw [(ht k (by omega)).1]; assumption) j | grind)) (fun j => by clear hC hq; have e1 : 48 * k ≤ j → j < 48 * k + 48 → j / 48 = k := (by omega); (try simp only [S65, S65m, SV, SVn, SA, SAn, SR]); grind)) (fun j => by clear hC hq; have e1 : 48 * k ≤ j → j < 48 * k + 48 → j / 48 = k := (by omega); (try simp only [S65, S65m, SV, SVn, SA, SAn, SR]); grind)) (fun j => by clear hC hq; have e1 : 16 * k ≤ j → j < 16 * k + 16 → j / 16 = k := (by omega); (try simp only [S65, S65m, SV, SVn, SA, SAn, SR]); grind))]
                    refine aw_forget 4 (L2 := [some (.ref 44), some (.int (nI t)), some (.int (I 58 (3 * t))), some (.int (nI (k + 1))), none, some (.int (nI n))]) rfl ?_
                    refine aw_forget 5 (L2 := [some (.ref 44), some (.int (nI t)), some (.int (I 58 (3 * t))), some (.int (nI (k + 1))), none, none]) rfl ?_
                    exact ihA (by omega)
                  · show AW X 0 0 214 [some (.ref 44), some (.int (nI t)), some (.int (I 58 (3 * t))), some (.int (nI k)), some (.int ((S65m I t k m) (3 * k))), some (.int (nI n))] [] T (a_ur (a_ur (a_ur (a_ur (a_u (a_u (a_u (a_u I 44 61 0) 61 t (nI ((iN I 61 t) + 1))) 58 (3 * t) (I 58 ((3 * t) + 1))) 58 ((3 * t) + 1) (I 58 (3 * t))) 65 (fun j => if j = ((3 * k) + 1) then (S65m I t k m) (3 * k) else (fun j => if j = (3 * k) then (S65m I t k m) ((3 * k) + 1) else (S65m I t k m) j) j)) 70 (SVn I 70 t k n)) 73 (SVn I 73 t k n)) 72 (SAn I t k n)) J R
                    have h14n : ¬ ((16 * k) + 16) ≤ n := fun q9 => h14 ((nI_leI (a := ((16 * k) + 16)) (b := n) (by omega) (by omega)).mpr q9)
                    refine aw_aload_n hC dX12_upgrade_214 rfl ?_
                    refine aw_aload_n hC dX12_upgrade_215 rfl ?_
                    refine aw_getR hC dX12_upgrade_216 aF_X12_86 rfl (tg_44 hT) (pr_44_30 hR) ?_
                    refine aw_iconst (v := 3) hC dX12_upgrade_219 (by decide) ?_
                    refine aw_iload hC dX12_upgrade_220 rfl ?_
                    refine aw_imul hC dX12_upgrade_222 ?_
                    rw [show 3 * (nI n) = nI (3 * n) from pk_mul 3 n]
                    refine kX12_339 hC rfl (m_X12_changes70 hT hR (m := (3 * n)) (by omega)) dX12_upgrade_223 (tg_44 hT) rfl a_le a_le a_le a_le a_le rfl aPure_x (aPure_k ?_)
                    rw [show a_ur (a_ur (a_ur (a_ur (a_ur (a_u (a_u (a_u (a_u I 44 61 0) 61 t (nI ((iN I 61 t) + 1))) 58 (3 * t) (I 58 ((3 * t) + 1))) 58 ((3 * t) + 1) (I 58 (3 * t))) 65 (fun j => if j = ((3 * k) + 1) then (S65m I t k m) (3 * k) else (fun j => if j = (3 * k) then (S65m I t k m) ((3 * k) + 1) else (S65m I t k m) j) j)) 70 (SVn I 70 t k n)) 73 (SVn I 73 t k n)) 72 (SAn I t k n)) 70 (chgR ((a_ur (a_ur (a_ur (a_ur (a_u (a_u (a_u (a_u I 44 61 0) 61 t (nI ((iN I 61 t) + 1))) 58 (3 * t) (I 58 ((3 * t) + 1))) 58 ((3 * t) + 1) (I 58 (3 * t))) 65 (fun j => if j = ((3 * k) + 1) then (S65m I t k m) (3 * k) else (fun j => if j = (3 * k) then (S65m I t k m) ((3 * k) + 1) else (S65m I t k m) j) j)) 70 (SVn I 70 t k n)) 73 (SVn I 73 t k n)) 72 (SAn I t k n)) 70) (3 * n)) = a_ur (a_ur (a_ur (a_ur (a_u (a_u (a_u (a_u I 44 61 0) 61 t (nI ((iN I 61 t) + 1))) 58 (3 * t) (I 58 ((3 * t) + 1))) 58 ((3 * t) + 1) (I 58 (3 * t))) 65 (fun j => if j = ((3 * k) + 1) then (S65m I t k m) (3 * k) else (fun j => if j = (3 * k) then (S65m I t k m) ((3 * k) + 1) else (S65m I t k m) j) j)) 70 (chgR (SVn I 70 t k n) (3 * n))) 73 (SVn I 73 t k n)) 72 (SAn I t k n) from by rw [show (a_ur (a_ur (a_ur (a_ur (a_u (a_u (a_u (a_u I 44 61 0) 61 t (nI ((iN I 61 t) + 1))) 58 (3 * t) (I 58 ((3 * t) + 1))) 58 ((3 * t) + 1) (I 58 (3 * t))) 65 (fun j => if j = ((3 * k) + 1) then (S65m I t k m) (3 * k) else (fun j => if j = (3 * k) then (S65m I t k m) ((3 * k) + 1) else (S65m I t k m) j) j)) 70 (SVn I 70 t k n)) 73 (SVn I 73 t k n)) 72 (SAn I t k n)) 70 = SVn I 70 t k n from by rw [a_ur_ne (by decide), a_ur_ne (by decide), a_ur_self], a_ur_swap (o := 70) (by decide), a_ur_swap (o := 70) (by decide), a_ur_2]]
                    show AW X 0 0 226 [some (.ref 44), some (.int (nI t)), some (.int (I 58 (3 * t))), some (.int (nI k)), some (.int ((S65m I t k m) (3 * k))), some (.int (nI n))] [] T (a_ur (a_ur (a_ur (a_ur (a_u (a_u (a_u (a_u I 44 61 0) 61 t (nI ((iN I 61 t) + 1))) 58 (3 * t) (I 58 ((3 * t) + 1))) 58 ((3 * t) + 1) (I 58 (3 * t))) 65 (fun j => if j = ((3 * k) + 1) then (S65m I t k m) (3 * k) else (fun j => if j = (3 * k) then (S65m I t k m) ((3 * k) + 1) else (S65m I t k m) j) j)) 70 (chgR (SVn I 70 t k n) (3 * n))) 73 (SVn I 73 t k n)) 72 (SAn I t k n)) J R
                    refine aw_aload_n hC dX12_upgrade_226 rfl ?_
                    refine aw_aload_n hC dX12_upgrade_227 rfl ?_
                    refine aw_getR hC dX12_upgrade_228 aF_X12_95 rfl (tg_44 hT) (pr_44_33 hR) ?_
                    refine aw_iconst (v := 3) hC dX12_upgrade_231 (by decide) ?_
                    refine aw_iload hC dX12_upgrade_232 rfl ?_
                    refine aw_imul hC dX12_upgrade_234 ?_
                    rw [show 3 * (nI n) = nI (3 * n) from pk_mul 3 n]
                    refine kX12_339 hC rfl (m_X12_changes73 hT hR (m := (3 * n)) (by omega)) dX12_upgrade_235 (tg_44 hT) rfl a_le a_le a_le a_le a_le rfl aPure_x (aPure_k ?_)
                    rw [show a_ur (a_ur (a_ur (a_ur (a_ur (a_u (a_u (a_u (a_u I 44 61 0) 61 t (nI ((iN I 61 t) + 1))) 58 (3 * t) (I 58 ((3 * t) + 1))) 58 ((3 * t) + 1) (I 58 (3 * t))) 65 (fun j => if j = ((3 * k) + 1) then (S65m I t k m) (3 * k) else (fun j => if j = (3 * k) then (S65m I t k m) ((3 * k) + 1) else (S65m I t k m) j) j)) 70 (chgR (SVn I 70 t k n) (3 * n))) 73 (SVn I 73 t k n)) 72 (SAn I t k n)) 73 (chgR ((a_ur (a_ur (a_ur (a_ur (a_u (a_u (a_u (a_u I 44 61 0) 61 t (nI ((iN I 61 t) + 1))) 58 (3 * t) (I 58 ((3 * t) + 1))) 58 ((3 * t) + 1) (I 58 (3 * t))) 65 (fun j => if j = ((3 * k) + 1) then (S65m I t k m) (3 * k) else (fun j => if j = (3 * k) then (S65m I t k m) ((3 * k) + 1) else (S65m I t k m) j) j)) 70 (chgR (SVn I 70 t k n) (3 * n))) 73 (SVn I 73 t k n)) 72 (SAn I t k n)) 73) (3 * n)) = a_ur (a_ur (a_ur (a_ur (a_u (a_u (a_u (a_u I 44 61 0) 61 t (nI ((iN I 61 t) + 1))) 58 (3 * t) (I 58 ((3 * t) + 1))) 58 ((3 * t) + 1) (I 58 (3 * t))) 65 (fun j => if j = ((3 * k) + 1) then (S65m I t k m) (3 * k) else (fun j => if j = (3 * k) then (S65m I t k m) ((3 * k) + 1) else (S65m I t k m) j) j)) 70 (chgR (SVn I 70 t k n) (3 * n))) 73 (chgR (SVn I 73 t k n) (3 * n))) 72 (SAn I t k n) from by rw [show (a_ur (a_ur (a_ur (a_ur (a_u (a_u (a_u (a_u I 44 61 0) 61 t (nI ((iN I 61 t) + 1))) 58 (3 * t) (I 58 ((3 * t) + 1))) 58 ((3 * t) + 1) (I 58 (3 * t))) 65 (fun j => if j = ((3 * k) + 1) then (S65m I t k m) (3 * k) else (fun j => if j = (3 * k) then (S65m I t k m) ((3 * k) + 1) else (S65m I t k m) j) j)) 70 (chgR (SVn I 70 t k n) (3 * n))) 73 (SVn I 73 t k n)) 72 (SAn I t k n)) 73 = SVn I 73 t k n from by rw [a_ur_ne (by decide), a_ur_self], a_ur_swap (o := 73) (by decide), a_ur_2]]
                    show AW X 0 0 238 [some (.ref 44), some (.int (nI t)), some (.int (I 58 (3 * t))), some (.int (nI k)), some (.int ((S65m I t k m) (3 * k))), some (.int (nI n))] [] T (a_ur (a_ur (a_ur (a_ur (a_u (a_u (a_u (a_u I 44 61 0) 61 t (nI ((iN I 61 t) + 1))) 58 (3 * t) (I 58 ((3 * t) + 1))) 58 ((3 * t) + 1) (I 58 (3 * t))) 65 (fun j => if j = ((3 * k) + 1) then (S65m I t k m) (3 * k) else (fun j => if j = (3 * k) then (S65m I t k m) ((3 * k) + 1) else (S65m I t k m) j) j)) 70 (chgR (SVn I 70 t k n) (3 * n))) 73 (chgR (SVn I 73 t k n) (3 * n))) 72 (SAn I t k n)) J R
                    refine aw_aload_n hC dX12_upgrade_238 rfl ?_
                    refine aw_getR hC dX12_upgrade_239 aF_X12_92 rfl (tg_44 hT) (pr_44_32 hR) ?_
                    refine aw_iload hC dX12_upgrade_242 rfl ?_
                    refine aw_aload_n hC dX12_upgrade_244 rfl ?_
                    refine aw_getR hC dX12_upgrade_245 aF_X12_92 rfl (tg_44 hT) (pr_44_32 hR) ?_
                    refine aw_iload hC dX12_upgrade_248 rfl ?_
                    refine aw_iaload_k (j := n) hC dX12_upgrade_250 (tg_72 hT) (nI_clamp (by omega)) (vp_in_nI (by omega) (by decide)) ?_
                    rw [a_ur_self (f := a_ur (a_ur (a_ur (a_u (a_u (a_u (a_u I 44 61 0) 61 t (nI ((iN I 61 t) + 1))) 58 (3 * t) (I 58 ((3 * t) + 1))) 58 ((3 * t) + 1) (I 58 (3 * t))) 65 (fun j => if j = ((3 * k) + 1) then (S65m I t k m) (3 * k) else (fun j => if j = (3 * k) then (S65m I t k m) ((3 * k) + 1) else (S65m I t k m) j) j)) 70 (chgR (SVn I 70 t k n) (3 * n))) 73 (chgR (SVn I 73 t k n) (3 * n))) (o := 72) (g := SAn I t k n)]
                    refine aw_iconst (v := 4) hC dX12_upgrade_251 (by decide) ?_
                    refine aw_iand hC dX12_upgrade_252 ?_
                    refine aw_aload_n hC dX12_upgrade_253 rfl ?_
                    refine aw_getR hC dX12_upgrade_254 aF_X12_92 rfl (tg_44 hT) (pr_44_32 hR) ?_
                    refine aw_iload hC dX12_upgrade_257 rfl ?_
                    refine aw_iaload_k (j := n) hC dX12_upgrade_259 (tg_72 hT) (nI_clamp (by omega)) (vp_in_nI (by omega) (by decide)) ?_
                    rw [a_ur_self (f := a_ur (a_ur (a_ur (a_u (a_u (a_u (a_u I 44 61 0) 61 t (nI ((iN I 61 t) + 1))) 58 (3 * t) (I 58 ((3 * t) + 1))) 58 ((3 * t) + 1) (I 58 (3 * t))) 65 (fun j => if j = ((3 * k) + 1) then (S65m I t k m) (3 * k) else (fun j => if j = (3 * k) then (S65m I t k m) ((3 * k) + 1) else (S65m I t k m) j) j)) 70 (chgR (SVn I 70 t k n) (3 * n))) 73 (chgR (SVn I 73 t k n) (3 * n))) (o := 72) (g := SAn I t k n)]
                    refine aw_iconst (v := 1) hC dX12_upgrade_260 (by decide) ?_
                    refine aw_iand hC dX12_upgrade_261 ?_
                    refine aw_iconst (v := 1) hC dX12_upgrade_262 (by decide) ?_
                    refine aw_ishl hC dX12_upgrade_263 ?_
                    refine aw_ior hC dX12_upgrade_264 ?_
                    refine aw_aload_n hC dX12_upgrade_265 rfl ?_
                    refine aw_getR hC dX12_upgrade_266 aF_X12_92 rfl (tg_44 hT) (pr_44_32 hR) ?_
                    refine aw_iload hC dX12_upgrade_269 rfl ?_
                    refine aw_iaload_k (j := n) hC dX12_upgrade_271 (tg_72 hT) (nI_clamp (by omega)) (vp_in_nI (by omega) (by decide)) ?_
                    rw [a_ur_self (f := a_ur (a_ur (a_ur (a_u (a_u (a_u (a_u I 44 61 0) 61 t (nI ((iN I 61 t) + 1))) 58 (3 * t) (I 58 ((3 * t) + 1))) 58 ((3 * t) + 1) (I 58 (3 * t))) 65 (fun j => if j = ((3 * k) + 1) then (S65m I t k m) (3 * k) else (fun j => if j = (3 * k) then (S65m I t k m) ((3 * k) + 1) else (S65m I t k m) j) j)) 70 (chgR (SVn I 70 t k n) (3 * n))) 73 (chgR (SVn I 73 t k n) (3 * n))) (o := 72) (g := SAn I t k n)]
                    refine aw_iconst (v := 1) hC dX12_upgrade_272 (by decide) ?_
                    refine aw_ishr hC dX12_upgrade_273 ?_
                    refine aw_iconst (v := 1) hC dX12_upgrade_274 (by decide) ?_
                    refine aw_iand hC dX12_upgrade_275 ?_
                    refine aw_ior hC dX12_upgrade_276 ?_
                    refine aw_iastore_k (j := n) hC dX12_upgrade_277 (tg_72 hT) (nI_clamp (by omega)) (vp_in_nI (by omega) (by decide)) ?_
                    rw [show a_u (a_ur (a_ur (a_ur (a_ur (a_u (a_u (a_u (a_u I 44 61 0) 61 t (nI ((iN I 61 t) + 1))) 58 (3 * t) (I 58 ((3 * t) + 1))) 58 ((3 * t) + 1) (I 58 (3 * t))) 65 (fun j => if j = ((3 * k) + 1) then (S65m I t k m) (3 * k) else (fun j => if j = (3 * k) then (S65m I t k m) ((3 * k) + 1) else (S65m I t k m) j) j)) 70 (chgR (SVn I 70 t k n) (3 * n))) 73 (chgR (SVn I 73 t k n) (3 * n))) 72 (SAn I t k n)) 72 n (((((SAn I t k n) n) &&& 4) ||| ((((SAn I t k n) n) &&& 1) <<< ((1 : Int32) &&& 31))) ||| ((((SAn I t k n) n) >>> ((1 : Int32) &&& 31)) &&& 1)) = a_ur (a_ur (a_ur (a_ur (a_u (a_u (a_u (a_u I 44 61 0) 61 t (nI ((iN I 61 t) + 1))) 58 (3 * t) (I 58 ((3 * t) + 1))) 58 ((3 * t) + 1) (I 58 (3 * t))) 65 (fun j => if j = ((3 * k) + 1) then (S65m I t k m) (3 * k) else (fun j => if j = (3 * k) then (S65m I t k m) ((3 * k) + 1) else (S65m I t k m) j) j)) 70 (chgR (SVn I 70 t k n) (3 * n))) 73 (chgR (SVn I 73 t k n) (3 * n))) 72 (fun j => if j = n then ((((SAn I t k n) n) &&& 4) ||| ((((SAn I t k n) n) &&& 1) <<< ((1 : Int32) &&& 31))) ||| ((((SAn I t k n) n) >>> ((1 : Int32) &&& 31)) &&& 1) else (SAn I t k n) j) from by rw [a_ur_put]]
                    refine aw_iinc (v := nI (n + 1)) (L2 := [some (.ref 44), some (.int (nI t)), some (.int (I 58 (3 * t))), some (.int (nI k)), some (.int ((S65m I t k m) (3 * k))), some (.int (nI (n + 1)))]) hC dX12_upgrade_278 rfl (nI_inc _) (by decide) rfl ?_
                    refine aw_goto (tgt := 202) hC dX12_upgrade_281 (by decide) ?_
                    rw [show a_ur (a_ur (a_ur (a_ur (a_u (a_u (a_u (a_u I 44 61 0) 61 t (nI ((iN I 61 t) + 1))) 58 (3 * t) (I 58 ((3 * t) + 1))) 58 ((3 * t) + 1) (I 58 (3 * t))) 65 (fun j => if j = ((3 * k) + 1) then (S65m I t k m) (3 * k) else (fun j => if j = (3 * k) then (S65m I t k m) ((3 * k) + 1) else (S65m I t k m) j) j)) 70 (chgR (SVn I 70 t k n) (3 * n))) 73 (chgR (SVn I 73 t k n) (3 * n))) 72 (fun j => if j = n then ((((SAn I t k n) n) &&& 4) ||| ((((SAn I t k n) n) &&& 1) <<< ((1 : Int32) &&& 31))) ||| ((((SAn I t k n) n) >>> ((1 : Int32) &&& 31)) &&& 1) else (SAn I t k n) j) = a_ur (a_ur (a_ur (a_ur (a_u (a_u (a_u (a_u I 44 61 0) 61 t (nI ((iN I 61 t) + 1))) 58 (3 * t) (I 58 ((3 * t) + 1))) 58 ((3 * t) + 1) (I 58 (3 * t))) 65 (fun j => if j = ((3 * k) + 1) then (S65m I t k m) (3 * k) else (fun j => if j = (3 * k) then (S65m I t k m) ((3 * k) + 1) else (S65m I t k m) j) j)) 70 (SVn I 70 t k (n + 1))) 73 (SVn I 73 t k (n + 1))) 72 (SAn I t k (n + 1)) from (a_ur_cg (a_ur_cg (a_ur_cg (a_ur_ext (fun j => rfl)) (fun j => by exact upSVn hkC2 j)) (fun j => by exact upSVn hkC2 j)) (fun j => by clear hC hq; (try simp only [S65, S65m, SV, SVn, SA, SAn, SR]); grind))]
                    exact ihC (by omega) (by omega)
                exact loopC (16 * k) (by omega) (Nat.le_refl _)
            · show AW X 0 0 113 [some (.ref 44), some (.int (nI t)), some (.int (I 58 (3 * t))), some (.int (nI k)), some (.int (nI m)), none] [] T (a_ur (a_ur (a_ur (a_ur (a_u (a_u (a_u (a_u I 44 61 0) 61 t (nI ((iN I 61 t) + 1))) 58 (3 * t) (I 58 ((3 * t) + 1))) 58 ((3 * t) + 1) (I 58 (3 * t))) 65 (S65m I t k m)) 70 (SV I 70 t k)) 73 (SV I 73 t k)) 72 (SA I t k)) J R
              have h11n : ¬ 3 ≤ m := fun q9 => h11 ((nI_leI (a := 3) (b := m) (by omega) (by omega)).mpr q9)
              refine aw_aload_n hC dX12_upgrade_113 rfl ?_
              refine aw_getR hC dX12_upgrade_114 aF_X12_71 rfl (tg_44 hT) (pr_44_24 hR) ?_
              refine aw_iconst (v := 3) hC dX12_upgrade_117 (by decide) ?_
              refine aw_iload_n hC dX12_upgrade_118 rfl ?_
              refine aw_imul hC dX12_upgrade_119 ?_
              rw [show 3 * (nI k) = nI (3 * k) from pk_mul 3 k]
              refine aw_iload hC dX12_upgrade_120 rfl ?_
              refine aw_iadd hC dX12_upgrade_122 ?_
              rw [show (nI (3 * k)) + (nI m) = nI ((3 * k) + m) from nI_add (3 * k) m]
              refine aw_aload_n hC dX12_upgrade_123 rfl ?_
              refine aw_aload_n hC dX12_upgrade_124 rfl ?_
              refine aw_getR hC dX12_upgrade_125 aF_X12_71 rfl (tg_44 hT) (pr_44_24 hR) ?_
              refine aw_iconst (v := 3) hC dX12_upgrade_128 (by decide) ?_
              refine aw_iload_n hC dX12_upgrade_129 rfl ?_
              refine aw_imul hC dX12_upgrade_130 ?_
              rw [show 3 * (nI k) = nI (3 * k) from pk_mul 3 k]
              refine aw_iload hC dX12_upgrade_131 rfl ?_
              refine aw_iadd hC dX12_upgrade_133 ?_
              rw [show (nI (3 * k)) + (nI m) = nI ((3 * k) + m) from nI_add (3 * k) m]
              refine aw_iaload_k (j := ((3 * k) + m)) hC dX12_upgrade_134 (tg_65 hT) (nI_clamp (by omega)) (vp_in_nI (by omega) (by decide)) ?_
              rw [a_ur_ne (f := a_ur (a_ur (a_ur (a_u (a_u (a_u (a_u I 44 61 0) 61 t (nI ((iN I 61 t) + 1))) 58 (3 * t) (I 58 ((3 * t) + 1))) 58 ((3 * t) + 1) (I 58 (3 * t))) 65 (S65m I t k m)) 70 (SV I 70 t k)) 73 (SV I 73 t k)) (o := 72) (a := 65) (g := SA I t k) (by decide)]
              rw [a_ur_ne (f := a_ur (a_ur (a_u (a_u (a_u (a_u I 44 61 0) 61 t (nI ((iN I 61 t) + 1))) 58 (3 * t) (I 58 ((3 * t) + 1))) 58 ((3 * t) + 1) (I 58 (3 * t))) 65 (S65m I t k m)) 70 (SV I 70 t k)) (o := 73) (a := 65) (g := SV I 73 t k) (by decide)]
              rw [a_ur_ne (f := a_ur (a_u (a_u (a_u (a_u I 44 61 0) 61 t (nI ((iN I 61 t) + 1))) 58 (3 * t) (I 58 ((3 * t) + 1))) 58 ((3 * t) + 1) (I 58 (3 * t))) 65 (S65m I t k m)) (o := 70) (a := 65) (g := SV I 70 t k) (by decide)]
              rw [a_ur_self (f := a_u (a_u (a_u (a_u I 44 61 0) 61 t (nI ((iN I 61 t) + 1))) 58 (3 * t) (I 58 ((3 * t) + 1))) 58 ((3 * t) + 1) (I 58 (3 * t))) (o := 65) (g := S65m I t k m)]
              refine aw_iload_n hC dX12_upgrade_135 rfl ?_
              rw [show (S65m I t k m) ((3 * k) + m) = I 65 (3 * k + m) from by (try simp only [S65, S65m, SV, SVn, SA, SAn, SR]); rw [if_neg (by omega), if_neg (by omega)]]
              refine kX12_336 hC rfl (m_X12_turned hT hR (I 65 (3 * k + m)) (nI t) (hs _ (by omega))) dX12_upgrade_136 (tg_44 hT) rfl a_le a_le a_le a_le a_le rfl aPure_x (aPure_k ?_)
              show AW X 0 0 139 [some (.ref 44), some (.int (nI t)), some (.int (I 58 (3 * t))), some (.int (nI k)), some (.int (nI m)), none] [.int (sTurn (a_ur (a_ur (a_ur (a_ur (a_u (a_u (a_u (a_u I 44 61 0) 61 t (nI ((iN I 61 t) + 1))) 58 (3 * t) (I 58 ((3 * t) + 1))) 58 ((3 * t) + 1) (I 58 (3 * t))) 65 (S65m I t k m)) 70 (SV I 70 t k)) 73 (SV I 73 t k)) 72 (SA I t k)) (nI t) (I 65 (3 * k + m))), .int (nI ((3 * k) + m)), .ref 65] T (a_ur (a_ur (a_ur (a_ur (a_u (a_u (a_u (a_u I 44 61 0) 61 t (nI ((iN I 61 t) + 1))) 58 (3 * t) (I 58 ((3 * t) + 1))) 58 ((3 * t) + 1) (I 58 (3 * t))) 65 (S65m I t k m)) 70 (SV I 70 t k)) 73 (SV I 73 t k)) 72 (SA I t k)) J R
              rw [sTurn_cg (I := a_ur (a_ur (a_ur (a_ur (a_u (a_u (a_u (a_u I 44 61 0) 61 t (nI ((iN I 61 t) + 1))) 58 (3 * t) (I 58 ((3 * t) + 1))) 58 ((3 * t) + 1) (I 58 (3 * t))) 65 (S65m I t k m)) 70 (SV I 70 t k)) 73 (SV I 73 t k)) 72 (SA I t k)) (I2 := I) (by funext b9; simp [a_u, a_ur])]
              refine aw_iastore_k (j := ((3 * k) + m)) hC dX12_upgrade_139 (tg_65 hT) (nI_clamp (by omega)) (vp_in_nI (by omega) (by decide)) ?_
              rw [show a_u (a_ur (a_ur (a_ur (a_ur (a_u (a_u (a_u (a_u I 44 61 0) 61 t (nI ((iN I 61 t) + 1))) 58 (3 * t) (I 58 ((3 * t) + 1))) 58 ((3 * t) + 1) (I 58 (3 * t))) 65 (S65m I t k m)) 70 (SV I 70 t k)) 73 (SV I 73 t k)) 72 (SA I t k)) 65 ((3 * k) + m) (sTurn I (nI t) (I 65 (3 * k + m))) = a_ur (a_ur (a_ur (a_ur (a_u (a_u (a_u (a_u I 44 61 0) 61 t (nI ((iN I 61 t) + 1))) 58 (3 * t) (I 58 ((3 * t) + 1))) 58 ((3 * t) + 1) (I 58 (3 * t))) 65 (fun j => if j = ((3 * k) + m) then sTurn I (nI t) (I 65 (3 * k + m)) else (S65m I t k m) j)) 70 (SV I 70 t k)) 73 (SV I 73 t k)) 72 (SA I t k) from by rw [a_u_swap (by first | decide | omega), a_u_swap (by first | decide | omega), a_u_swap (by first | decide | omega), a_ur_put]]
              refine aw_iinc (v := nI (m + 1)) (L2 := [some (.ref 44), some (.int (nI t)), some (.int (I 58 (3 * t))), some (.int (nI k)), some (.int (nI (m + 1))), none]) hC dX12_upgrade_140 rfl (nI_inc _) (by decide) rfl ?_
              refine aw_goto (tgt := 107) hC dX12_upgrade_143 (by decide) ?_
              rw [show a_ur (a_ur (a_ur (a_ur (a_u (a_u (a_u (a_u I 44 61 0) 61 t (nI ((iN I 61 t) + 1))) 58 (3 * t) (I 58 ((3 * t) + 1))) 58 ((3 * t) + 1) (I 58 (3 * t))) 65 (fun j => if j = ((3 * k) + m) then sTurn I (nI t) (I 65 (3 * k + m)) else (S65m I t k m) j)) 70 (SV I 70 t k)) 73 (SV I 73 t k)) 72 (SA I t k) = a_ur (a_ur (a_ur (a_ur (a_u (a_u (a_u (a_u I 44 61 0) 61 t (nI ((iN I 61 t) + 1))) 58 (3 * t) (I 58 ((3 * t) + 1))) 58 ((3 * t) + 1) (I 58 (3 * t))) 65 (S65m I t k (m + 1))) 70 (SV I 70 t k)) 73 (SV I 73 t k)) 72 (SA I t k) from (a_ur_cg (a_ur_cg (a_ur_cg (a_ur_ext (fun j => by clear hC hq; (try simp only [S65, S65m, SV, SVn, SA, SAn, SR]); grind)) (fun j => rfl)) (fun j => rfl)) (fun j => rfl))]
              exact ihB (by omega)
          exact loopB 0 (Nat.zero_le _)
      exact loopA 0 (Nat.zero_le _)
    · show AW X 0 0 29 [some (.ref 44), some (.int (nI t)), none, none, none, none] [.ref 44] T I J R
      exfalso; first | omega | exact absurd hun (Int32.not_lt.mpr (by assumption)) | exact absurd hun (by assumption)
