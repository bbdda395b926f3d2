theorem i0_and (x : Int32) : 0 &&& x = 0 := Int32.zero_and
theorem i1_and (b : Bool) : 1 &&& bI b = bI b := by cases b <;> rfl
def iN (I : aI) (a j : Nat) : Nat := (I a j).toNatClampNeg
/-- a row of naturals below b -/
def NR (I : aI) (a n b : Nat) : Prop := ∀ j, j < n → I a j = nI (iN I a j) ∧ iN I a j < b
theorem NR.of {I : aI} {a n b : Nat} (hb : b < 2147483648) (h : ∀ j, j < n → ∃ m, m < b ∧ I a j = nI m) : NR I a n b := fun j hj => by
  obtain ⟨m, h1, h2⟩ := h j hj
  have h3 : iN I a j = m := by rw [iN, h2, nI_clamp (by omega)]
  exact ⟨by rw [h3, h2], by omega⟩
theorem NR.le {I : aI} {a n m b : Nat} (h : NR I a n b) (hm : m ≤ n) : NR I a m b := fun j hj => h j (by omega)
theorem NR.ne {I : aI} {a n b o k : Nat} {x : Int32} (h : NR I a n b) (ho : o ≠ a) : NR (a_u I o k x) a n b := fun j hj => by
  have e : a_u I o k x a j = I a j := a_u_ne (fun q => ho q.1.symm)
  unfold iN; rw [e]; exact h j hj
theorem NR.put {I : aI} {a n b k m : Nat} (h : NR I a n b) (hm : m < b) (hb : b < 2147483648) : NR (a_u I a k (nI m)) a n b := NR.of hb fun j hj => by
  by_cases e : j = k
  · subst e; exact ⟨m, hm, by rw [a_u_self]⟩
  · exact ⟨iN I a j, (h j hj).2, by rw [a_u_ne (fun q => e q.2)]; exact (h j hj).1⟩
set_option maxRecDepth 100000 in
theorem m_X12_hasKey {T : List aT} {I : aI} {J : aJ} {R : aR} (hT : aPT T) (hR : aPR R) {g : Nat} (hg : g < 4) (hk : NR I 63 4 9) (x : Int32) : MX12_hasKey 0 0 [.ref 44, .int (nI g), .int x] T I J R (aPure (some (.int (bI (anyB (fun j => decide (I 64 (8 * g + j) = x)) (iN I 63 g))))) T I J R) := by
  refine a_met (by decide +kernel) a_le (fun X hC hq => ?_)
  show AW X 0 0 0 [some (.ref 44), some (.int (nI g)), some (.int x), none, none] [] T I J R
  refine aw_iconst (v := 0) hC dX12_hasKey_0 (by decide) ?_
  refine aw_istore_n (L2 := [some (.ref 44), some (.int (nI g)), some (.int x), some (.int 0), none]) hC dX12_hasKey_1 rfl (by decide) rfl ?_
  refine aw_iconst (v := 0) hC dX12_hasKey_2 (by decide) ?_
  refine aw_istore (L2 := [some (.ref 44), some (.int (nI g)), some (.int x), some (.int 0), some (.int 0)]) hC dX12_hasKey_3 (by decide) rfl ?_
  have loop : ∀ k, k ≤ (iN I 63 g) → ∀ acc : Bool, acc = anyB (fun j => decide (I 64 (8 * g + j) = x)) k → AW X 0 0 5 [some (.ref 44), some (.int (nI g)), some (.int x), some (.int (bI acc)), some (.int (nI k))] [] T I J R := by
    refine a_down (iN I 63 g) (fun k hkloop ihloop => ?_)
    intro acc hacc
    refine aw_iload hC dX12_hasKey_5 rfl ?_
    refine aw_aload_n hC dX12_hasKey_7 rfl ?_
    refine aw_getR hC dX12_hasKey_8 aF_X12_65 rfl (tg_44 hT) (pr_44_22 hR) ?_
    refine aw_iload_n hC dX12_hasKey_11 rfl ?_
    refine aw_iaload_k (j := g) hC dX12_hasKey_12 (tg_63 hT) (nI_clamp (by omega)) (vp_in_nI (by omega) (by decide)) ?_
    have hb1 := hk g (by omega)
    rw [hb1.1]
    refine aw_icmp_ge (tgt := 46) hC dX12_hasKey_13 (by decide) (fun h2 => ?_) (fun h2 => ?_)
    · show AW X 0 0 46 [some (.ref 44), some (.int (nI g)), some (.int x), some (.int (bI acc)), some (.int (nI k))] [] T I J R
      have h2n : (iN I 63 g) ≤ k := (nI_leI (a := (iN I 63 g)) (b := k) (by omega) (by omega)).mp h2
      refine aw_iload_n hC dX12_hasKey_46 rfl ?_
      exact aw_zreturn hC hq rfl (bI_01 _) dX12_hasKey_47 a_le a_le (aPure_i (by subst hacc; rw [show k = _ from Nat.le_antisymm (by assumption) (by assumption)]))
    · show AW X 0 0 16 [some (.ref 44), some (.int (nI g)), some (.int x), some (.int (bI acc)), some (.int (nI k))] [] T I J R
      have h2n : ¬ (iN I 63 g) ≤ k := fun q9 => h2 ((nI_leI (a := (iN I 63 g)) (b := k) (by omega) (by omega)).mpr q9)
      refine aw_iload_n hC dX12_hasKey_16 rfl ?_
      refine aw_aload_n hC dX12_hasKey_17 rfl ?_
      refine aw_getR hC dX12_hasKey_18 aF_X12_68 rfl (tg_44 hT) (pr_44_23 hR) ?_
      refine aw_bipush (v := 8) hC dX12_hasKey_21 (by decide) ?_
      refine aw_iload_n hC dX12_hasKey_23 rfl ?_
      refine aw_imul hC dX12_hasKey_24 ?_
      rw [show 8 * (nI g) = nI (8 * g) from pk_mul 8 g]
      refine aw_iload hC dX12_hasKey_25 rfl ?_
      refine aw_iadd hC dX12_hasKey_27 ?_
      rw [show (nI (8 * g)) + (nI k) = nI ((8 * g) + k) from nI_add (8 * g) k]
      refine aw_iaload_k (j := ((8 * g) + k)) hC dX12_hasKey_28 (tg_64 hT) (nI_clamp (by omega)) (vp_in_nI (by omega) (by decide)) ?_
      refine aw_iload_n hC dX12_hasKey_29 rfl ?_
      refine aw_icmp_ne (tgt := 37) hC dX12_hasKey_30 (by decide) (fun h3 => ?_) (fun h3 => ?_)
      · show AW X 0 0 37 [some (.ref 44), some (.int (nI g)), some (.int x), some (.int (bI acc)), some (.int (nI k))] [.int (bI acc)] T I J R
        refine aw_iconst (v := 0) hC dX12_hasKey_37 (by decide) ?_
        refine aw_ior hC dX12_hasKey_38 ?_
        rw [bI_or0]
        refine aw_istore_n (L2 := [some (.ref 44), some (.int (nI g)), some (.int x), some (.int (bI acc)), some (.int (nI k))]) hC dX12_hasKey_39 rfl (by decide) rfl ?_
        refine aw_iinc (v := nI (k + 1)) (L2 := [some (.ref 44), some (.int (nI g)), some (.int x), some (.int (bI acc)), some (.int (nI (k + 1)))]) hC dX12_hasKey_40 rfl (nI_inc _) (by decide) rfl ?_
        refine aw_goto (tgt := 5) hC dX12_hasKey_43 (by decide) ?_
        exact ihloop (by omega) acc (by simp only [anyB, ← hacc]; clear hC hq; (try simp only [bI_e0, bI_n0, decide_eq_false_iff_not, decide_eq_true_eq, Classical.not_not] at *); first | (simp_all; done) | grind)
      · show AW X 0 0 33 [some (.ref 44), some (.int (nI g)), some (.int x), some (.int (bI acc)), some (.int (nI k))] [.int (bI acc)] T I J R
        refine aw_iconst (v := 1) hC dX12_hasKey_33 (by decide) ?_
        refine aw_goto (tgt := 38) hC dX12_hasKey_34 (by decide) ?_
        refine aw_ior hC dX12_hasKey_38 ?_
        rw [bI_or1]
        refine aw_istore_n (L2 := [some (.ref 44), some (.int (nI g)), some (.int x), some (.int (bI true)), some (.int (nI k))]) hC dX12_hasKey_39 rfl (by decide) rfl ?_
        refine aw_iinc (v := nI (k + 1)) (L2 := [some (.ref 44), some (.int (nI g)), some (.int x), some (.int (bI true)), some (.int (nI (k + 1)))]) hC dX12_hasKey_40 rfl (nI_inc _) (by decide) rfl ?_
        refine aw_goto (tgt := 5) hC dX12_hasKey_43 (by decide) ?_
        exact ihloop (by omega) true (by simp only [anyB, ← hacc]; clear hC hq; (try simp only [bI_e0, bI_n0, decide_eq_false_iff_not, decide_eq_true_eq, Classical.not_not] at *); first | (simp_all; done) | grind)
  exact loop 0 (Nat.zero_le _) false rfl
theorem nI_decs {k : Nat} (h : 1 ≤ k) : nI k + Int32.ofInt (-1) = nI (k - 1) := by
  obtain ⟨j, rfl⟩ : ∃ j, k = j + 1 := ⟨k - 1, by omega⟩
  exact nI_dec j
theorem bI_one {p : Prop} [Decidable p] (h : p) : bI (decide p) = 1 := (bI_yes h).symm
theorem bI_zero {p : Prop} [Decidable p] (h : ¬ p) : bI (decide p) = 0 := (bI_no h).symm
theorem nI_btw {a n : Nat} (h : a < n) (hn : n < 2147483648) : 0 ≤ nI a ∧ nI a < nI n := ⟨nI_pos' (by omega), nI_lt h hn⟩
theorem nI_ex {x : Int32} {n : Nat} (h : 0 ≤ x ∧ x < nI n) (hn : n < 2147483648) : ∃ a, a < n ∧ x = nI a := by
  obtain ⟨j, h1, rfl⟩ := nI_of (Int32.not_lt.mpr h.1)
  exact ⟨j, (nI_ltI h1 hn).mp h.2, rfl⟩
theorem a_ur_put {α : Type} {f : Nat → Nat → α} {o k : Nat} {g : Nat → α} {v : α} : a_u (a_ur f o g) o k v = a_ur f o (fun j => if j = k then v else g j) := by
  funext a b; simp only [a_u, a_ur]; by_cases h1 : a = o <;> by_cases h2 : b = k <;> simp [h1, h2]
theorem a_ur_ext {α : Type} {f : Nat → Nat → α} {o : Nat} {g h : Nat → α} (e : ∀ j, g j = h j) : a_ur f o g = a_ur f o h := by rw [show g = h from funext e]
theorem a_ur_id {α : Type} {f : Nat → Nat → α} {o : Nat} {g : Nat → α} (e : ∀ j, g j = f o j) : a_ur f o g = f := by
  funext a b; simp only [a_ur]; split
  · next h => subst h; exact e b
  · rfl
theorem upN {P : Nat → Prop} (step : ∀ k, (∀ j, j < k → P j) → P k) : ∀ k, P k := fun k => Nat.strongRecOn k step
abbrev mPlaces (its f a : Int32) : Prop := (if its = 12 then 0 ≤ f ∧ f ≤ 2 else 0 ≤ f ∧ f ≤ 9) ∧ (¬ (its = 5 ∨ its = 6) ∨ (0 ≤ a ∧ a ≤ 9))
abbrev mCode (its f a b : Int32) (n : Nat) : Int32 := if ¬ mPlaces its f a then 1 else if ¬ mRange its a b then 2 else if n = 30 then 3 else 0
abbrev mPut (I : aI) (n : Nat) (fl pk its f a b : Int32) : aI := a_u (a_u (a_u (a_u (a_u (a_u (a_u (a_u I 44 61 0) 45 n its) 46 n f) 47 n a) 48 n b) 49 n fl) 50 n pk) 44 0 (nI (n + 1))
set_option maxRecDepth 100000 in
theorem m_X12_tells {T : List aT} {I : aI} {J : aJ} {R : aR} (hT : aPT T) (hR : aPR R) (fl pk its f a b : Int32) {n : Nat} (hn : I 44 0 = nI n) (hn30 : n ≤ 30) : MX12_tells 0 0 [.ref 44, .int fl, .int pk, .int its, .int f, .int a, .int b] T I J R (aPure (some (.int (if mCode its f a b n = 0 then nI n else 0))) T (if mCode its f a b n = 0 then mPut I n fl pk its f a b else a_u I 44 61 (mCode its f a b n)) J R) := by
  refine a_met (by decide +kernel) a_le (fun X hC hq => ?_)
  show AW X 0 0 0 [some (.ref 44), some (.int fl), some (.int pk), some (.int its), some (.int f), some (.int a), some (.int b), none] [] T I J R
  refine aw_iload_n hC dX12_tells_0 rfl ?_
  refine aw_bipush (v := 12) hC dX12_tells_1 (by decide) ?_
  refine aw_icmp_ne (tgt := 19) hC dX12_tells_3 (by decide) (fun h1 => ?_) (fun h1 => ?_)
  · show AW X 0 0 19 [some (.ref 44), some (.int fl), some (.int pk), some (.int its), some (.int f), some (.int a), some (.int b), none] [] T I J R
    refine aw_iload hC dX12_tells_19 rfl ?_
    refine kX12_173 hC rfl (m_X12_isField f) dX12_tells_21 rfl a_le a_le a_le a_le a_le rfl aPure_x (aPure_k ?_)
    show AW X 0 0 24 [some (.ref 44), some (.int fl), some (.int pk), some (.int its), some (.int f), some (.int a), some (.int b), none] [.int (bI (decide (0 ≤ f ∧ f ≤ 9)))] T I J R
    refine aw_if_eq (tgt := 46) hC dX12_tells_24 (by decide) (fun h2 => ?_) (fun h2 => ?_)
    · show AW X 0 0 46 [some (.ref 44), some (.int fl), some (.int pk), some (.int its), some (.int f), some (.int a), some (.int b), none] [] T I J R
      refine aw_iconst (v := 0) hC dX12_tells_46 (by decide) ?_
      refine aw_istore (L2 := [some (.ref 44), some (.int fl), some (.int pk), some (.int its), some (.int f), some (.int a), some (.int b), some (.int 0)]) hC dX12_tells_47 (by decide) rfl ?_
      refine aw_aload_n hC dX12_tells_49 rfl ?_
      refine aw_iload hC dX12_tells_50 rfl ?_
      refine aw_if_ne (tgt := 59) hC dX12_tells_52 (by decide) (fun h3 => absurd h3 (by decide)) (fun _ => ?_)
      show AW X 0 0 55 [some (.ref 44), some (.int fl), some (.int pk), some (.int its), some (.int f), some (.int a), some (.int b), some (.int 0)] [.ref 44] T I J R
      refine aw_iconst (v := 1) hC dX12_tells_55 (by decide) ?_
      refine aw_goto (tgt := 88) hC dX12_tells_56 (by decide) ?_
      refine aw_putI hC dX12_tells_88 aF_X12_166 rfl rfl (tg_44 hT) ?_
      refine aw_aload_n hC dX12_tells_91 rfl ?_
      refine aw_getI hC dX12_tells_92 aF_X12_166 rfl (tg_44 hT) ?_
      rw [a_u_self (f := I) (o := 44) (k := 61) (v := 1)]
      refine aw_if_le (tgt := 100) hC dX12_tells_95 (by decide) (fun h4 => absurd h4 (by decide)) (fun _ => ?_)
      show AW X 0 0 98 [some (.ref 44), some (.int fl), some (.int pk), some (.int its), some (.int f), some (.int a), some (.int b), some (.int 0)] [] T (a_u I 44 61 1) J R
      refine aw_iconst (v := 0) hC dX12_tells_98 (by decide) ?_
      exact aw_ireturn hC hq rfl dX12_tells_99 a_le a_le (aPure_e (by clear hC hq; (try simp only [bI_e0, bI_n0, decide_eq_false_iff_not, decide_eq_true_eq, Classical.not_not] at *) <;> first | grind (splits := 30) [nI_p1, a_u_2] | (exfalso; (simp only [i_le, i_lt, i_eq, Int32.reduceToInt] at *); omega)) (by clear hC hq; (try simp only [bI_e0, bI_n0, decide_eq_false_iff_not, decide_eq_true_eq, Classical.not_not] at *) <;> first | grind (splits := 30) [nI_p1, a_u_2] | (exfalso; (simp only [i_le, i_lt, i_eq, Int32.reduceToInt] at *); omega)) rfl rfl)
    · show AW X 0 0 27 [some (.ref 44), some (.int fl), some (.int pk), some (.int its), some (.int f), some (.int a), some (.int b), none] [] T I J R
      refine aw_iload_n hC dX12_tells_27 rfl ?_
      refine kX12_177 hC rfl (m_X12_isPair its) dX12_tells_28 rfl a_le a_le a_le a_le a_le rfl aPure_x (aPure_k ?_)
      show AW X 0 0 31 [some (.ref 44), some (.int fl), some (.int pk), some (.int its), some (.int f), some (.int a), some (.int b), none] [.int (bI (decide (its = 5 ∨ its = 6)))] T I J R
      refine aw_if_eq (tgt := 42) hC dX12_tells_31 (by decide) (fun h5 => ?_) (fun h5 => ?_)
      · show AW X 0 0 42 [some (.ref 44), some (.int fl), some (.int pk), some (.int its), some (.int f), some (.int a), some (.int b), none] [] T I J R
        refine aw_iconst (v := 1) hC dX12_tells_42 (by decide) ?_
        refine aw_goto (tgt := 47) hC dX12_tells_43 (by decide) ?_
        refine aw_istore (L2 := [some (.ref 44), some (.int fl), some (.int pk), some (.int its), some (.int f), some (.int a), some (.int b), some (.int 1)]) hC dX12_tells_47 (by decide) rfl ?_
        refine aw_aload_n hC dX12_tells_49 rfl ?_
        refine aw_iload hC dX12_tells_50 rfl ?_
        refine aw_if_ne (tgt := 59) hC dX12_tells_52 (by decide) (fun _ => ?_) (fun h6 => absurd h6 (by decide))
        show AW X 0 0 59 [some (.ref 44), some (.int fl), some (.int pk), some (.int its), some (.int f), some (.int a), some (.int b), some (.int 1)] [.ref 44] T I J R
        refine aw_iload_n hC dX12_tells_59 rfl ?_
        refine aw_iload hC dX12_tells_60 rfl ?_
        refine aw_iload hC dX12_tells_62 rfl ?_
        refine kX12_180 hC rfl (m_X12_isRange its a b) dX12_tells_64 rfl a_le a_le a_le a_le a_le rfl aPure_x (aPure_k ?_)
        show AW X 0 0 67 [some (.ref 44), some (.int fl), some (.int pk), some (.int its), some (.int f), some (.int a), some (.int b), some (.int 1)] [.int (bI (decide (mRange its a b))), .ref 44] T I J R
        refine aw_if_ne (tgt := 74) hC dX12_tells_67 (by decide) (fun h7 => ?_) (fun h7 => ?_)
        · show AW X 0 0 74 [some (.ref 44), some (.int fl), some (.int pk), some (.int its), some (.int f), some (.int a), some (.int b), some (.int 1)] [.ref 44] T I J R
          refine aw_aload_n hC dX12_tells_74 rfl ?_
          refine aw_getI hC dX12_tells_75 aF_X12_183 rfl (tg_44 hT) ?_
          rw [hn]
          refine aw_bipush (v := 30) hC dX12_tells_78 (by decide) ?_
          refine aw_icmp_ne (tgt := 87) hC dX12_tells_80 (by decide) (fun h8 => ?_) (fun h8 => ?_)
          · show AW X 0 0 87 [some (.ref 44), some (.int fl), some (.int pk), some (.int its), some (.int f), some (.int a), some (.int b), some (.int 1)] [.ref 44] T I J R
            have h8n : ¬ n = 30 := fun q9 => h8 ((nI_eq (a := n) (b := 30) (by omega) (by omega)).mpr q9)
            refine aw_iconst (v := 0) hC dX12_tells_87 (by decide) ?_
            refine aw_putI hC dX12_tells_88 aF_X12_166 rfl rfl (tg_44 hT) ?_
            refine aw_aload_n hC dX12_tells_91 rfl ?_
            refine aw_getI hC dX12_tells_92 aF_X12_166 rfl (tg_44 hT) ?_
            rw [a_u_self (f := I) (o := 44) (k := 61) (v := 0)]
            refine aw_if_le (tgt := 100) hC dX12_tells_95 (by decide) (fun _ => ?_) (fun h9 => absurd h9 (by decide))
            show AW X 0 0 100 [some (.ref 44), some (.int fl), some (.int pk), some (.int its), some (.int f), some (.int a), some (.int b), some (.int 1)] [] T (a_u I 44 61 0) J R
            refine aw_aload_n hC dX12_tells_100 rfl ?_
            refine aw_getR hC dX12_tells_101 aF_X12_7 rfl (tg_44 hT) (pr_44_1 hR) ?_
            refine aw_aload_n hC dX12_tells_104 rfl ?_
            refine aw_getI hC dX12_tells_105 aF_X12_183 rfl (tg_44 hT) ?_
            rw [a_u_ne (f := I) (o := 44) (k := 61) (a := 44) (b := 0) (v := 0) (fun q => absurd q.2 (by decide))]
            rw [hn]
            refine aw_iload_n hC dX12_tells_108 rfl ?_
            refine aw_iastore_k (j := n) hC dX12_tells_109 (tg_45 hT) (nI_clamp (by omega)) (vp_in_nI (by omega) (by decide)) ?_
            refine aw_aload_n hC dX12_tells_110 rfl ?_
            refine aw_getR hC dX12_tells_111 aF_X12_13 rfl (tg_44 hT) (pr_44_2 hR) ?_
            refine aw_aload_n hC dX12_tells_114 rfl ?_
            refine aw_getI hC dX12_tells_115 aF_X12_183 rfl (tg_44 hT) ?_
            rw [a_u_ne (f := a_u I 44 61 0) (o := 45) (k := n) (a := 44) (b := 0) (v := its) (fun q => absurd q.1 (by decide))]
            rw [a_u_ne (f := I) (o := 44) (k := 61) (a := 44) (b := 0) (v := 0) (fun q => absurd q.2 (by decide))]
            rw [hn]
            refine aw_iload hC dX12_tells_118 rfl ?_
            refine aw_iastore_k (j := n) hC dX12_tells_120 (tg_46 hT) (nI_clamp (by omega)) (vp_in_nI (by omega) (by decide)) ?_
            refine aw_aload_n hC dX12_tells_121 rfl ?_
            refine aw_getR hC dX12_tells_122 aF_X12_16 rfl (tg_44 hT) (pr_44_3 hR) ?_
            refine aw_aload_n hC dX12_tells_125 rfl ?_
            refine aw_getI hC dX12_tells_126 aF_X12_183 rfl (tg_44 hT) ?_
            rw [a_u_ne (f := a_u (a_u I 44 61 0) 45 n its) (o := 46) (k := n) (a := 44) (b := 0) (v := f) (fun q => absurd q.1 (by decide))]
            rw [a_u_ne (f := a_u I 44 61 0) (o := 45) (k := n) (a := 44) (b := 0) (v := its) (fun q => absurd q.1 (by decide))]
            rw [a_u_ne (f := I) (o := 44) (k := 61) (a := 44) (b := 0) (v := 0) (fun q => absurd q.2 (by decide))]
            rw [hn]
            refine aw_iload hC dX12_tells_129 rfl ?_
            refine aw_iastore_k (j := n) hC dX12_tells_131 (tg_47 hT) (nI_clamp (by omega)) (vp_in_nI (by omega) (by decide)) ?_
            refine aw_aload_n hC dX12_tells_132 rfl ?_
            refine aw_getR hC dX12_tells_133 aF_X12_19 rfl (tg_44 hT) (pr_44_4 hR) ?_
            refine aw_aload_n hC dX12_tells_136 rfl ?_
            refine aw_getI hC dX12_tells_137 aF_X12_183 rfl (tg_44 hT) ?_
            rw [a_u_ne (f := a_u (a_u (a_u I 44 61 0) 45 n its) 46 n f) (o := 47) (k := n) (a := 44) (b := 0) (v := a) (fun q => absurd q.1 (by decide))]
            rw [a_u_ne (f := a_u (a_u I 44 61 0) 45 n its) (o := 46) (k := n) (a := 44) (b := 0) (v := f) (fun q => absurd q.1 (by decide))]
            rw [a_u_ne (f := a_u I 44 61 0) (o := 45) (k := n) (a := 44) (b := 0) (v := its) (fun q => absurd q.1 (by decide))]
            rw [a_u_ne (f := I) (o := 44) (k := 61) (a := 44) (b := 0) (v := 0) (fun q => absurd q.2 (by decide))]
            rw [hn]
            refine aw_iload hC dX12_tells_140 rfl ?_
            refine aw_iastore_k (j := n) hC dX12_tells_142 (tg_48 hT) (nI_clamp (by omega)) (vp_in_nI (by omega) (by decide)) ?_
            refine aw_aload_n hC dX12_tells_143 rfl ?_
            refine aw_getR hC dX12_tells_144 aF_X12_22 rfl (tg_44 hT) (pr_44_5 hR) ?_
            refine aw_aload_n hC dX12_tells_147 rfl ?_
            refine aw_getI hC dX12_tells_148 aF_X12_183 rfl (tg_44 hT) ?_
            rw [a_u_ne (f := a_u (a_u (a_u (a_u I 44 61 0) 45 n its) 46 n f) 47 n a) (o := 48) (k := n) (a := 44) (b := 0) (v := b) (fun q => absurd q.1 (by decide))]
            rw [a_u_ne (f := a_u (a_u (a_u I 44 61 0) 45 n its) 46 n f) (o := 47) (k := n) (a := 44) (b := 0) (v := a) (fun q => absurd q.1 (by decide))]
            rw [a_u_ne (f := a_u (a_u I 44 61 0) 45 n its) (o := 46) (k := n) (a := 44) (b := 0) (v := f) (fun q => absurd q.1 (by decide))]
            rw [a_u_ne (f := a_u I 44 61 0) (o := 45) (k := n) (a := 44) (b := 0) (v := its) (fun q => absurd q.1 (by decide))]
            rw [a_u_ne (f := I) (o := 44) (k := 61) (a := 44) (b := 0) (v := 0) (fun q => absurd q.2 (by decide))]
            rw [hn]
            refine aw_iload_n hC dX12_tells_151 rfl ?_
            refine aw_iastore_k (j := n) hC dX12_tells_152 (tg_49 hT) (nI_clamp (by omega)) (vp_in_nI (by omega) (by decide)) ?_
            refine aw_aload_n hC dX12_tells_153 rfl ?_
            refine aw_getR hC dX12_tells_154 aF_X12_25 rfl (tg_44 hT) (pr_44_6 hR) ?_
            refine aw_aload_n hC dX12_tells_157 rfl ?_
            refine aw_getI hC dX12_tells_158 aF_X12_183 rfl (tg_44 hT) ?_
            rw [a_u_ne (f := a_u (a_u (a_u (a_u (a_u I 44 61 0) 45 n its) 46 n f) 47 n a) 48 n b) (o := 49) (k := n) (a := 44) (b := 0) (v := fl) (fun q => absurd q.1 (by decide))]
            rw [a_u_ne (f := a_u (a_u (a_u (a_u I 44 61 0) 45 n its) 46 n f) 47 n a) (o := 48) (k := n) (a := 44) (b := 0) (v := b) (fun q => absurd q.1 (by decide))]
            rw [a_u_ne (f := a_u (a_u (a_u I 44 61 0) 45 n its) 46 n f) (o := 47) (k := n) (a := 44) (b := 0) (v := a) (fun q => absurd q.1 (by decide))]
            rw [a_u_ne (f := a_u (a_u I 44 61 0) 45 n its) (o := 46) (k := n) (a := 44) (b := 0) (v := f) (fun q => absurd q.1 (by decide))]
            rw [a_u_ne (f := a_u I 44 61 0) (o := 45) (k := n) (a := 44) (b := 0) (v := its) (fun q => absurd q.1 (by decide))]
            rw [a_u_ne (f := I) (o := 44) (k := 61) (a := 44) (b := 0) (v := 0) (fun q => absurd q.2 (by decide))]
            rw [hn]
            refine aw_iload_n hC dX12_tells_161 rfl ?_
            refine aw_iastore_k (j := n) hC dX12_tells_162 (tg_50 hT) (nI_clamp (by omega)) (vp_in_nI (by omega) (by decide)) ?_
            refine aw_aload_n hC dX12_tells_163 rfl ?_
            refine aw_dup hC dX12_tells_164 rfl ?_
            refine aw_getI hC dX12_tells_165 aF_X12_183 rfl (tg_44 hT) ?_
            rw [a_u_ne (f := a_u (a_u (a_u (a_u (a_u (a_u I 44 61 0) 45 n its) 46 n f) 47 n a) 48 n b) 49 n fl) (o := 50) (k := n) (a := 44) (b := 0) (v := pk) (fun q => absurd q.1 (by decide))]
            rw [a_u_ne (f := a_u (a_u (a_u (a_u (a_u I 44 61 0) 45 n its) 46 n f) 47 n a) 48 n b) (o := 49) (k := n) (a := 44) (b := 0) (v := fl) (fun q => absurd q.1 (by decide))]
            rw [a_u_ne (f := a_u (a_u (a_u (a_u I 44 61 0) 45 n its) 46 n f) 47 n a) (o := 48) (k := n) (a := 44) (b := 0) (v := b) (fun q => absurd q.1 (by decide))]
            rw [a_u_ne (f := a_u (a_u (a_u I 44 61 0) 45 n its) 46 n f) (o := 47) (k := n) (a := 44) (b := 0) (v := a) (fun q => absurd q.1 (by decide))]
            rw [a_u_ne (f := a_u (a_u I 44 61 0) 45 n its) (o := 46) (k := n) (a := 44) (b := 0) (v := f) (fun q => absurd q.1 (by decide))]
            rw [a_u_ne (f := a_u I 44 61 0) (o := 45) (k := n) (a := 44) (b := 0) (v := its) (fun q => absurd q.1 (by decide))]
            rw [a_u_ne (f := I) (o := 44) (k := 61) (a := 44) (b := 0) (v := 0) (fun q => absurd q.2 (by decide))]
            rw [hn]
            refine aw_iconst (v := 1) hC dX12_tells_168 (by decide) ?_
            refine aw_iadd hC dX12_tells_169 ?_
            refine aw_putI hC dX12_tells_170 aF_X12_183 rfl rfl (tg_44 hT) ?_
            refine aw_aload_n hC dX12_tells_173 rfl ?_
            refine aw_getI hC dX12_tells_174 aF_X12_183 rfl (tg_44 hT) ?_
            rw [a_u_self (f := a_u (a_u (a_u (a_u (a_u (a_u (a_u I 44 61 0) 45 n its) 46 n f) 47 n a) 48 n b) 49 n fl) 50 n pk) (o := 44) (k := 0) (v := (nI n) + 1)]
            refine aw_iconst (v := 1) hC dX12_tells_177 (by decide) ?_
            refine aw_isub hC dX12_tells_178 ?_
            exact aw_ireturn hC hq rfl dX12_tells_179 a_le a_le (aPure_e (by clear hC hq; (try simp only [bI_e0, bI_n0, decide_eq_false_iff_not, decide_eq_true_eq, Classical.not_not] at *) <;> first | grind (splits := 30) [nI_p1, a_u_2] | (exfalso; (simp only [i_le, i_lt, i_eq, Int32.reduceToInt] at *); omega)) (by clear hC hq; (try simp only [bI_e0, bI_n0, decide_eq_false_iff_not, decide_eq_true_eq, Classical.not_not] at *) <;> first | grind (splits := 30) [nI_p1, a_u_2] | (exfalso; (simp only [i_le, i_lt, i_eq, Int32.reduceToInt] at *); omega)) rfl rfl)
          · show AW X 0 0 83 [some (.ref 44), some (.int fl), some (.int pk), some (.int its), some (.int f), some (.int a), some (.int b), some (.int 1)] [.ref 44] T I J R
            have h8n : n = 30 := (nI_eq (a := n) (b := 30) (by omega) (by omega)).mp h8
            refine aw_iconst (v := 3) hC dX12_tells_83 (by decide) ?_
            refine aw_goto (tgt := 88) hC dX12_tells_84 (by decide) ?_
            refine aw_putI hC dX12_tells_88 aF_X12_166 rfl rfl (tg_44 hT) ?_
            refine aw_aload_n hC dX12_tells_91 rfl ?_
            refine aw_getI hC dX12_tells_92 aF_X12_166 rfl (tg_44 hT) ?_
            rw [a_u_self (f := I) (o := 44) (k := 61) (v := 3)]
            refine aw_if_le (tgt := 100) hC dX12_tells_95 (by decide) (fun h10 => absurd h10 (by decide)) (fun _ => ?_)
            show AW X 0 0 98 [some (.ref 44), some (.int fl), some (.int pk), some (.int its), some (.int f), some (.int a), some (.int b), some (.int 1)] [] T (a_u I 44 61 3) J R
            refine aw_iconst (v := 0) hC dX12_tells_98 (by decide) ?_
            exact aw_ireturn hC hq rfl dX12_tells_99 a_le a_le (aPure_e (by clear hC hq; (try simp only [bI_e0, bI_n0, decide_eq_false_iff_not, decide_eq_true_eq, Classical.not_not] at *) <;> first | grind (splits := 30) [nI_p1, a_u_2] | (exfalso; (simp only [i_le, i_lt, i_eq, Int32.reduceToInt] at *); omega)) (by clear hC hq; (try simp only [bI_e0, bI_n0, decide_eq_false_iff_not, decide_eq_true_eq, Classical.not_not] at *) <;> first | grind (splits := 30) [nI_p1, a_u_2] | (exfalso; (simp only [i_le, i_lt, i_eq, Int32.reduceToInt] at *); omega)) rfl rfl)
        · show AW X 0 0 70 [some (.ref 44), some (.int fl), some (.int pk), some (.int its), some (.int f), some (.int a), some (.int b), some (.int 1)] [.ref 44] T I J R
          refine aw_iconst (v := 2) hC dX12_tells_70 (by decide) ?_
          refine aw_goto (tgt := 88) hC dX12_tells_71 (by decide) ?_
          refine aw_putI hC dX12_tells_88 aF_X12_166 rfl rfl (tg_44 hT) ?_
          refine aw_aload_n hC dX12_tells_91 rfl ?_
          refine aw_getI hC dX12_tells_92 aF_X12_166 rfl (tg_44 hT) ?_
          rw [a_u_self (f := I) (o := 44) (k := 61) (v := 2)]
          refine aw_if_le (tgt := 100) hC dX12_tells_95 (by decide) (fun h11 => absurd h11 (by decide)) (fun _ => ?_)
          show AW X 0 0 98 [some (.ref 44), some (.int fl), some (.int pk), some (.int its), some (.int f), some (.int a), some (.int b), some (.int 1)] [] T (a_u I 44 61 2) J R
          refine aw_iconst (v := 0) hC dX12_tells_98 (by decide) ?_
          exact aw_ireturn hC hq rfl dX12_tells_99 a_le a_le (aPure_e (by clear hC hq; (try simp only [bI_e0, bI_n0, decide_eq_false_iff_not, decide_eq_true_eq, Classical.not_not] at *) <;> first | grind (splits := 30) [nI_p1, a_u_2] | (exfalso; (simp only [i_le, i_lt, i_eq, Int32.reduceToInt] at *); omega)) (by clear hC hq; (try simp only [bI_e0, bI_n0, decide_eq_false_iff_not, decide_eq_true_eq, Classical.not_not] at *) <;> first | grind (splits := 30) [nI_p1, a_u_2] | (exfalso; (simp only [i_le, i_lt, i_eq, Int32.reduceToInt] at *); omega)) rfl rfl)
      · show AW X 0 0 34 [some (.ref 44), some (.int fl), some (.int pk), some (.int its), some (.int f), some (.int a), some (.int b), none] [] T I J R
        refine aw_iload hC dX12_tells_34 rfl ?_
        refine kX12_173 hC rfl (m_X12_isField a) dX12_tells_36 rfl a_le a_le a_le a_le a_le rfl aPure_x (aPure_k ?_)
        show AW X 0 0 39 [some (.ref 44), some (.int fl), some (.int pk), some (.int its), some (.int f), some (.int a), some (.int b), none] [.int (bI (decide (0 ≤ a ∧ a ≤ 9)))] T I J R
        refine aw_if_eq (tgt := 46) hC dX12_tells_39 (by decide) (fun h12 => ?_) (fun h12 => ?_)
        · show AW X 0 0 46 [some (.ref 44), some (.int fl), some (.int pk), some (.int its), some (.int f), some (.int a), some (.int b), none] [] T I J R
          refine aw_iconst (v := 0) hC dX12_tells_46 (by decide) ?_
          refine aw_istore (L2 := [some (.ref 44), some (.int fl), some (.int pk), some (.int its), some (.int f), some (.int a), some (.int b), some (.int 0)]) hC dX12_tells_47 (by decide) rfl ?_
          refine aw_aload_n hC dX12_tells_49 rfl ?_
          refine aw_iload hC dX12_tells_50 rfl ?_
          refine aw_if_ne (tgt := 59) hC dX12_tells_52 (by decide) (fun h13 => absurd h13 (by decide)) (fun _ => ?_)
          show AW X 0 0 55 [some (.ref 44), some (.int fl), some (.int pk), some (.int its), some (.int f), some (.int a), some (.int b), some (.int 0)] [.ref 44] T I J R
          refine aw_iconst (v := 1) hC dX12_tells_55 (by decide) ?_
          refine aw_goto (tgt := 88) hC dX12_tells_56 (by decide) ?_
          refine aw_putI hC dX12_tells_88 aF_X12_166 rfl rfl (tg_44 hT) ?_
          refine aw_aload_n hC dX12_tells_91 rfl ?_
          refine aw_getI hC dX12_tells_92 aF_X12_166 rfl (tg_44 hT) ?_
          rw [a_u_self (f := I) (o := 44) (k := 61) (v := 1)]
          refine aw_if_le (tgt := 100) hC dX12_tells_95 (by decide) (fun h14 => absurd h14 (by decide)) (fun _ => ?_)
          show AW X 0 0 98 [some (.ref 44), some (.int fl), some (.int pk), some (.int its), some (.int f), some (.int a), some (.int b), some (.int 0)] [] T (a_u I 44 61 1) J R
          refine aw_iconst (v := 0) hC dX12_tells_98 (by decide) ?_
          exact aw_ireturn hC hq rfl dX12_tells_99 a_le a_le (aPure_e (by clear hC hq; (try simp only [bI_e0, bI_n0, decide_eq_false_iff_not, decide_eq_true_eq, Classical.not_not] at *) <;> first | grind (splits := 30) [nI_p1, a_u_2] | (exfalso; (simp only [i_le, i_lt, i_eq, Int32.reduceToInt] at *); omega)) (by clear hC hq; (try simp only [bI_e0, bI_n0, decide_eq_false_iff_not, decide_eq_true_eq, Classical.not_not] at *) <;> first | grind (splits := 30) [nI_p1, a_u_2] | (exfalso; (simp only [i_le, i_lt, i_eq, Int32.reduceToInt] at *); omega)) rfl rfl)
        · show AW X 0 0 42 [some (.ref 44), some (.int fl), some (.int pk), some (.int its), some (.int f), some (.int a), some (.int b), none] [] T I J R
          refine aw_iconst (v := 1) hC dX12_tells_42 (by decide) ?_
          refine aw_goto (tgt := 47) hC dX12_tells_43 (by decide) ?_
          refine aw_istore (L2 := [some (.ref 44), some (.int fl), some (.int pk), some (.int its), some (.int f), some (.int a), some (.int b), some (.int 1)]) hC dX12_tells_47 (by decide) rfl ?_
          refine aw_aload_n hC dX12_tells_49 rfl ?_
          refine aw_iload hC dX12_tells_50 rfl ?_
          refine aw_if_ne (tgt := 59) hC dX12_tells_52 (by decide) (fun _ => ?_) (fun h15 => absurd h15 (by decide))
          show AW X 0 0 59 [some (.ref 44), some (.int fl), some (.int pk), some (.int its), some (.int f), some (.int a), some (.int b), some (.int 1)] [.ref 44] T I J R
          refine aw_iload_n hC dX12_tells_59 rfl ?_
          refine aw_iload hC dX12_tells_60 rfl ?_
          refine aw_iload hC dX12_tells_62 rfl ?_
          refine kX12_180 hC rfl (m_X12_isRange its a b) dX12_tells_64 rfl a_le a_le a_le a_le a_le rfl aPure_x (aPure_k ?_)
          show AW X 0 0 67 [some (.ref 44), some (.int fl), some (.int pk), some (.int its), some (.int f), some (.int a), some (.int b), some (.int 1)] [.int (bI (decide (mRange its a b))), .ref 44] T I J R
          refine aw_if_ne (tgt := 74) hC dX12_tells_67 (by decide) (fun h16 => ?_) (fun h16 => ?_)
          · show AW X 0 0 74 [some (.ref 44), some (.int fl), some (.int pk), some (.int its), some (.int f), some (.int a), some (.int b), some (.int 1)] [.ref 44] T I J R
            refine aw_aload_n hC dX12_tells_74 rfl ?_
            refine aw_getI hC dX12_tells_75 aF_X12_183 rfl (tg_44 hT) ?_
            rw [hn]
            refine aw_bipush (v := 30) hC dX12_tells_78 (by decide) ?_
            refine aw_icmp_ne (tgt := 87) hC dX12_tells_80 (by decide) (fun h17 => ?_) (fun h17 => ?_)
            · show AW X 0 0 87 [some (.ref 44), some (.int fl), some (.int pk), some (.int its), some (.int f), some (.int a), some (.int b), some (.int 1)] [.ref 44] T I J R
              have h17n : ¬ n = 30 := fun q9 => h17 ((nI_eq (a := n) (b := 30) (by omega) (by omega)).mpr q9)
              refine aw_iconst (v := 0) hC dX12_tells_87 (by decide) ?_
              refine aw_putI hC dX12_tells_88 aF_X12_166 rfl rfl (tg_44 hT) ?_
              refine aw_aload_n hC dX12_tells_91 rfl ?_
              refine aw_getI hC dX12_tells_92 aF_X12_166 rfl (tg_44 hT) ?_
              rw [a_u_self (f := I) (o := 44) (k := 61) (v := 0)]
              refine aw_if_le (tgt := 100) hC dX12_tells_95 (by decide) (fun _ => ?_) (fun h18 => absurd h18 (by decide))
              show AW X 0 0 100 [some (.ref 44), some (.int fl), some (.int pk), some (.int its), some (.int f), some (.int a), some (.int b), some (.int 1)] [] T (a_u I 44 61 0) J R
              refine aw_aload_n hC dX12_tells_100 rfl ?_
              refine aw_getR hC dX12_tells_101 aF_X12_7 rfl (tg_44 hT) (pr_44_1 hR) ?_
              refine aw_aload_n hC dX12_tells_104 rfl ?_
              refine aw_getI hC dX12_tells_105 aF_X12_183 rfl (tg_44 hT) ?_
              rw [a_u_ne (f := I) (o := 44) (k := 61) (a := 44) (b := 0) (v := 0) (fun q => absurd q.2 (by decide))]
              rw [hn]
              refine aw_iload_n hC dX12_tells_108 rfl ?_
              refine aw_iastore_k (j := n) hC dX12_tells_109 (tg_45 hT) (nI_clamp (by omega)) (vp_in_nI (by omega) (by decide)) ?_
              refine aw_aload_n hC dX12_tells_110 rfl ?_
              refine aw_getR hC dX12_tells_111 aF_X12_13 rfl (tg_44 hT) (pr_44_2 hR) ?_
              refine aw_aload_n hC dX12_tells_114 rfl ?_
              refine aw_getI hC dX12_tells_115 aF_X12_183 rfl (tg_44 hT) ?_
              rw [a_u_ne (f := a_u I 44 61 0) (o := 45) (k := n) (a := 44) (b := 0) (v := its) (fun q => absurd q.1 (by decide))]
              rw [a_u_ne (f := I) (o := 44) (k := 61) (a := 44) (b := 0) (v := 0) (fun q => absurd q.2 (by decide))]
              rw [hn]
              refine aw_iload hC dX12_tells_118 rfl ?_
              refine aw_iastore_k (j := n) hC dX12_tells_120 (tg_46 hT) (nI_clamp (by omega)) (vp_in_nI (by omega) (by decide)) ?_
              refine aw_aload_n hC dX12_tells_121 rfl ?_
              refine aw_getR hC dX12_tells_122 aF_X12_16 rfl (tg_44 hT) (pr_44_3 hR) ?_
              refine aw_aload_n hC dX12_tells_125 rfl ?_
              refine aw_getI hC dX12_tells_126 aF_X12_183 rfl (tg_44 hT) ?_
              rw [a_u_ne (f := a_u (a_u I 44 61 0) 45 n its) (o := 46) (k := n) (a := 44) (b := 0) (v := f) (fun q => absurd q.1 (by decide))]
              rw [a_u_ne (f := a_u I 44 61 0) (o := 45) (k := n) (a := 44) (b := 0) (v := its) (fun q => absurd q.1 (by decide))]
              rw [a_u_ne (f := I) (o := 44) (k := 61) (a := 44) (b := 0) (v := 0) (fun q => absurd q.2 (by decide))]
              rw [hn]
              refine aw_iload hC dX12_tells_129 rfl ?_
              refine aw_iastore_k (j := n) hC dX12_tells_131 (tg_47 hT) (nI_clamp (by omega)) (vp_in_nI (by omega) (by decide)) ?_
              refine aw_aload_n hC dX12_tells_132 rfl ?_
              refine aw_getR hC dX12_tells_133 aF_X12_19 rfl (tg_44 hT) (pr_44_4 hR) ?_
              refine aw_aload_n hC dX12_tells_136 rfl ?_
              refine aw_getI hC dX12_tells_137 aF_X12_183 rfl (tg_44 hT) ?_
              rw [a_u_ne (f := a_u (a_u (a_u I 44 61 0) 45 n its) 46 n f) (o := 47) (k := n) (a := 44) (b := 0) (v := a) (fun q => absurd q.1 (by decide))]
              rw [a_u_ne (f := a_u (a_u I 44 61 0) 45 n its) (o := 46) (k := n) (a := 44) (b := 0) (v := f) (fun q => absurd q.1 (by decide))]
              rw [a_u_ne (f := a_u I 44 61 0) (o := 45) (k := n) (a := 44) (b := 0) (v := its) (fun q => absurd q.1 (by decide))]
              rw [a_u_ne (f := I) (o := 44) (k := 61) (a := 44) (b := 0) (v := 0) (fun q => absurd q.2 (by decide))]
              rw [hn]
              refine aw_iload hC dX12_tells_140 rfl ?_
              refine aw_iastore_k (j := n) hC dX12_tells_142 (tg_48 hT) (nI_clamp (by omega)) (vp_in_nI (by omega) (by decide)) ?_
              refine aw_aload_n hC dX12_tells_143 rfl ?_
              refine aw_getR hC dX12_tells_144 aF_X12_22 rfl (tg_44 hT) (pr_44_5 hR) ?_
              refine aw_aload_n hC dX12_tells_147 rfl ?_
              refine aw_getI hC dX12_tells_148 aF_X12_183 rfl (tg_44 hT) ?_
              rw [a_u_ne (f := a_u (a_u (a_u (a_u I 44 61 0) 45 n its) 46 n f) 47 n a) (o := 48) (k := n) (a := 44) (b := 0) (v := b) (fun q => absurd q.1 (by decide))]
              rw [a_u_ne (f := a_u (a_u (a_u I 44 61 0) 45 n its) 46 n f) (o := 47) (k := n) (a := 44) (b := 0) (v := a) (fun q => absurd q.1 (by decide))]
              rw [a_u_ne (f := a_u (a_u I 44 61 0) 45 n its) (o := 46) (k := n) (a := 44) (b := 0) (v := f) (fun q => absurd q.1 (by decide))]
              rw [a_u_ne (f := a_u I 44 61 0) (o := 45) (k := n) (a := 44) (b := 0) (v := its) (fun q => absurd q.1 (by decide))]
              rw [a_u_ne (f := I) (o := 44) (k := 61) (a := 44) (b := 0) (v := 0) (fun q => absurd q.2 (by decide))]
              rw [hn]
              refine aw_iload_n hC dX12_tells_151 rfl ?_
              refine aw_iastore_k (j := n) hC dX12_tells_152 (tg_49 hT) (nI_clamp (by omega)) (vp_in_nI (by omega) (by decide)) ?_
              refine aw_aload_n hC dX12_tells_153 rfl ?_
              refine aw_getR hC dX12_tells_154 aF_X12_25 rfl (tg_44 hT) (pr_44_6 hR) ?_
              refine aw_aload_n hC dX12_tells_157 rfl ?_
              refine aw_getI hC dX12_tells_158 aF_X12_183 rfl (tg_44 hT) ?_
              rw [a_u_ne (f := a_u (a_u (a_u (a_u (a_u I 44 61 0) 45 n its) 46 n f) 47 n a) 48 n b) (o := 49) (k := n) (a := 44) (b := 0) (v := fl) (fun q => absurd q.1 (by decide))]
              rw [a_u_ne (f := a_u (a_u (a_u (a_u I 44 61 0) 45 n its) 46 n f) 47 n a) (o := 48) (k := n) (a := 44) (b := 0) (v := b) (fun q => absurd q.1 (by decide))]
              rw [a_u_ne (f := a_u (a_u (a_u I 44 61 0) 45 n its) 46 n f) (o := 47) (k := n) (a := 44) (b := 0) (v := a) (fun q => absurd q.1 (by decide))]
              rw [a_u_ne (f := a_u (a_u I 44 61 0) 45 n its) (o := 46) (k := n) (a := 44) (b := 0) (v := f) (fun q => absurd q.1 (by decide))]
              rw [a_u_ne (f := a_u I 44 61 0) (o := 45) (k := n) (a := 44) (b := 0) (v := its) (fun q => absurd q.1 (by decide))]
              rw [a_u_ne (f := I) (o := 44) (k := 61) (a := 44) (b := 0) (v := 0) (fun q => absurd q.2 (by decide))]
              rw [hn]
              refine aw_iload_n hC dX12_tells_161 rfl ?_
              refine aw_iastore_k (j := n) hC dX12_tells_162 (tg_50 hT) (nI_clamp (by omega)) (vp_in_nI (by omega) (by decide)) ?_
              refine aw_aload_n hC dX12_tells_163 rfl ?_
              refine aw_dup hC dX12_tells_164 rfl ?_
              refine aw_getI hC dX12_tells_165 aF_X12_183 rfl (tg_44 hT) ?_
              rw [a_u_ne (f := a_u (a_u (a_u (a_u (a_u (a_u I 44 61 0) 45 n its) 46 n f) 47 n a) 48 n b) 49 n fl) (o := 50) (k := n) (a := 44) (b := 0) (v := pk) (fun q => absurd q.1 (by decide))]
              rw [a_u_ne (f := a_u (a_u (a_u (a_u (a_u I 44 61 0) 45 n its) 46 n f) 47 n a) 48 n b) (o := 49) (k := n) (a := 44) (b := 0) (v := fl) (fun q => absurd q.1 (by decide))]
              rw [a_u_ne (f := a_u (a_u (a_u (a_u I 44 61 0) 45 n its) 46 n f) 47 n a) (o := 48) (k := n) (a := 44) (b := 0) (v := b) (fun q => absurd q.1 (by decide))]
              rw [a_u_ne (f := a_u (a_u (a_u I 44 61 0) 45 n its) 46 n f) (o := 47) (k := n) (a := 44) (b := 0) (v := a) (fun q => absurd q.1 (by decide))]
              rw [a_u_ne (f := a_u (a_u I 44 61 0) 45 n its) (o := 46) (k := n) (a := 44) (b := 0) (v := f) (fun q => absurd q.1 (by decide))]
              rw [a_u_ne (f := a_u I 44 61 0) (o := 45) (k := n) (a := 44) (b := 0) (v := its) (fun q => absurd q.1 (by decide))]
              rw [a_u_ne (f := I) (o := 44) (k := 61) (a := 44) (b := 0) (v := 0) (fun q => absurd q.2 (by decide))]
              rw [hn]
              refine aw_iconst (v := 1) hC dX12_tells_168 (by decide) ?_
              refine aw_iadd hC dX12_tells_169 ?_
              refine aw_putI hC dX12_tells_170 aF_X12_183 rfl rfl (tg_44 hT) ?_
              refine aw_aload_n hC dX12_tells_173 rfl ?_
              refine aw_getI hC dX12_tells_174 aF_X12_183 rfl (tg_44 hT) ?_
              rw [a_u_self (f := a_u (a_u (a_u (a_u (a_u (a_u (a_u I 44 61 0) 45 n its) 46 n f) 47 n a) 48 n b) 49 n fl) 50 n pk) (o := 44) (k := 0) (v := (nI n) + 1)]
              refine aw_iconst (v := 1) hC dX12_tells_177 (by decide) ?_
              refine aw_isub hC dX12_tells_178 ?_
              exact aw_ireturn hC hq rfl dX12_tells_179 a_le a_le (aPure_e (by clear hC hq; (try simp only [bI_e0, bI_n0, decide_eq_false_iff_not, decide_eq_true_eq, Classical.not_not] at *) <;> first | grind (splits := 30) [nI_p1, a_u_2] | (exfalso; (simp only [i_le, i_lt, i_eq, Int32.reduceToInt] at *); omega)) (by clear hC hq; (try simp only [bI_e0, bI_n0, decide_eq_false_iff_not, decide_eq_true_eq, Classical.not_not] at *) <;> first | grind (splits := 30) [nI_p1, a_u_2] | (exfalso; (simp only [i_le, i_lt, i_eq, Int32.reduceToInt] at *); omega)) rfl rfl)
            · show AW X 0 0 83 [some (.ref 44), some (.int fl), some (.int pk), some (.int its), some (.int f), some (.int a), some (.int b), some (.int 1)] [.ref 44] T I J R
              have h17n : n = 30 := (nI_eq (a := n) (b := 30) (by omega) (by omega)).mp h17
              refine aw_iconst (v := 3) hC dX12_tells_83 (by decide) ?_
              refine aw_goto (tgt := 88) hC dX12_tells_84 (by decide) ?_
              refine aw_putI hC dX12_tells_88 aF_X12_166 rfl rfl (tg_44 hT) ?_
              refine aw_aload_n hC dX12_tells_91 rfl ?_
              refine aw_getI hC dX12_tells_92 aF_X12_166 rfl (tg_44 hT) ?_
              rw [a_u_self (f := I) (o := 44) (k := 61) (v := 3)]
              refine aw_if_le (tgt := 100) hC dX12_tells_95 (by decide) (fun h19 => absurd h19 (by decide)) (fun _ => ?_)
              show AW X 0 0 98 [some (.ref 44), some (.int fl), some (.int pk), some (.int its), some (.int f), some (.int a), some (.int b), some (.int 1)] [] T (a_u I 44 61 3) J R
              refine aw_iconst (v := 0) hC dX12_tells_98 (by decide) ?_
              exact aw_ireturn hC hq rfl dX12_tells_99 a_le a_le (aPure_e (by clear hC hq; (try simp only [bI_e0, bI_n0, decide_eq_false_iff_not, decide_eq_true_eq, Classical.not_not] at *) <;> first | grind (splits := 30) [nI_p1, a_u_2] | (exfalso; (simp only [i_le, i_lt, i_eq, Int32.reduceToInt] at *); omega)) (by clear hC hq; (try simp only [bI_e0, bI_n0, decide_eq_false_iff_not, decide_eq_true_eq, Classical.not_not] at *) <;> first | grind (splits := 30) [nI_p1, a_u_2] | (exfalso; (simp only [i_le, i_lt, i_eq, Int32.reduceToInt] at *); omega)) rfl rfl)
          · show AW X 0 0 70 [some (.ref 44), some (.int fl), some (.int pk), some (.int its), some (.int f), some (.int a), some (.int b), some (.int 1)] [.ref 44] T I J R
            refine aw_iconst (v := 2) hC dX12_tells_70 (by decide) ?_
            refine aw_goto (tgt := 88) hC dX12_tells_71 (by decide) ?_
            refine aw_putI hC dX12_tells_88 aF_X12_166 rfl rfl (tg_44 hT) ?_
            refine aw_aload_n hC dX12_tells_91 rfl ?_
            refine aw_getI hC dX12_tells_92 aF_X12_166 rfl (tg_44 hT) ?_
            rw [a_u_self (f := I) (o := 44) (k := 61) (v := 2)]
            refine aw_if_le (tgt := 100) hC dX12_tells_95 (by decide) (fun h20 => absurd h20 (by decide)) (fun _ => ?_)
            show AW X 0 0 98 [some (.ref 44), some (.int fl), some (.int pk), some (.int its), some (.int f), some (.int a), some (.int b), some (.int 1)] [] T (a_u I 44 61 2) J R
            refine aw_iconst (v := 0) hC dX12_tells_98 (by decide) ?_
            exact aw_ireturn hC hq rfl dX12_tells_99 a_le a_le (aPure_e (by clear hC hq; (try simp only [bI_e0, bI_n0, decide_eq_false_iff_not, decide_eq_true_eq, Classical.not_not] at *) <;> first | grind (splits := 30) [nI_p1, a_u_2] | (exfalso; (simp only [i_le, i_lt, i_eq, Int32.reduceToInt] at *); omega)) (by clear hC hq; (try simp only [bI_e0, bI_n0, decide_eq_false_iff_not, decide_eq_true_eq, Classical.not_not] at *) <;> first | grind (splits := 30) [nI_p1, a_u_2] | (exfalso; (simp only [i_le, i_lt, i_eq, Int32.reduceToInt] at *); omega)) rfl rfl)
  · show AW X 0 0 6 [some (.ref 44), some (.int fl), some (.int pk), some (.int its), some (.int f), some (.int a), some (.int b), none] [] T I J R
    refine aw_iload hC dX12_tells_6 rfl ?_
    refine aw_iconst (v := 0) hC dX12_tells_8 (by decide) ?_
    refine aw_iconst (v := 2) hC dX12_tells_9 (by decide) ?_
    refine kX12_169 hC rfl (m_X12_isIn f (0 : Int32) (2 : Int32)) dX12_tells_10 rfl a_le a_le a_le a_le a_le rfl aPure_x (aPure_k ?_)
    show AW X 0 0 13 [some (.ref 44), some (.int fl), some (.int pk), some (.int its), some (.int f), some (.int a), some (.int b), none] [.int (bI (decide ((0 : Int32) ≤ f ∧ f ≤ (2 : Int32))))] T I J R
    refine aw_if_eq (tgt := 46) hC dX12_tells_13 (by decide) (fun h21 => ?_) (fun h21 => ?_)
    · show AW X 0 0 46 [some (.ref 44), some (.int fl), some (.int pk), some (.int its), some (.int f), some (.int a), some (.int b), none] [] T I J R
      refine aw_iconst (v := 0) hC dX12_tells_46 (by decide) ?_
      refine aw_istore (L2 := [some (.ref 44), some (.int fl), some (.int pk), some (.int its), some (.int f), some (.int a), some (.int b), some (.int 0)]) hC dX12_tells_47 (by decide) rfl ?_
      refine aw_aload_n hC dX12_tells_49 rfl ?_
      refine aw_iload hC dX12_tells_50 rfl ?_
      refine aw_if_ne (tgt := 59) hC dX12_tells_52 (by decide) (fun h22 => absurd h22 (by decide)) (fun _ => ?_)
      show AW X 0 0 55 [some (.ref 44), some (.int fl), some (.int pk), some (.int its), some (.int f), some (.int a), some (.int b), some (.int 0)] [.ref 44] T I J R
      refine aw_iconst (v := 1) hC dX12_tells_55 (by decide) ?_
      refine aw_goto (tgt := 88) hC dX12_tells_56 (by decide) ?_
      refine aw_putI hC dX12_tells_88 aF_X12_166 rfl rfl (tg_44 hT) ?_
      refine aw_aload_n hC dX12_tells_91 rfl ?_
      refine aw_getI hC dX12_tells_92 aF_X12_166 rfl (tg_44 hT) ?_
      rw [a_u_self (f := I) (o := 44) (k := 61) (v := 1)]
      refine aw_if_le (tgt := 100) hC dX12_tells_95 (by decide) (fun h23 => absurd h23 (by decide)) (fun _ => ?_)
      show AW X 0 0 98 [some (.ref 44), some (.int fl), some (.int pk), some (.int its), some (.int f), some (.int a), some (.int b), some (.int 0)] [] T (a_u I 44 61 1) J R
      refine aw_iconst (v := 0) hC dX12_tells_98 (by decide) ?_
      exact aw_ireturn hC hq rfl dX12_tells_99 a_le a_le (aPure_e (by clear hC hq; (try simp only [bI_e0, bI_n0, decide_eq_false_iff_not, decide_eq_true_eq, Classical.not_not] at *) <;> first | grind (splits := 30) [nI_p1, a_u_2] | (exfalso; (simp only [i_le, i_lt, i_eq, Int32.reduceToInt] at *); omega)) (by clear hC hq; (try simp only [bI_e0, bI_n0, decide_eq_false_iff_not, decide_eq_true_eq, Classical.not_not] at *) <;> first | grind (splits := 30) [nI_p1, a_u_2] | (exfalso; (simp only [i_le, i_lt, i_eq, Int32.reduceToInt] at *); omega)) rfl rfl)
    · show AW X 0 0 16 [some (.ref 44), some (.int fl), some (.int pk), some (.int its), some (.int f), some (.int a), some (.int b), none] [] T I J R
      refine aw_goto (tgt := 27) hC dX12_tells_16 (by decide) ?_
      refine aw_iload_n hC dX12_tells_27 rfl ?_
      refine kX12_177 hC rfl (m_X12_isPair its) dX12_tells_28 rfl a_le a_le a_le a_le a_le rfl aPure_x (aPure_k ?_)
      show AW X 0 0 31 [some (.ref 44), some (.int fl), some (.int pk), some (.int its), some (.int f), some (.int a), some (.int b), none] [.int (bI (decide (its = 5 ∨ its = 6)))] T I J R
      refine aw_if_eq (tgt := 42) hC dX12_tells_31 (by decide) (fun h24 => ?_) (fun h24 => ?_)
      · show AW X 0 0 42 [some (.ref 44), some (.int fl), some (.int pk), some (.int its), some (.int f), some (.int a), some (.int b), none] [] T I J R
        refine aw_iconst (v := 1) hC dX12_tells_42 (by decide) ?_
        refine aw_goto (tgt := 47) hC dX12_tells_43 (by decide) ?_
        refine aw_istore (L2 := [some (.ref 44), some (.int fl), some (.int pk), some (.int its), some (.int f), some (.int a), some (.int b), some (.int 1)]) hC dX12_tells_47 (by decide) rfl ?_
        refine aw_aload_n hC dX12_tells_49 rfl ?_
        refine aw_iload hC dX12_tells_50 rfl ?_
        refine aw_if_ne (tgt := 59) hC dX12_tells_52 (by decide) (fun _ => ?_) (fun h25 => absurd h25 (by decide))
        show AW X 0 0 59 [some (.ref 44), some (.int fl), some (.int pk), some (.int its), some (.int f), some (.int a), some (.int b), some (.int 1)] [.ref 44] T I J R
        refine aw_iload_n hC dX12_tells_59 rfl ?_
        refine aw_iload hC dX12_tells_60 rfl ?_
        refine aw_iload hC dX12_tells_62 rfl ?_
        refine kX12_180 hC rfl (m_X12_isRange its a b) dX12_tells_64 rfl a_le a_le a_le a_le a_le rfl aPure_x (aPure_k ?_)
        show AW X 0 0 67 [some (.ref 44), some (.int fl), some (.int pk), some (.int its), some (.int f), some (.int a), some (.int b), some (.int 1)] [.int (bI (decide (mRange its a b))), .ref 44] T I J R
        refine aw_if_ne (tgt := 74) hC dX12_tells_67 (by decide) (fun h26 => ?_) (fun h26 => ?_)
        · show AW X 0 0 74 [some (.ref 44), some (.int fl), some (.int pk), some (.int its), some (.int f), some (.int a), some (.int b), some (.int 1)] [.ref 44] T I J R
          refine aw_aload_n hC dX12_tells_74 rfl ?_
          refine aw_getI hC dX12_tells_75 aF_X12_183 rfl (tg_44 hT) ?_
          rw [hn]
          refine aw_bipush (v := 30) hC dX12_tells_78 (by decide) ?_
          refine aw_icmp_ne (tgt := 87) hC dX12_tells_80 (by decide) (fun h27 => ?_) (fun h27 => ?_)
          · show AW X 0 0 87 [some (.ref 44), some (.int fl), some (.int pk), some (.int its), some (.int f), some (.int a), some (.int b), some (.int 1)] [.ref 44] T I J R
            have h27n : ¬ n = 30 := fun q9 => h27 ((nI_eq (a := n) (b := 30) (by omega) (by omega)).mpr q9)
            refine aw_iconst (v := 0) hC dX12_tells_87 (by decide) ?_
            refine aw_putI hC dX12_tells_88 aF_X12_166 rfl rfl (tg_44 hT) ?_
            refine aw_aload_n hC dX12_tells_91 rfl ?_
            refine aw_getI hC dX12_tells_92 aF_X12_166 rfl (tg_44 hT) ?_
            rw [a_u_self (f := I) (o := 44) (k := 61) (v := 0)]
            refine aw_if_le (tgt := 100) hC dX12_tells_95 (by decide) (fun _ => ?_) (fun h28 => absurd h28 (by decide))
            show AW X 0 0 100 [some (.ref 44), some (.int fl), some (.int pk), some (.int its), some (.int f), some (.int a), some (.int b), some (.int 1)] [] T (a_u I 44 61 0) J R
            refine aw_aload_n hC dX12_tells_100 rfl ?_
            refine aw_getR hC dX12_tells_101 aF_X12_7 rfl (tg_44 hT) (pr_44_1 hR) ?_
            refine aw_aload_n hC dX12_tells_104 rfl ?_
            refine aw_getI hC dX12_tells_105 aF_X12_183 rfl (tg_44 hT) ?_
            rw [a_u_ne (f := I) (o := 44) (k := 61) (a := 44) (b := 0) (v := 0) (fun q => absurd q.2 (by decide))]
            rw [hn]
            refine aw_iload_n hC dX12_tells_108 rfl ?_
            refine aw_iastore_k (j := n) hC dX12_tells_109 (tg_45 hT) (nI_clamp (by omega)) (vp_in_nI (by omega) (by decide)) ?_
            refine aw_aload_n hC dX12_tells_110 rfl ?_
            refine aw_getR hC dX12_tells_111 aF_X12_13 rfl (tg_44 hT) (pr_44_2 hR) ?_
            refine aw_aload_n hC dX12_tells_114 rfl ?_
            refine aw_getI hC dX12_tells_115 aF_X12_183 rfl (tg_44 hT) ?_
            rw [a_u_ne (f := a_u I 44 61 0) (o := 45) (k := n) (a := 44) (b := 0) (v := its) (fun q => absurd q.1 (by decide))]
            rw [a_u_ne (f := I) (o := 44) (k := 61) (a := 44) (b := 0) (v := 0) (fun q => absurd q.2 (by decide))]
            rw [hn]
            refine aw_iload hC dX12_tells_118 rfl ?_
            refine aw_iastore_k (j := n) hC dX12_tells_120 (tg_46 hT) (nI_clamp (by omega)) (vp_in_nI (by omega) (by decide)) ?_
            refine aw_aload_n hC dX12_tells_121 rfl ?_
            refine aw_getR hC dX12_tells_122 aF_X12_16 rfl (tg_44 hT) (pr_44_3 hR) ?_
            refine aw_aload_n hC dX12_tells_125 rfl ?_
            refine aw_getI hC dX12_tells_126 aF_X12_183 rfl (tg_44 hT) ?_
            rw [a_u_ne (f := a_u (a_u I 44 61 0) 45 n its) (o := 46) (k := n) (a := 44) (b := 0) (v := f) (fun q => absurd q.1 (by decide))]
            rw [a_u_ne (f := a_u I 44 61 0) (o := 45) (k := n) (a := 44) (b := 0) (v := its) (fun q => absurd q.1 (by decide))]
            rw [a_u_ne (f := I) (o := 44) (k := 61) (a := 44) (b := 0) (v := 0) (fun q => absurd q.2 (by decide))]
            rw [hn]
            refine aw_iload hC dX12_tells_129 rfl ?_
            refine aw_iastore_k (j := n) hC dX12_tells_131 (tg_47 hT) (nI_clamp (by omega)) (vp_in_nI (by omega) (by decide)) ?_
            refine aw_aload_n hC dX12_tells_132 rfl ?_
            refine aw_getR hC dX12_tells_133 aF_X12_19 rfl (tg_44 hT) (pr_44_4 hR) ?_
            refine aw_aload_n hC dX12_tells_136 rfl ?_
            refine aw_getI hC dX12_tells_137 aF_X12_183 rfl (tg_44 hT) ?_
            rw [a_u_ne (f := a_u (a_u (a_u I 44 61 0) 45 n its) 46 n f) (o := 47) (k := n) (a := 44) (b := 0) (v := a) (fun q => absurd q.1 (by decide))]
            rw [a_u_ne (f := a_u (a_u I 44 61 0) 45 n its) (o := 46) (k := n) (a := 44) (b := 0) (v := f) (fun q => absurd q.1 (by decide))]
            rw [a_u_ne (f := a_u I 44 61 0) (o := 45) (k := n) (a := 44) (b := 0) (v := its) (fun q => absurd q.1 (by decide))]
            rw [a_u_ne (f := I) (o := 44) (k := 61) (a := 44) (b := 0) (v := 0) (fun q => absurd q.2 (by decide))]
            rw [hn]
            refine aw_iload hC dX12_tells_140 rfl ?_
            refine aw_iastore_k (j := n) hC dX12_tells_142 (tg_48 hT) (nI_clamp (by omega)) (vp_in_nI (by omega) (by decide)) ?_
            refine aw_aload_n hC dX12_tells_143 rfl ?_
            refine aw_getR hC dX12_tells_144 aF_X12_22 rfl (tg_44 hT) (pr_44_5 hR) ?_
            refine aw_aload_n hC dX12_tells_147 rfl ?_
            refine aw_getI hC dX12_tells_148 aF_X12_183 rfl (tg_44 hT) ?_
            rw [a_u_ne (f := a_u (a_u (a_u (a_u I 44 61 0) 45 n its) 46 n f) 47 n a) (o := 48) (k := n) (a := 44) (b := 0) (v := b) (fun q => absurd q.1 (by decide))]
            rw [a_u_ne (f := a_u (a_u (a_u I 44 61 0) 45 n its) 46 n f) (o := 47) (k := n) (a := 44) (b := 0) (v := a) (fun q => absurd q.1 (by decide))]
            rw [a_u_ne (f := a_u (a_u I 44 61 0) 45 n its) (o := 46) (k := n) (a := 44) (b := 0) (v := f) (fun q => absurd q.1 (by decide))]
            rw [a_u_ne (f := a_u I 44 61 0) (o := 45) (k := n) (a := 44) (b := 0) (v := its) (fun q => absurd q.1 (by decide))]
            rw [a_u_ne (f := I) (o := 44) (k := 61) (a := 44) (b := 0) (v := 0) (fun q => absurd q.2 (by decide))]
            rw [hn]
            refine aw_iload_n hC dX12_tells_151 rfl ?_
            refine aw_iastore_k (j := n) hC dX12_tells_152 (tg_49 hT) (nI_clamp (by omega)) (vp_in_nI (by omega) (by decide)) ?_
            refine aw_aload_n hC dX12_tells_153 rfl ?_
            refine aw_getR hC dX12_tells_154 aF_X12_25 rfl (tg_44 hT) (pr_44_6 hR) ?_
            refine aw_aload_n hC dX12_tells_157 rfl ?_
            refine aw_getI hC dX12_tells_158 aF_X12_183 rfl (tg_44 hT) ?_
            rw [a_u_ne (f := a_u (a_u (a_u (a_u (a_u I 44 61 0) 45 n its) 46 n f) 47 n a) 48 n b) (o := 49) (k := n) (a := 44) (b := 0) (v := fl) (fun q => absurd q.1 (by decide))]
            rw [a_u_ne (f := a_u (a_u (a_u (a_u I 44 61 0) 45 n its) 46 n f) 47 n a) (o := 48) (k := n) (a := 44) (b := 0) (v := b) (fun q => absurd q.1 (by decide))]
            rw [a_u_ne (f := a_u (a_u (a_u I 44 61 0) 45 n its) 46 n f) (o := 47) (k := n) (a := 44) (b := 0) (v := a) (fun q => absurd q.1 (by decide))]
            rw [a_u_ne (f := a_u (a_u I 44 61 0) 45 n its) (o := 46) (k := n) (a := 44) (b := 0) (v := f) (fun q => absurd q.1 (by decide))]
            rw [a_u_ne (f := a_u I 44 61 0) (o := 45) (k := n) (a := 44) (b := 0) (v := its) (fun q => absurd q.1 (by decide))]
            rw [a_u_ne (f := I) (o := 44) (k := 61) (a := 44) (b := 0) (v := 0) (fun q => absurd q.2 (by decide))]
            rw [hn]
            refine aw_iload_n hC dX12_tells_161 rfl ?_
            refine aw_iastore_k (j := n) hC dX12_tells_162 (tg_50 hT) (nI_clamp (by omega)) (vp_in_nI (by omega) (by decide)) ?_
            refine aw_aload_n hC dX12_tells_163 rfl ?_
            refine aw_dup hC dX12_tells_164 rfl ?_
            refine aw_getI hC dX12_tells_165 aF_X12_183 rfl (tg_44 hT) ?_
            rw [a_u_ne (f := a_u (a_u (a_u (a_u (a_u (a_u I 44 61 0) 45 n its) 46 n f) 47 n a) 48 n b) 49 n fl) (o := 50) (k := n) (a := 44) (b := 0) (v := pk) (fun q => absurd q.1 (by decide))]
            rw [a_u_ne (f := a_u (a_u (a_u (a_u (a_u I 44 61 0) 45 n its) 46 n f) 47 n a) 48 n b) (o := 49) (k := n) (a := 44) (b := 0) (v := fl) (fun q => absurd q.1 (by decide))]
            rw [a_u_ne (f := a_u (a_u (a_u (a_u I 44 61 0) 45 n its) 46 n f) 47 n a) (o := 48) (k := n) (a := 44) (b := 0) (v := b) (fun q => absurd q.1 (by decide))]
            rw [a_u_ne (f := a_u (a_u (a_u I 44 61 0) 45 n its) 46 n f) (o := 47) (k := n) (a := 44) (b := 0) (v := a) (fun q => absurd q.1 (by decide))]
            rw [a_u_ne (f := a_u (a_u I 44 61 0) 45 n its) (o := 46) (k := n) (a := 44) (b := 0) (v := f) (fun q => absurd q.1 (by decide))]
            rw [a_u_ne (f := a_u I 44 61 0) (o := 45) (k := n) (a := 44) (b := 0) (v := its) (fun q => absurd q.1 (by decide))]
            rw [a_u_ne (f := I) (o := 44) (k := 61) (a := 44) (b := 0) (v := 0) (fun q => absurd q.2 (by decide))]
            rw [hn]
            refine aw_iconst (v := 1) hC dX12_tells_168 (by decide) ?_
            refine aw_iadd hC dX12_tells_169 ?_
            refine aw_putI hC dX12_tells_170 aF_X12_183 rfl rfl (tg_44 hT) ?_
            refine aw_aload_n hC dX12_tells_173 rfl ?_
            refine aw_getI hC dX12_tells_174 aF_X12_183 rfl (tg_44 hT) ?_
            rw [a_u_self (f := a_u (a_u (a_u (a_u (a_u (a_u (a_u I 44 61 0) 45 n its) 46 n f) 47 n a) 48 n b) 49 n fl) 50 n pk) (o := 44) (k := 0) (v := (nI n) + 1)]
            refine aw_iconst (v := 1) hC dX12_tells_177 (by decide) ?_
            refine aw_isub hC dX12_tells_178 ?_
            exact aw_ireturn hC hq rfl dX12_tells_179 a_le a_le (aPure_e (by clear hC hq; (try simp only [bI_e0, bI_n0, decide_eq_false_iff_not, decide_eq_true_eq, Classical.not_not] at *) <;> first | grind (splits := 30) [nI_p1, a_u_2] | (exfalso; (simp only [i_le, i_lt, i_eq, Int32.reduceToInt] at *); omega)) (by clear hC hq; (try simp only [bI_e0, bI_n0, decide_eq_false_iff_not, decide_eq_true_eq, Classical.not_not] at *) <;> first | grind (splits := 30) [nI_p1, a_u_2] | (exfalso; (simp only [i_le, i_lt, i_eq, Int32.reduceToInt] at *); omega)) rfl rfl)
          · show AW X 0 0 83 [some (.ref 44), some (.int fl), some (.int pk), some (.int its), some (.int f), some (.int a), some (.int b), some (.int 1)] [.ref 44] T I J R
            have h27n : n = 30 := (nI_eq (a := n) (b := 30) (by omega) (by omega)).mp h27
            refine aw_iconst (v := 3) hC dX12_tells_83 (by decide) ?_
            refine aw_goto (tgt := 88) hC dX12_tells_84 (by decide) ?_
            refine aw_putI hC dX12_tells_88 aF_X12_166 rfl rfl (tg_44 hT) ?_
            refine aw_aload_n hC dX12_tells_91 rfl ?_
            refine aw_getI hC dX12_tells_92 aF_X12_166 rfl (tg_44 hT) ?_
            rw [a_u_self (f := I) (o := 44) (k := 61) (v := 3)]
            refine aw_if_le (tgt := 100) hC dX12_tells_95 (by decide) (fun h29 => absurd h29 (by decide)) (fun _ => ?_)
            show AW X 0 0 98 [some (.ref 44), some (.int fl), some (.int pk), some (.int its), some (.int f), some (.int a), some (.int b), some (.int 1)] [] T (a_u I 44 61 3) J R
            refine aw_iconst (v := 0) hC dX12_tells_98 (by decide) ?_
            exact aw_ireturn hC hq rfl dX12_tells_99 a_le a_le (aPure_e (by clear hC hq; (try simp only [bI_e0, bI_n0, decide_eq_false_iff_not, decide_eq_true_eq, Classical.not_not] at *) <;> first | grind (splits := 30) [nI_p1, a_u_2] | (exfalso; (simp only [i_le, i_lt, i_eq, Int32.reduceToInt] at *); omega)) (by clear hC hq; (try simp only [bI_e0, bI_n0, decide_eq_false_iff_not, decide_eq_true_eq, Classical.not_not] at *) <;> first | grind (splits := 30) [nI_p1, a_u_2] | (exfalso; (simp only [i_le, i_lt, i_eq, Int32.reduceToInt] at *); omega)) rfl rfl)
        · show AW X 0 0 70 [some (.ref 44), some (.int fl), some (.int pk), some (.int its), some (.int f), some (.int a), some (.int b), some (.int 1)] [.ref 44] T I J R
          refine aw_iconst (v := 2) hC dX12_tells_70 (by decide) ?_
          refine aw_goto (tgt := 88) hC dX12_tells_71 (by decide) ?_
          refine aw_putI hC dX12_tells_88 aF_X12_166 rfl rfl (tg_44 hT) ?_
          refine aw_aload_n hC dX12_tells_91 rfl ?_
          refine aw_getI hC dX12_tells_92 aF_X12_166 rfl (tg_44 hT) ?_
          rw [a_u_self (f := I) (o := 44) (k := 61) (v := 2)]
          refine aw_if_le (tgt := 100) hC dX12_tells_95 (by decide) (fun h30 => absurd h30 (by decide)) (fun _ => ?_)
          show AW X 0 0 98 [some (.ref 44), some (.int fl), some (.int pk), some (.int its), some (.int f), some (.int a), some (.int b), some (.int 1)] [] T (a_u I 44 61 2) J R
          refine aw_iconst (v := 0) hC dX12_tells_98 (by decide) ?_
          exact aw_ireturn hC hq rfl dX12_tells_99 a_le a_le (aPure_e (by clear hC hq; (try simp only [bI_e0, bI_n0, decide_eq_false_iff_not, decide_eq_true_eq, Classical.not_not] at *) <;> first | grind (splits := 30) [nI_p1, a_u_2] | (exfalso; (simp only [i_le, i_lt, i_eq, Int32.reduceToInt] at *); omega)) (by clear hC hq; (try simp only [bI_e0, bI_n0, decide_eq_false_iff_not, decide_eq_true_eq, Classical.not_not] at *) <;> first | grind (splits := 30) [nI_p1, a_u_2] | (exfalso; (simp only [i_le, i_lt, i_eq, Int32.reduceToInt] at *); omega)) rfl rfl)
      · show AW X 0 0 34 [some (.ref 44), some (.int fl), some (.int pk), some (.int its), some (.int f), some (.int a), some (.int b), none] [] T I J R
        refine aw_iload hC dX12_tells_34 rfl ?_
        refine kX12_173 hC rfl (m_X12_isField a) dX12_tells_36 rfl a_le a_le a_le a_le a_le rfl aPure_x (aPure_k ?_)
        show AW X 0 0 39 [some (.ref 44), some (.int fl), some (.int pk), some (.int its), some (.int f), some (.int a), some (.int b), none] [.int (bI (decide (0 ≤ a ∧ a ≤ 9)))] T I J R
        refine aw_if_eq (tgt := 46) hC dX12_tells_39 (by decide) (fun h31 => ?_) (fun h31 => ?_)
        · show AW X 0 0 46 [some (.ref 44), some (.int fl), some (.int pk), some (.int its), some (.int f), some (.int a), some (.int b), none] [] T I J R
          refine aw_iconst (v := 0) hC dX12_tells_46 (by decide) ?_
          refine aw_istore (L2 := [some (.ref 44), some (.int fl), some (.int pk), some (.int its), some (.int f), some (.int a), some (.int b), some (.int 0)]) hC dX12_tells_47 (by decide) rfl ?_
          refine aw_aload_n hC dX12_tells_49 rfl ?_
          refine aw_iload hC dX12_tells_50 rfl ?_
          refine aw_if_ne (tgt := 59) hC dX12_tells_52 (by decide) (fun h32 => absurd h32 (by decide)) (fun _ => ?_)
          show AW X 0 0 55 [some (.ref 44), some (.int fl), some (.int pk), some (.int its), some (.int f), some (.int a), some (.int b), some (.int 0)] [.ref 44] T I J R
          refine aw_iconst (v := 1) hC dX12_tells_55 (by decide) ?_
          refine aw_goto (tgt := 88) hC dX12_tells_56 (by decide) ?_
          refine aw_putI hC dX12_tells_88 aF_X12_166 rfl rfl (tg_44 hT) ?_
          refine aw_aload_n hC dX12_tells_91 rfl ?_
          refine aw_getI hC dX12_tells_92 aF_X12_166 rfl (tg_44 hT) ?_
          rw [a_u_self (f := I) (o := 44) (k := 61) (v := 1)]
          refine aw_if_le (tgt := 100) hC dX12_tells_95 (by decide) (fun h33 => absurd h33 (by decide)) (fun _ => ?_)
          show AW X 0 0 98 [some (.ref 44), some (.int fl), some (.int pk), some (.int its), some (.int f), some (.int a), some (.int b), some (.int 0)] [] T (a_u I 44 61 1) J R
          refine aw_iconst (v := 0) hC dX12_tells_98 (by decide) ?_
          exact aw_ireturn hC hq rfl dX12_tells_99 a_le a_le (aPure_e (by clear hC hq; (try simp only [bI_e0, bI_n0, decide_eq_false_iff_not, decide_eq_true_eq, Classical.not_not] at *) <;> first | grind (splits := 30) [nI_p1, a_u_2] | (exfalso; (simp only [i_le, i_lt, i_eq, Int32.reduceToInt] at *); omega)) (by clear hC hq; (try simp only [bI_e0, bI_n0, decide_eq_false_iff_not, decide_eq_true_eq, Classical.not_not] at *) <;> first | grind (splits := 30) [nI_p1, a_u_2] | (exfalso; (simp only [i_le, i_lt, i_eq, Int32.reduceToInt] at *); omega)) rfl rfl)
        · show AW X 0 0 42 [some (.ref 44), some (.int fl), some (.int pk), some (.int its), some (.int f), some (.int a), some (.int b), none] [] T I J R
          refine aw_iconst (v := 1) hC dX12_tells_42 (by decide) ?_
          refine aw_goto (tgt := 47) hC dX12_tells_43 (by decide) ?_
          refine aw_istore (L2 := [some (.ref 44), some (.int fl), some (.int pk), some (.int its), some (.int f), some (.int a), some (.int b), some (.int 1)]) hC dX12_tells_47 (by decide) rfl ?_
          refine aw_aload_n hC dX12_tells_49 rfl ?_
          refine aw_iload hC dX12_tells_50 rfl ?_
          refine aw_if_ne (tgt := 59) hC dX12_tells_52 (by decide) (fun _ => ?_) (fun h34 => absurd h34 (by decide))
          show AW X 0 0 59 [some (.ref 44), some (.int fl), some (.int pk), some (.int its), some (.int f), some (.int a), some (.int b), some (.int 1)] [.ref 44] T I J R
          refine aw_iload_n hC dX12_tells_59 rfl ?_
          refine aw_iload hC dX12_tells_60 rfl ?_
          refine aw_iload hC dX12_tells_62 rfl ?_
          refine kX12_180 hC rfl (m_X12_isRange its a b) dX12_tells_64 rfl a_le a_le a_le a_le a_le rfl aPure_x (aPure_k ?_)
          show AW X 0 0 67 [some (.ref 44), some (.int fl), some (.int pk), some (.int its), some (.int f), some (.int a), some (.int b), some (.int 1)] [.int (bI (decide (mRange its a b))), .ref 44] T I J R
          refine aw_if_ne (tgt := 74) hC dX12_tells_67 (by decide) (fun h35 => ?_) (fun h35 => ?_)
          · show AW X 0 0 74 [some (.ref 44), some (.int fl), some (.int pk), some (.int its), some (.int f), some (.int a), some (.int b), some (.int 1)] [.ref 44] T I J R
            refine aw_aload_n hC dX12_tells_74 rfl ?_
            refine aw_getI hC dX12_tells_75 aF_X12_183 rfl (tg_44 hT) ?_
            rw [hn]
            refine aw_bipush (v := 30) hC dX12_tells_78 (by decide) ?_
            refine aw_icmp_ne (tgt := 87) hC dX12_tells_80 (by decide) (fun h36 => ?_) (fun h36 => ?_)
            · show AW X 0 0 87 [some (.ref 44), some (.int fl), some (.int pk), some (.int its), some (.int f), some (.int a), some (.int b), some (.int 1)] [.ref 44] T I J R
              have h36n : ¬ n = 30 := fun q9 => h36 ((nI_eq (a := n) (b := 30) (by omega) (by omega)).mpr q9)
              refine aw_iconst (v := 0) hC dX12_tells_87 (by decide) ?_
              refine aw_putI hC dX12_tells_88 aF_X12_166 rfl rfl (tg_44 hT) ?_
              refine aw_aload_n hC dX12_tells_91 rfl ?_
              refine aw_getI hC dX12_tells_92 aF_X12_166 rfl (tg_44 hT) ?_
              rw [a_u_self (f := I) (o := 44) (k := 61) (v := 0)]
              refine aw_if_le (tgt := 100) hC dX12_tells_95 (by decide) (fun _ => ?_) (fun h37 => absurd h37 (by decide))
              show AW X 0 0 100 [some (.ref 44), some (.int fl), some (.int pk), some (.int its), some (.int f), some (.int a), some (.int b), some (.int 1)] [] T (a_u I 44 61 0) J R
              refine aw_aload_n hC dX12_tells_100 rfl ?_
              refine aw_getR hC dX12_tells_101 aF_X12_7 rfl (tg_44 hT) (pr_44_1 hR) ?_
              refine aw_aload_n hC dX12_tells_104 rfl ?_
              refine aw_getI hC dX12_tells_105 aF_X12_183 rfl (tg_44 hT) ?_
              rw [a_u_ne (f := I) (o := 44) (k := 61) (a := 44) (b := 0) (v := 0) (fun q => absurd q.2 (by decide))]
              rw [hn]
              refine aw_iload_n hC dX12_tells_108 rfl ?_
              refine aw_iastore_k (j := n) hC dX12_tells_109 (tg_45 hT) (nI_clamp (by omega)) (vp_in_nI (by omega) (by decide)) ?_
              refine aw_aload_n hC dX12_tells_110 rfl ?_
              refine aw_getR hC dX12_tells_111 aF_X12_13 rfl (tg_44 hT) (pr_44_2 hR) ?_
              refine aw_aload_n hC dX12_tells_114 rfl ?_
              refine aw_getI hC dX12_tells_115 aF_X12_183 rfl (tg_44 hT) ?_
              rw [a_u_ne (f := a_u I 44 61 0) (o := 45) (k := n) (a := 44) (b := 0) (v := its) (fun q => absurd q.1 (by decide))]
              rw [a_u_ne (f := I) (o := 44) (k := 61) (a := 44) (b := 0) (v := 0) (fun q => absurd q.2 (by decide))]
              rw [hn]
              refine aw_iload hC dX12_tells_118 rfl ?_
              refine aw_iastore_k (j := n) hC dX12_tells_120 (tg_46 hT) (nI_clamp (by omega)) (vp_in_nI (by omega) (by decide)) ?_
              refine aw_aload_n hC dX12_tells_121 rfl ?_
              refine aw_getR hC dX12_tells_122 aF_X12_16 rfl (tg_44 hT) (pr_44_3 hR) ?_
              refine aw_aload_n hC dX12_tells_125 rfl ?_
              refine aw_getI hC dX12_tells_126 aF_X12_183 rfl (tg_44 hT) ?_
              rw [a_u_ne (f := a_u (a_u I 44 61 0) 45 n its) (o := 46) (k := n) (a := 44) (b := 0) (v := f) (fun q => absurd q.1 (by decide))]
              rw [a_u_ne (f := a_u I 44 61 0) (o := 45) (k := n) (a := 44) (b := 0) (v := its) (fun q => absurd q.1 (by decide))]
              rw [a_u_ne (f := I) (o := 44) (k := 61) (a := 44) (b := 0) (v := 0) (fun q => absurd q.2 (by decide))]
              rw [hn]
              refine aw_iload hC dX12_tells_129 rfl ?_
              refine aw_iastore_k (j := n) hC dX12_tells_131 (tg_47 hT) (nI_clamp (by omega)) (vp_in_nI (by omega) (by decide)) ?_
              refine aw_aload_n hC dX12_tells_132 rfl ?_
              refine aw_getR hC dX12_tells_133 aF_X12_19 rfl (tg_44 hT) (pr_44_4 hR) ?_
              refine aw_aload_n hC dX12_tells_136 rfl ?_
              refine aw_getI hC dX12_tells_137 aF_X12_183 rfl (tg_44 hT) ?_
              rw [a_u_ne (f := a_u (a_u (a_u I 44 61 0) 45 n its) 46 n f) (o := 47) (k := n) (a := 44) (b := 0) (v := a) (fun q => absurd q.1 (by decide))]
              rw [a_u_ne (f := a_u (a_u I 44 61 0) 45 n its) (o := 46) (k := n) (a := 44) (b := 0) (v := f) (fun q => absurd q.1 (by decide))]
              rw [a_u_ne (f := a_u I 44 61 0) (o := 45) (k := n) (a := 44) (b := 0) (v := its) (fun q => absurd q.1 (by decide))]
              rw [a_u_ne (f := I) (o := 44) (k := 61) (a := 44) (b := 0) (v := 0) (fun q => absurd q.2 (by decide))]
              rw [hn]
              refine aw_iload hC dX12_tells_140 rfl ?_
              refine aw_iastore_k (j := n) hC dX12_tells_142 (tg_48 hT) (nI_clamp (by omega)) (vp_in_nI (by omega) (by decide)) ?_
              refine aw_aload_n hC dX12_tells_143 rfl ?_
              refine aw_getR hC dX12_tells_144 aF_X12_22 rfl (tg_44 hT) (pr_44_5 hR) ?_
              refine aw_aload_n hC dX12_tells_147 rfl ?_
              refine aw_getI hC dX12_tells_148 aF_X12_183 rfl (tg_44 hT) ?_
              rw [a_u_ne (f := a_u (a_u (a_u (a_u I 44 61 0) 45 n its) 46 n f) 47 n a) (o := 48) (k := n) (a := 44) (b := 0) (v := b) (fun q => absurd q.1 (by decide))]
              rw [a_u_ne (f := a_u (a_u (a_u I 44 61 0) 45 n its) 46 n f) (o := 47) (k := n) (a := 44) (b := 0) (v := a) (fun q => absurd q.1 (by decide))]
              rw [a_u_ne (f := a_u (a_u I 44 61 0) 45 n its) (o := 46) (k := n) (a := 44) (b := 0) (v := f) (fun q => absurd q.1 (by decide))]
              rw [a_u_ne (f := a_u I 44 61 0) (o := 45) (k := n) (a := 44) (b := 0) (v := its) (fun q => absurd q.1 (by decide))]
              rw [a_u_ne (f := I) (o := 44) (k := 61) (a := 44) (b := 0) (v := 0) (fun q => absurd q.2 (by decide))]
              rw [hn]
              refine aw_iload_n hC dX12_tells_151 rfl ?_
              refine aw_iastore_k (j := n) hC dX12_tells_152 (tg_49 hT) (nI_clamp (by omega)) (vp_in_nI (by omega) (by decide)) ?_
              refine aw_aload_n hC dX12_tells_153 rfl ?_
              refine aw_getR hC dX12_tells_154 aF_X12_25 rfl (tg_44 hT) (pr_44_6 hR) ?_
              refine aw_aload_n hC dX12_tells_157 rfl ?_
              refine aw_getI hC dX12_tells_158 aF_X12_183 rfl (tg_44 hT) ?_
              rw [a_u_ne (f := a_u (a_u (a_u (a_u (a_u I 44 61 0) 45 n its) 46 n f) 47 n a) 48 n b) (o := 49) (k := n) (a := 44) (b := 0) (v := fl) (fun q => absurd q.1 (by decide))]
              rw [a_u_ne (f := a_u (a_u (a_u (a_u I 44 61 0) 45 n its) 46 n f) 47 n a) (o := 48) (k := n) (a := 44) (b := 0) (v := b) (fun q => absurd q.1 (by decide))]
              rw [a_u_ne (f := a_u (a_u (a_u I 44 61 0) 45 n its) 46 n f) (o := 47) (k := n) (a := 44) (b := 0) (v := a) (fun q => absurd q.1 (by decide))]
              rw [a_u_ne (f := a_u (a_u I 44 61 0) 45 n its) (o := 46) (k := n) (a := 44) (b := 0) (v := f) (fun q => absurd q.1 (by decide))]
              rw [a_u_ne (f := a_u I 44 61 0) (o := 45) (k := n) (a := 44) (b := 0) (v := its) (fun q => absurd q.1 (by decide))]
              rw [a_u_ne (f := I) (o := 44) (k := 61) (a := 44) (b := 0) (v := 0) (fun q => absurd q.2 (by decide))]
              rw [hn]
              refine aw_iload_n hC dX12_tells_161 rfl ?_
              refine aw_iastore_k (j := n) hC dX12_tells_162 (tg_50 hT) (nI_clamp (by omega)) (vp_in_nI (by omega) (by decide)) ?_
              refine aw_aload_n hC dX12_tells_163 rfl ?_
              refine aw_dup hC dX12_tells_164 rfl ?_
              refine aw_getI hC dX12_tells_165 aF_X12_183 rfl (tg_44 hT) ?_
              rw [a_u_ne (f := a_u (a_u (a_u (a_u (a_u (a_u I 44 61 0) 45 n its) 46 n f) 47 n a) 48 n b) 49 n fl) (o := 50) (k := n) (a := 44) (b := 0) (v := pk) (fun q => absurd q.1 (by decide))]
              rw [a_u_ne (f := a_u (a_u (a_u (a_u (a_u I 44 61 0) 45 n its) 46 n f) 47 n a) 48 n b) (o := 49) (k := n) (a := 44) (b := 0) (v := fl) (fun q => absurd q.1 (by decide))]
              rw [a_u_ne (f := a_u (a_u (a_u (a_u I 44 61 0) 45 n its) 46 n f) 47 n a) (o := 48) (k := n) (a := 44) (b := 0) (v := b) (fun q => absurd q.1 (by decide))]
              rw [a_u_ne (f := a_u (a_u (a_u I 44 61 0) 45 n its) 46 n f) (o := 47) (k := n) (a := 44) (b := 0) (v := a) (fun q => absurd q.1 (by decide))]
              rw [a_u_ne (f := a_u (a_u I 44 61 0) 45 n its) (o := 46) (k := n) (a := 44) (b := 0) (v := f) (fun q => absurd q.1 (by decide))]
              rw [a_u_ne (f := a_u I 44 61 0) (o := 45) (k := n) (a := 44) (b := 0) (v := its) (fun q => absurd q.1 (by decide))]
              rw [a_u_ne (f := I) (o := 44) (k := 61) (a := 44) (b := 0) (v := 0) (fun q => absurd q.2 (by decide))]
              rw [hn]
              refine aw_iconst (v := 1) hC dX12_tells_168 (by decide) ?_
              refine aw_iadd hC dX12_tells_169 ?_
              refine aw_putI hC dX12_tells_170 aF_X12_183 rfl rfl (tg_44 hT) ?_
              refine aw_aload_n hC dX12_tells_173 rfl ?_
              refine aw_getI hC dX12_tells_174 aF_X12_183 rfl (tg_44 hT) ?_
              rw [a_u_self (f := a_u (a_u (a_u (a_u (a_u (a_u (a_u I 44 61 0) 45 n its) 46 n f) 47 n a) 48 n b) 49 n fl) 50 n pk) (o := 44) (k := 0) (v := (nI n) + 1)]
              refine aw_iconst (v := 1) hC dX12_tells_177 (by decide) ?_
              refine aw_isub hC dX12_tells_178 ?_
              exact aw_ireturn hC hq rfl dX12_tells_179 a_le a_le (aPure_e (by clear hC hq; (try simp only [bI_e0, bI_n0, decide_eq_false_iff_not, decide_eq_true_eq, Classical.not_not] at *) <;> first | grind (splits := 30) [nI_p1, a_u_2] | (exfalso; (simp only [i_le, i_lt, i_eq, Int32.reduceToInt] at *); omega)) (by clear hC hq; (try simp only [bI_e0, bI_n0, decide_eq_false_iff_not, decide_eq_true_eq, Classical.not_not] at *) <;> first | grind (splits := 30) [nI_p1, a_u_2] | (exfalso; (simp only [i_le, i_lt, i_eq, Int32.reduceToInt] at *); omega)) rfl rfl)
            · show AW X 0 0 83 [some (.ref 44), some (.int fl), some (.int pk), some (.int its), some (.int f), some (.int a), some (.int b), some (.int 1)] [.ref 44] T I J R
              have h36n : n = 30 := (nI_eq (a := n) (b := 30) (by omega) (by omega)).mp h36
              refine aw_iconst (v := 3) hC dX12_tells_83 (by decide) ?_
              refine aw_goto (tgt := 88) hC dX12_tells_84 (by decide) ?_
              refine aw_putI hC dX12_tells_88 aF_X12_166 rfl rfl (tg_44 hT) ?_
              refine aw_aload_n hC dX12_tells_91 rfl ?_
              refine aw_getI hC dX12_tells_92 aF_X12_166 rfl (tg_44 hT) ?_
              rw [a_u_self (f := I) (o := 44) (k := 61) (v := 3)]
              refine aw_if_le (tgt := 100) hC dX12_tells_95 (by decide) (fun h38 => absurd h38 (by decide)) (fun _ => ?_)
              show AW X 0 0 98 [some (.ref 44), some (.int fl), some (.int pk), some (.int its), some (.int f), some (.int a), some (.int b), some (.int 1)] [] T (a_u I 44 61 3) J R
              refine aw_iconst (v := 0) hC dX12_tells_98 (by decide) ?_
              exact aw_ireturn hC hq rfl dX12_tells_99 a_le a_le (aPure_e (by clear hC hq; (try simp only [bI_e0, bI_n0, decide_eq_false_iff_not, decide_eq_true_eq, Classical.not_not] at *) <;> first | grind (splits := 30) [nI_p1, a_u_2] | (exfalso; (simp only [i_le, i_lt, i_eq, Int32.reduceToInt] at *); omega)) (by clear hC hq; (try simp only [bI_e0, bI_n0, decide_eq_false_iff_not, decide_eq_true_eq, Classical.not_not] at *) <;> first | grind (splits := 30) [nI_p1, a_u_2] | (exfalso; (simp only [i_le, i_lt, i_eq, Int32.reduceToInt] at *); omega)) rfl rfl)
          · show AW X 0 0 70 [some (.ref 44), some (.int fl), some (.int pk), some (.int its), some (.int f), some (.int a), some (.int b), some (.int 1)] [.ref 44] T I J R
            refine aw_iconst (v := 2) hC dX12_tells_70 (by decide) ?_
            refine aw_goto (tgt := 88) hC dX12_tells_71 (by decide) ?_
            refine aw_putI hC dX12_tells_88 aF_X12_166 rfl rfl (tg_44 hT) ?_
            refine aw_aload_n hC dX12_tells_91 rfl ?_
            refine aw_getI hC dX12_tells_92 aF_X12_166 rfl (tg_44 hT) ?_
            rw [a_u_self (f := I) (o := 44) (k := 61) (v := 2)]
            refine aw_if_le (tgt := 100) hC dX12_tells_95 (by decide) (fun h39 => absurd h39 (by decide)) (fun _ => ?_)
            show AW X 0 0 98 [some (.ref 44), some (.int fl), some (.int pk), some (.int its), some (.int f), some (.int a), some (.int b), some (.int 1)] [] T (a_u I 44 61 2) J R
            refine aw_iconst (v := 0) hC dX12_tells_98 (by decide) ?_
            exact aw_ireturn hC hq rfl dX12_tells_99 a_le a_le (aPure_e (by clear hC hq; (try simp only [bI_e0, bI_n0, decide_eq_false_iff_not, decide_eq_true_eq, Classical.not_not] at *) <;> first | grind (splits := 30) [nI_p1, a_u_2] | (exfalso; (simp only [i_le, i_lt, i_eq, Int32.reduceToInt] at *); omega)) (by clear hC hq; (try simp only [bI_e0, bI_n0, decide_eq_false_iff_not, decide_eq_true_eq, Classical.not_not] at *) <;> first | grind (splits := 30) [nI_p1, a_u_2] | (exfalso; (simp only [i_le, i_lt, i_eq, Int32.reduceToInt] at *); omega)) rfl rfl)
set_option maxRecDepth 100000 in
theorem m_X12_tell {T : List aT} {I : aI} {J : aJ} {R : aR} (hT : aPT T) (hR : aPR R) (x its f a b : Int32) {n : Nat} (hn : I 44 0 = nI n) (hn30 : n ≤ 30) : MX12_tell 0 0 [.ref 44, .int x, .int its, .int f, .int a, .int b] T I J R (aPure (some (.int (if (0 ≤ x ∧ x ≤ 5) ∧ mCode its f a b n = 0 then nI n else 0))) T (if 0 ≤ x ∧ x ≤ 5 then (if mCode its f a b n = 0 then mPut I n x (-1) its f a b else a_u I 44 61 (mCode its f a b n)) else a_u I 44 61 1) J R) := by
  refine a_met (by decide +kernel) a_le (fun X hC hq => ?_)
  show AW X 0 0 0 [some (.ref 44), some (.int x), some (.int its), some (.int f), some (.int a), some (.int b)] [] T I J R
  refine aw_aload_n hC dX12_tell_0 rfl ?_
  refine aw_iload_n hC dX12_tell_1 rfl ?_
  refine aw_iconst (v := 0) hC dX12_tell_2 (by decide) ?_
  refine aw_iconst (v := 5) hC dX12_tell_3 (by decide) ?_
  refine kX12_169 hC rfl (m_X12_isIn x (0 : Int32) (5 : Int32)) dX12_tell_4 rfl a_le a_le a_le a_le a_le rfl aPure_x (aPure_k ?_)
  show AW X 0 0 7 [some (.ref 44), some (.int x), some (.int its), some (.int f), some (.int a), some (.int b)] [.int (bI (decide ((0 : Int32) ≤ x ∧ x ≤ (5 : Int32)))), .ref 44] T I J R
  refine aw_if_eq (tgt := 14) hC dX12_tell_7 (by decide) (fun h1 => ?_) (fun h1 => ?_)
  · show AW X 0 0 14 [some (.ref 44), some (.int x), some (.int its), some (.int f), some (.int a), some (.int b)] [.ref 44] T I J R
    refine aw_iconst (v := 1) hC dX12_tell_14 (by decide) ?_
    refine aw_putI hC dX12_tell_15 aF_X12_166 rfl rfl (tg_44 hT) ?_
    refine aw_aload_n hC dX12_tell_18 rfl ?_
    refine aw_getI hC dX12_tell_19 aF_X12_166 rfl (tg_44 hT) ?_
    rw [a_u_self (f := I) (o := 44) (k := 61) (v := 1)]
    refine aw_if_le (tgt := 29) hC dX12_tell_22 (by decide) (fun h2 => absurd h2 (by decide)) (fun _ => ?_)
    show AW X 0 0 25 [some (.ref 44), some (.int x), some (.int its), some (.int f), some (.int a), some (.int b)] [] T (a_u I 44 61 1) J R
    refine aw_iconst (v := 0) hC dX12_tell_25 (by decide) ?_
    refine aw_goto (tgt := 41) hC dX12_tell_26 (by decide) ?_
    exact aw_ireturn hC hq rfl dX12_tell_41 a_le a_le (aPure_e (by clear hC hq; (try simp only [bI_e0, bI_n0, decide_eq_false_iff_not, decide_eq_true_eq, Classical.not_not] at *) <;> first | grind (splits := 30) [nI_p1, a_u_2] | (exfalso; (simp only [i_le, i_lt, i_eq, Int32.reduceToInt] at *); omega)) (by clear hC hq; (try simp only [bI_e0, bI_n0, decide_eq_false_iff_not, decide_eq_true_eq, Classical.not_not] at *) <;> first | grind (splits := 30) [nI_p1, a_u_2] | (exfalso; (simp only [i_le, i_lt, i_eq, Int32.reduceToInt] at *); omega)) rfl rfl)
  · show AW X 0 0 10 [some (.ref 44), some (.int x), some (.int its), some (.int f), some (.int a), some (.int b)] [.ref 44] T I J R
    refine aw_iconst (v := 0) hC dX12_tell_10 (by decide) ?_
    refine aw_goto (tgt := 15) hC dX12_tell_11 (by decide) ?_
    refine aw_putI hC dX12_tell_15 aF_X12_166 rfl rfl (tg_44 hT) ?_
    refine aw_aload_n hC dX12_tell_18 rfl ?_
    refine aw_getI hC dX12_tell_19 aF_X12_166 rfl (tg_44 hT) ?_
    rw [a_u_self (f := I) (o := 44) (k := 61) (v := 0)]
    refine aw_if_le (tgt := 29) hC dX12_tell_22 (by decide) (fun _ => ?_) (fun h3 => absurd h3 (by decide))
    show AW X 0 0 29 [some (.ref 44), some (.int x), some (.int its), some (.int f), some (.int a), some (.int b)] [] T (a_u I 44 61 0) J R
    refine aw_aload_n hC dX12_tell_29 rfl ?_
    refine aw_iload_n hC dX12_tell_30 rfl ?_
    refine aw_iconst (v := (-1)) hC dX12_tell_31 (by decide) ?_
    refine aw_iload_n hC dX12_tell_32 rfl ?_
    refine aw_iload_n hC dX12_tell_33 rfl ?_
    refine aw_iload hC dX12_tell_34 rfl ?_
    refine aw_iload hC dX12_tell_36 rfl ?_
    by_cases hc4 : mCode its f a b n = 0
    · have hp5 := m_X12_tells (I := (a_u I 44 61 0)) (J := J) hT hR x ((-1) : Int32) its f a b (n := n) (by rw [a_u_ne (fun q => absurd q.2 (by decide))]; exact hn) hn30
      simp only [if_pos hc4] at hp5
      refine kX12_186 hC rfl hp5 dX12_tell_38 (tg_44 hT) rfl a_le a_le a_le a_le a_le rfl aPure_x (aPure_k ?_)
      show AW X 0 0 41 [some (.ref 44), some (.int x), some (.int its), some (.int f), some (.int a), some (.int b)] [.int (nI n)] T (mPut (a_u I 44 61 0) n x ((-1) : Int32) its f a b) J R
      exact aw_ireturn hC hq rfl dX12_tell_41 a_le a_le (aPure_e (by clear hC hq; (try simp only [bI_e0, bI_n0, decide_eq_false_iff_not, decide_eq_true_eq, Classical.not_not] at *) <;> first | grind (splits := 30) [nI_p1, a_u_2] | (exfalso; (simp only [i_le, i_lt, i_eq, Int32.reduceToInt] at *); omega)) (by clear hC hq; (try simp only [bI_e0, bI_n0, decide_eq_false_iff_not, decide_eq_true_eq, Classical.not_not] at *) <;> first | grind (splits := 30) [nI_p1, a_u_2] | (exfalso; (simp only [i_le, i_lt, i_eq, Int32.reduceToInt] at *); omega)) rfl rfl)
    · have hp6 := m_X12_tells (I := (a_u I 44 61 0)) (J := J) hT hR x ((-1) : Int32) its f a b (n := n) (by rw [a_u_ne (fun q => absurd q.2 (by decide))]; exact hn) hn30
      simp only [if_neg hc4] at hp6
      refine kX12_186 hC rfl hp6 dX12_tell_38 (tg_44 hT) rfl a_le a_le a_le a_le a_le rfl aPure_x (aPure_k ?_)
      show AW X 0 0 41 [some (.ref 44), some (.int x), some (.int its), some (.int f), some (.int a), some (.int b)] [.int 0] T (a_u (a_u I 44 61 0) 44 61 (mCode its f a b n)) J R
      exact aw_ireturn hC hq rfl dX12_tell_41 a_le a_le (aPure_e (by clear hC hq; (try simp only [bI_e0, bI_n0, decide_eq_false_iff_not, decide_eq_true_eq, Classical.not_not] at *) <;> first | grind (splits := 30) [nI_p1, a_u_2] | (exfalso; (simp only [i_le, i_lt, i_eq, Int32.reduceToInt] at *); omega)) (by clear hC hq; (try simp only [bI_e0, bI_n0, decide_eq_false_iff_not, decide_eq_true_eq, Classical.not_not] at *) <;> first | grind (splits := 30) [nI_p1, a_u_2] | (exfalso; (simp only [i_le, i_lt, i_eq, Int32.reduceToInt] at *); omega)) rfl rfl)
set_option maxRecDepth 100000 in
theorem m_X12_draft {T : List aT} {I : aI} {J : aJ} {R : aR} (hT : aPT T) (hR : aPR R) (x its f a b : Int32) {n : Nat} (hn : I 44 0 = nI n) (hn30 : n ≤ 30) : MX12_draft 0 0 [.ref 44, .int x, .int its, .int f, .int a, .int b] T I J R (aPure (some (.int (if (0 ≤ x ∧ x ≤ 2) ∧ mCode its f a b n = 0 then nI n else 0))) T (if 0 ≤ x ∧ x ≤ 2 then (if mCode its f a b n = 0 then mPut I n (-1) x its f a b else a_u I 44 61 (mCode its f a b n)) else a_u I 44 61 1) J R) := by
  refine a_met (by decide +kernel) a_le (fun X hC hq => ?_)
  show AW X 0 0 0 [some (.ref 44), some (.int x), some (.int its), some (.int f), some (.int a), some (.int b)] [] T I J R
  refine aw_aload_n hC dX12_draft_0 rfl ?_
  refine aw_iload_n hC dX12_draft_1 rfl ?_
  refine aw_iconst (v := 0) hC dX12_draft_2 (by decide) ?_
  refine aw_iconst (v := 2) hC dX12_draft_3 (by decide) ?_
  refine kX12_169 hC rfl (m_X12_isIn x (0 : Int32) (2 : Int32)) dX12_draft_4 rfl a_le a_le a_le a_le a_le rfl aPure_x (aPure_k ?_)
  show AW X 0 0 7 [some (.ref 44), some (.int x), some (.int its), some (.int f), some (.int a), some (.int b)] [.int (bI (decide ((0 : Int32) ≤ x ∧ x ≤ (2 : Int32)))), .ref 44] T I J R
  refine aw_if_eq (tgt := 14) hC dX12_draft_7 (by decide) (fun h1 => ?_) (fun h1 => ?_)
  · show AW X 0 0 14 [some (.ref 44), some (.int x), some (.int its), some (.int f), some (.int a), some (.int b)] [.ref 44] T I J R
    refine aw_iconst (v := 1) hC dX12_draft_14 (by decide) ?_
    refine aw_putI hC dX12_draft_15 aF_X12_166 rfl rfl (tg_44 hT) ?_
    refine aw_aload_n hC dX12_draft_18 rfl ?_
    refine aw_getI hC dX12_draft_19 aF_X12_166 rfl (tg_44 hT) ?_
    rw [a_u_self (f := I) (o := 44) (k := 61) (v := 1)]
    refine aw_if_le (tgt := 29) hC dX12_draft_22 (by decide) (fun h2 => absurd h2 (by decide)) (fun _ => ?_)
    show AW X 0 0 25 [some (.ref 44), some (.int x), some (.int its), some (.int f), some (.int a), some (.int b)] [] T (a_u I 44 61 1) J R
    refine aw_iconst (v := 0) hC dX12_draft_25 (by decide) ?_
    refine aw_goto (tgt := 41) hC dX12_draft_26 (by decide) ?_
    exact aw_ireturn hC hq rfl dX12_draft_41 a_le a_le (aPure_e (by clear hC hq; (try simp only [bI_e0, bI_n0, decide_eq_false_iff_not, decide_eq_true_eq, Classical.not_not] at *) <;> first | grind (splits := 30) [nI_p1, a_u_2] | (exfalso; (simp only [i_le, i_lt, i_eq, Int32.reduceToInt] at *); omega)) (by clear hC hq; (try simp only [bI_e0, bI_n0, decide_eq_false_iff_not, decide_eq_true_eq, Classical.not_not] at *) <;> first | grind (splits := 30) [nI_p1, a_u_2] | (exfalso; (simp only [i_le, i_lt, i_eq, Int32.reduceToInt] at *); omega)) rfl rfl)
  · show AW X 0 0 10 [some (.ref 44), some (.int x), some (.int its), some (.int f), some (.int a), some (.int b)] [.ref 44] T I J R
    refine aw_iconst (v := 0) hC dX12_draft_10 (by decide) ?_
    refine aw_goto (tgt := 15) hC dX12_draft_11 (by decide) ?_
    refine aw_putI hC dX12_draft_15 aF_X12_166 rfl rfl (tg_44 hT) ?_
    refine aw_aload_n hC dX12_draft_18 rfl ?_
    refine aw_getI hC dX12_draft_19 aF_X12_166 rfl (tg_44 hT) ?_
    rw [a_u_self (f := I) (o := 44) (k := 61) (v := 0)]
    refine aw_if_le (tgt := 29) hC dX12_draft_22 (by decide) (fun _ => ?_) (fun h3 => absurd h3 (by decide))
    show AW X 0 0 29 [some (.ref 44), some (.int x), some (.int its), some (.int f), some (.int a), some (.int b)] [] T (a_u I 44 61 0) J R
    refine aw_aload_n hC dX12_draft_29 rfl ?_
    refine aw_iconst (v := (-1)) hC dX12_draft_30 (by decide) ?_
    refine aw_iload_n hC dX12_draft_31 rfl ?_
    refine aw_iload_n hC dX12_draft_32 rfl ?_
    refine aw_iload_n hC dX12_draft_33 rfl ?_
    refine aw_iload hC dX12_draft_34 rfl ?_
    refine aw_iload hC dX12_draft_36 rfl ?_
    by_cases hc4 : mCode its f a b n = 0
    · have hp5 := m_X12_tells (I := (a_u I 44 61 0)) (J := J) hT hR ((-1) : Int32) x its f a b (n := n) (by rw [a_u_ne (fun q => absurd q.2 (by decide))]; exact hn) hn30
      simp only [if_pos hc4] at hp5
      refine kX12_186 hC rfl hp5 dX12_draft_38 (tg_44 hT) rfl a_le a_le a_le a_le a_le rfl aPure_x (aPure_k ?_)
      show AW X 0 0 41 [some (.ref 44), some (.int x), some (.int its), some (.int f), some (.int a), some (.int b)] [.int (nI n)] T (mPut (a_u I 44 61 0) n ((-1) : Int32) x its f a b) J R
      exact aw_ireturn hC hq rfl dX12_draft_41 a_le a_le (aPure_e (by clear hC hq; (try simp only [bI_e0, bI_n0, decide_eq_false_iff_not, decide_eq_true_eq, Classical.not_not] at *) <;> first | grind (splits := 30) [nI_p1, a_u_2] | (exfalso; (simp only [i_le, i_lt, i_eq, Int32.reduceToInt] at *); omega)) (by clear hC hq; (try simp only [bI_e0, bI_n0, decide_eq_false_iff_not, decide_eq_true_eq, Classical.not_not] at *) <;> first | grind (splits := 30) [nI_p1, a_u_2] | (exfalso; (simp only [i_le, i_lt, i_eq, Int32.reduceToInt] at *); omega)) rfl rfl)
    · have hp6 := m_X12_tells (I := (a_u I 44 61 0)) (J := J) hT hR ((-1) : Int32) x its f a b (n := n) (by rw [a_u_ne (fun q => absurd q.2 (by decide))]; exact hn) hn30
      simp only [if_neg hc4] at hp6
      refine kX12_186 hC rfl hp6 dX12_draft_38 (tg_44 hT) rfl a_le a_le a_le a_le a_le rfl aPure_x (aPure_k ?_)
      show AW X 0 0 41 [some (.ref 44), some (.int x), some (.int its), some (.int f), some (.int a), some (.int b)] [.int 0] T (a_u (a_u I 44 61 0) 44 61 (mCode its f a b n)) J R
      exact aw_ireturn hC hq rfl dX12_draft_41 a_le a_le (aPure_e (by clear hC hq; (try simp only [bI_e0, bI_n0, decide_eq_false_iff_not, decide_eq_true_eq, Classical.not_not] at *) <;> first | grind (splits := 30) [nI_p1, a_u_2] | (exfalso; (simp only [i_le, i_lt, i_eq, Int32.reduceToInt] at *); omega)) (by clear hC hq; (try simp only [bI_e0, bI_n0, decide_eq_false_iff_not, decide_eq_true_eq, Classical.not_not] at *) <;> first | grind (splits := 30) [nI_p1, a_u_2] | (exfalso; (simp only [i_le, i_lt, i_eq, Int32.reduceToInt] at *); omega)) rfl rfl)
set_option maxRecDepth 100000 in
theorem m_X12_isUsed {T : List aT} {I : aI} {J : aJ} {R : aR} (hT : aPT T) (hR : aPR R) (x : Int32) {g : Nat} (hg : I 44 20 = nI g) (hg9 : g ≤ 4) {r : Nat} (hr : I 44 25 = nI r) (hr9 : r ≤ 60) : MX12_isUsed 0 0 [.ref 44, .int x] T I J R (aPure (some (.int (bI (anyB (fun j => decide (I 62 j = x)) g || anyB (fun j => decide (I 66 j = x)) r)))) T I J R) := by
  refine a_met (by decide +kernel) a_le (fun X hC hq => ?_)
  show AW X 0 0 0 [some (.ref 44), some (.int x), none, none] [] T I J R
  refine aw_iconst (v := 0) hC dX12_isUsed_0 (by decide) ?_
  refine aw_istore_n (L2 := [some (.ref 44), some (.int x), some (.int 0), none]) hC dX12_isUsed_1 rfl (by decide) rfl ?_
  refine aw_iconst (v := 0) hC dX12_isUsed_2 (by decide) ?_
  refine aw_istore_n (L2 := [some (.ref 44), some (.int x), some (.int 0), some (.int 0)]) hC dX12_isUsed_3 rfl (by decide) rfl ?_
  have loop : ∀ k, k ≤ g → ∀ acc : Bool, acc = anyB (fun j => decide (I 62 j = x)) k → AW X 0 0 4 [some (.ref 44), some (.int x), some (.int (bI acc)), some (.int (nI k))] [] T I J R := by
    refine a_down g (fun k hkloop ihloop => ?_)
    intro acc hacc
    refine aw_iload_n hC dX12_isUsed_4 rfl ?_
    refine aw_aload_n hC dX12_isUsed_5 rfl ?_
    refine aw_getI hC dX12_isUsed_6 aF_X12_312 rfl (tg_44 hT) ?_
    rw [hg]
    refine aw_icmp_ge (tgt := 36) hC dX12_isUsed_9 (by decide) (fun h1 => ?_) (fun h1 => ?_)
    · show AW X 0 0 36 [some (.ref 44), some (.int x), some (.int (bI acc)), some (.int (nI k))] [] T I J R
      have h1n : g ≤ k := (nI_leI (a := g) (b := k) (by omega) (by omega)).mp h1
      refine aw_iconst (v := 0) hC dX12_isUsed_36 (by decide) ?_
      refine aw_istore_n (L2 := [some (.ref 44), some (.int x), some (.int (bI acc)), some (.int 0)]) hC dX12_isUsed_37 rfl (by decide) rfl ?_
      have e9 : k = g := by omega
      subst e9
      have loop2 : ∀ m, m ≤ r → ∀ ac2 : Bool, ac2 = (anyB (fun j => decide (I 62 j = x)) k || anyB (fun j => decide (I 66 j = x)) m) → AW X 0 0 38 [some (.ref 44), some (.int x), some (.int (bI ac2)), some (.int (nI m))] [] T I J R := by
        refine a_down r (fun m hkloop2 ihloop2 => ?_)
        intro ac2 hac2
        refine aw_iload_n hC dX12_isUsed_38 rfl ?_
        refine aw_aload_n hC dX12_isUsed_39 rfl ?_
        refine aw_getI hC dX12_isUsed_40 aF_X12_315 rfl (tg_44 hT) ?_
        rw [hr]
        refine aw_icmp_ge (tgt := 70) hC dX12_isUsed_43 (by decide) (fun h2 => ?_) (fun h2 => ?_)
        · show AW X 0 0 70 [some (.ref 44), some (.int x), some (.int (bI ac2)), some (.int (nI m))] [] T I J R
          have h2n : r ≤ m := (nI_leI (a := r) (b := m) (by omega) (by omega)).mp h2
          refine aw_iload_n hC dX12_isUsed_70 rfl ?_
          exact aw_zreturn hC hq rfl (bI_01 _) dX12_isUsed_71 a_le a_le (aPure_i (by subst hac2; rw [show m = r from by omega]))
        · show AW X 0 0 46 [some (.ref 44), some (.int x), some (.int (bI ac2)), some (.int (nI m))] [] T I J R
          have h2n : ¬ r ≤ m := fun q9 => h2 ((nI_leI (a := r) (b := m) (by omega) (by omega)).mpr q9)
          refine aw_iload_n hC dX12_isUsed_46 rfl ?_
          refine aw_aload_n hC dX12_isUsed_47 rfl ?_
          refine aw_getR hC dX12_isUsed_48 aF_X12_74 rfl (tg_44 hT) (pr_44_26 hR) ?_
          refine aw_iload_n hC dX12_isUsed_51 rfl ?_
          refine aw_iaload_k (j := m) hC dX12_isUsed_52 (tg_66 hT) (nI_clamp (by omega)) (vp_in_nI (by omega) (by decide)) ?_
          refine aw_iload_n hC dX12_isUsed_53 rfl ?_
          refine aw_icmp_ne (tgt := 61) hC dX12_isUsed_54 (by decide) (fun h3 => ?_) (fun h3 => ?_)
          · show AW X 0 0 61 [some (.ref 44), some (.int x), some (.int (bI ac2)), some (.int (nI m))] [.int (bI ac2)] T I J R
            refine aw_iconst (v := 0) hC dX12_isUsed_61 (by decide) ?_
            refine aw_ior hC dX12_isUsed_62 ?_
            rw [bI_or0]
            refine aw_istore_n (L2 := [some (.ref 44), some (.int x), some (.int (bI ac2)), some (.int (nI m))]) hC dX12_isUsed_63 rfl (by decide) rfl ?_
            refine aw_iinc (v := nI (m + 1)) (L2 := [some (.ref 44), some (.int x), some (.int (bI ac2)), some (.int (nI (m + 1)))]) hC dX12_isUsed_64 rfl (nI_inc _) (by decide) rfl ?_
            refine aw_goto (tgt := 38) hC dX12_isUsed_67 (by decide) ?_
            exact ihloop2 (by omega) ac2 (by simp only [anyB, ← hac2, ← Bool.or_assoc]; clear hC hq; (try simp only [bI_e0, bI_n0, decide_eq_false_iff_not, decide_eq_true_eq, Classical.not_not] at *); first | (simp_all; done) | grind)
          · show AW X 0 0 57 [some (.ref 44), some (.int x), some (.int (bI ac2)), some (.int (nI m))] [.int (bI ac2)] T I J R
            refine aw_iconst (v := 1) hC dX12_isUsed_57 (by decide) ?_
            refine aw_goto (tgt := 62) hC dX12_isUsed_58 (by decide) ?_
            refine aw_ior hC dX12_isUsed_62 ?_
            rw [bI_or1]
            refine aw_istore_n (L2 := [some (.ref 44), some (.int x), some (.int (bI true)), some (.int (nI m))]) hC dX12_isUsed_63 rfl (by decide) rfl ?_
            refine aw_iinc (v := nI (m + 1)) (L2 := [some (.ref 44), some (.int x), some (.int (bI true)), some (.int (nI (m + 1)))]) hC dX12_isUsed_64 rfl (nI_inc _) (by decide) rfl ?_
            refine aw_goto (tgt := 38) hC dX12_isUsed_67 (by decide) ?_
            exact ihloop2 (by omega) true (by simp only [anyB, ← hac2, ← Bool.or_assoc]; clear hC hq; (try simp only [bI_e0, bI_n0, decide_eq_false_iff_not, decide_eq_true_eq, Classical.not_not] at *); first | (simp_all; done) | grind)
      exact loop2 0 (Nat.zero_le _) acc (by rw [anyB, Bool.or_false]; exact hacc)
    · show AW X 0 0 12 [some (.ref 44), some (.int x), some (.int (bI acc)), some (.int (nI k))] [] T I J R
      have h1n : ¬ g ≤ k := fun q9 => h1 ((nI_leI (a := g) (b := k) (by omega) (by omega)).mpr q9)
      refine aw_iload_n hC dX12_isUsed_12 rfl ?_
      refine aw_aload_n hC dX12_isUsed_13 rfl ?_
      refine aw_getR hC dX12_isUsed_14 aF_X12_62 rfl (tg_44 hT) (pr_44_21 hR) ?_
      refine aw_iload_n hC dX12_isUsed_17 rfl ?_
      refine aw_iaload_k (j := k) hC dX12_isUsed_18 (tg_62 hT) (nI_clamp (by omega)) (vp_in_nI (by omega) (by decide)) ?_
      refine aw_iload_n hC dX12_isUsed_19 rfl ?_
      refine aw_icmp_ne (tgt := 27) hC dX12_isUsed_20 (by decide) (fun h4 => ?_) (fun h4 => ?_)
      · show AW X 0 0 27 [some (.ref 44), some (.int x), some (.int (bI acc)), some (.int (nI k))] [.int (bI acc)] T I J R
        refine aw_iconst (v := 0) hC dX12_isUsed_27 (by decide) ?_
        refine aw_ior hC dX12_isUsed_28 ?_
        rw [bI_or0]
        refine aw_istore_n (L2 := [some (.ref 44), some (.int x), some (.int (bI acc)), some (.int (nI k))]) hC dX12_isUsed_29 rfl (by decide) rfl ?_
        refine aw_iinc (v := nI (k + 1)) (L2 := [some (.ref 44), some (.int x), some (.int (bI acc)), some (.int (nI (k + 1)))]) hC dX12_isUsed_30 rfl (nI_inc _) (by decide) rfl ?_
        refine aw_goto (tgt := 4) hC dX12_isUsed_33 (by decide) ?_
        exact ihloop (by omega) acc (by simp only [anyB, ← hacc]; clear hC hq; (try simp only [bI_e0, bI_n0, decide_eq_false_iff_not, decide_eq_true_eq, Classical.not_not] at *); first | (simp_all; done) | grind)
      · show AW X 0 0 23 [some (.ref 44), some (.int x), some (.int (bI acc)), some (.int (nI k))] [.int (bI acc)] T I J R
        refine aw_iconst (v := 1) hC dX12_isUsed_23 (by decide) ?_
        refine aw_goto (tgt := 28) hC dX12_isUsed_24 (by decide) ?_
        refine aw_ior hC dX12_isUsed_28 ?_
        rw [bI_or1]
        refine aw_istore_n (L2 := [some (.ref 44), some (.int x), some (.int (bI true)), some (.int (nI k))]) hC dX12_isUsed_29 rfl (by decide) rfl ?_
        refine aw_iinc (v := nI (k + 1)) (L2 := [some (.ref 44), some (.int x), some (.int (bI true)), some (.int (nI (k + 1)))]) hC dX12_isUsed_30 rfl (nI_inc _) (by decide) rfl ?_
        refine aw_goto (tgt := 4) hC dX12_isUsed_33 (by decide) ?_
        exact ihloop (by omega) true (by simp only [anyB, ← hacc]; clear hC hq; (try simp only [bI_e0, bI_n0, decide_eq_false_iff_not, decide_eq_true_eq, Classical.not_not] at *); first | (simp_all; done) | grind)
  exact loop 0 (Nat.zero_le _) false rfl
set_option maxRecDepth 100000 in
theorem m_X12_setType {T : List aT} {I : aI} {J : aJ} {R : aR} (hT : aPT T) (hR : aPR R) (t a b c d e : Int32) (hd : d = 0 ∨ d = 1) (he : e = 0 ∨ e = 1) {g : Nat} (hg : I 44 20 = nI g) (hg9 : g ≤ 4) {r : Nat} (hr : I 44 25 = nI r) (hr9 : r ≤ 60) : MX12_setType 0 0 [.ref 44, .int t, .int a, .int b, .int c, .int d, .int e] T I J R (aPure none T (if 0 ≤ t ∧ t ≤ 2 then (if (0 ≤ a ∧ a ≤ 7) ∧ (0 ≤ b ∧ b ≤ 7) ∧ (0 ≤ c ∧ c ≤ 7) then (if anyB (fun j => decide (I 62 j = t)) g = true ∨ anyB (fun j => decide (I 66 j = t)) r = true then a_u I 44 61 3 else a_u (a_u (a_u (a_u (a_u (a_u I 44 61 0) 58 (3 * t).toNatClampNeg a) 58 (3 * t + 1).toNatClampNeg b) 58 (3 * t + 2).toNatClampNeg c) 59 t.toNatClampNeg d) 60 t.toNatClampNeg e) else a_u I 44 61 2) else a_u I 44 61 1) J R) := by
  refine a_met (by decide +kernel) a_le (fun X hC hq => ?_)
  show AW X 0 0 0 [some (.ref 44), some (.int t), some (.int a), some (.int b), some (.int c), some (.int d), some (.int e)] [] T I J R
  refine aw_aload_n hC dX12_setType_0 rfl ?_
  refine aw_iload_n hC dX12_setType_1 rfl ?_
  refine kX12_318 hC rfl (m_X12_isType t) dX12_setType_2 rfl a_le a_le a_le a_le a_le rfl aPure_x (aPure_k ?_)
  show AW X 0 0 5 [some (.ref 44), some (.int t), some (.int a), some (.int b), some (.int c), some (.int d), some (.int e)] [.int (bI (decide (0 ≤ t ∧ t ≤ 2))), .ref 44] T I J R
  refine aw_if_ne (tgt := 12) hC dX12_setType_5 (by decide) (fun h1 => ?_) (fun h1 => ?_)
  · show AW X 0 0 12 [some (.ref 44), some (.int t), some (.int a), some (.int b), some (.int c), some (.int d), some (.int e)] [.ref 44] T I J R
    refine aw_iload_n hC dX12_setType_12 rfl ?_
    refine aw_iconst (v := 0) hC dX12_setType_13 (by decide) ?_
    refine aw_bipush (v := 7) hC dX12_setType_14 (by decide) ?_
    refine kX12_169 hC rfl (m_X12_isIn a (0 : Int32) (7 : Int32)) dX12_setType_16 rfl a_le a_le a_le a_le a_le rfl aPure_x (aPure_k ?_)
    show AW X 0 0 19 [some (.ref 44), some (.int t), some (.int a), some (.int b), some (.int c), some (.int d), some (.int e)] [.int (bI (decide ((0 : Int32) ≤ a ∧ a ≤ (7 : Int32)))), .ref 44] T I J R
    refine aw_if_eq (tgt := 43) hC dX12_setType_19 (by decide) (fun h2 => ?_) (fun h2 => ?_)
    · show AW X 0 0 43 [some (.ref 44), some (.int t), some (.int a), some (.int b), some (.int c), some (.int d), some (.int e)] [.ref 44] T I J R
      refine aw_iconst (v := 2) hC dX12_setType_43 (by decide) ?_
      refine aw_goto (tgt := 60) hC dX12_setType_44 (by decide) ?_
      refine aw_putI hC dX12_setType_60 aF_X12_166 rfl rfl (tg_44 hT) ?_
      refine aw_aload_n hC dX12_setType_63 rfl ?_
      refine aw_getI hC dX12_setType_64 aF_X12_166 rfl (tg_44 hT) ?_
      rw [a_u_self (f := I) (o := 44) (k := 61) (v := 2)]
      refine aw_if_ne (tgt := 118) hC dX12_setType_67 (by decide) (fun _ => ?_) (fun h3 => absurd h3 (by decide))
      show AW X 0 0 118 [some (.ref 44), some (.int t), some (.int a), some (.int b), some (.int c), some (.int d), some (.int e)] [] T (a_u I 44 61 2) J R
      exact aw_return hC hq rfl dX12_setType_118 a_le a_le (aPure_ev (by clear hC hq; (try simp only [bI_e0, bI_n0, decide_eq_false_iff_not, decide_eq_true_eq, Bool.or_eq_true, Bool.or_eq_false_iff, Classical.not_not] at *) <;> first | grind (splits := 30) [nI_p1, a_u_2] | (exfalso; (simp only [i_le, i_lt, i_eq, Int32.reduceToInt] at *); omega)) rfl rfl)
    · show AW X 0 0 22 [some (.ref 44), some (.int t), some (.int a), some (.int b), some (.int c), some (.int d), some (.int e)] [.ref 44] T I J R
      refine aw_iload_n hC dX12_setType_22 rfl ?_
      refine aw_iconst (v := 0) hC dX12_setType_23 (by decide) ?_
      refine aw_bipush (v := 7) hC dX12_setType_24 (by decide) ?_
      refine kX12_169 hC rfl (m_X12_isIn b (0 : Int32) (7 : Int32)) dX12_setType_26 rfl a_le a_le a_le a_le a_le rfl aPure_x (aPure_k ?_)
      show AW X 0 0 29 [some (.ref 44), some (.int t), some (.int a), some (.int b), some (.int c), some (.int d), some (.int e)] [.int (bI (decide ((0 : Int32) ≤ b ∧ b ≤ (7 : Int32)))), .ref 44] T I J R
      refine aw_if_eq (tgt := 43) hC dX12_setType_29 (by decide) (fun h4 => ?_) (fun h4 => ?_)
      · show AW X 0 0 43 [some (.ref 44), some (.int t), some (.int a), some (.int b), some (.int c), some (.int d), some (.int e)] [.ref 44] T I J R
        refine aw_iconst (v := 2) hC dX12_setType_43 (by decide) ?_
        refine aw_goto (tgt := 60) hC dX12_setType_44 (by decide) ?_
        refine aw_putI hC dX12_setType_60 aF_X12_166 rfl rfl (tg_44 hT) ?_
        refine aw_aload_n hC dX12_setType_63 rfl ?_
        refine aw_getI hC dX12_setType_64 aF_X12_166 rfl (tg_44 hT) ?_
        rw [a_u_self (f := I) (o := 44) (k := 61) (v := 2)]
        refine aw_if_ne (tgt := 118) hC dX12_setType_67 (by decide) (fun _ => ?_) (fun h5 => absurd h5 (by decide))
        show AW X 0 0 118 [some (.ref 44), some (.int t), some (.int a), some (.int b), some (.int c), some (.int d), some (.int e)] [] T (a_u I 44 61 2) J R
        exact aw_return hC hq rfl dX12_setType_118 a_le a_le (aPure_ev (by clear hC hq; (try simp only [bI_e0, bI_n0, decide_eq_false_iff_not, decide_eq_true_eq, Bool.or_eq_true, Bool.or_eq_false_iff, Classical.not_not] at *) <;> first | grind (splits := 30) [nI_p1, a_u_2] | (exfalso; (simp only [i_le, i_lt, i_eq, Int32.reduceToInt] at *); omega)) rfl rfl)
      · show AW X 0 0 32 [some (.ref 44), some (.int t), some (.int a), some (.int b), some (.int c), some (.int d), some (.int e)] [.ref 44] T I J R
        refine aw_iload hC dX12_setType_32 rfl ?_
        refine aw_iconst (v := 0) hC dX12_setType_34 (by decide) ?_
        refine aw_bipush (v := 7) hC dX12_setType_35 (by decide) ?_
        refine kX12_169 hC rfl (m_X12_isIn c (0 : Int32) (7 : Int32)) dX12_setType_37 rfl a_le a_le a_le a_le a_le rfl aPure_x (aPure_k ?_)
        show AW X 0 0 40 [some (.ref 44), some (.int t), some (.int a), some (.int b), some (.int c), some (.int d), some (.int e)] [.int (bI (decide ((0 : Int32) ≤ c ∧ c ≤ (7 : Int32)))), .ref 44] T I J R
        refine aw_if_ne (tgt := 47) hC dX12_setType_40 (by decide) (fun h6 => ?_) (fun h6 => ?_)
        · show AW X 0 0 47 [some (.ref 44), some (.int t), some (.int a), some (.int b), some (.int c), some (.int d), some (.int e)] [.ref 44] T I J R
          refine aw_aload_n hC dX12_setType_47 rfl ?_
          refine aw_iload_n hC dX12_setType_48 rfl ?_
          refine kX12_321 hC rfl (m_X12_isUsed hT hR t (g := g) hg hg9 (r := r) hr hr9) dX12_setType_49 (tg_44 hT) rfl a_le a_le a_le a_le a_le rfl aPure_x (aPure_k ?_)
          show AW X 0 0 52 [some (.ref 44), some (.int t), some (.int a), some (.int b), some (.int c), some (.int d), some (.int e)] [.int (bI (anyB (fun j => decide (I 62 j = t)) g || anyB (fun j => decide (I 66 j = t)) r)), .ref 44] T I J R
          refine aw_if_eq (tgt := 59) hC dX12_setType_52 (by decide) (fun h7 => ?_) (fun h7 => ?_)
          · show AW X 0 0 59 [some (.ref 44), some (.int t), some (.int a), some (.int b), some (.int c), some (.int d), some (.int e)] [.ref 44] T I J R
            refine aw_iconst (v := 0) hC dX12_setType_59 (by decide) ?_
            refine aw_putI hC dX12_setType_60 aF_X12_166 rfl rfl (tg_44 hT) ?_
            refine aw_aload_n hC dX12_setType_63 rfl ?_
            refine aw_getI hC dX12_setType_64 aF_X12_166 rfl (tg_44 hT) ?_
            rw [a_u_self (f := I) (o := 44) (k := 61) (v := 0)]
            refine aw_if_ne (tgt := 118) hC dX12_setType_67 (by decide) (fun h8 => absurd h8 (by decide)) (fun _ => ?_)
            show AW X 0 0 70 [some (.ref 44), some (.int t), some (.int a), some (.int b), some (.int c), some (.int d), some (.int e)] [] T (a_u I 44 61 0) J R
            refine aw_aload_n hC dX12_setType_70 rfl ?_
            refine aw_getR hC dX12_setType_71 aF_X12_50 rfl (tg_44 hT) (pr_44_16 hR) ?_
            refine aw_iconst (v := 3) hC dX12_setType_74 (by decide) ?_
            refine aw_iload_n hC dX12_setType_75 rfl ?_
            refine aw_imul hC dX12_setType_76 ?_
            refine aw_iload_n hC dX12_setType_77 rfl ?_
            refine aw_iastore_k (j := (3 * t).toNatClampNeg) hC dX12_setType_78 (tg_58 hT) rfl (vp_mulz (c := 3) (X := 2) (by clear hC hq; (try simp only [bI_e0, bI_n0, decide_eq_false_iff_not, decide_eq_true_eq, Classical.not_not] at *); (simp only [i_le, i_lt, i_eq, Int32.reduceToInt] at *); omega) (by clear hC hq; (try simp only [bI_e0, bI_n0, decide_eq_false_iff_not, decide_eq_true_eq, Classical.not_not] at *); (simp only [i_le, i_lt, i_eq, Int32.reduceToInt] at *); omega) (by decide) (by decide) (by decide)) ?_
            refine aw_aload_n hC dX12_setType_79 rfl ?_
            refine aw_getR hC dX12_setType_80 aF_X12_50 rfl (tg_44 hT) (pr_44_16 hR) ?_
            refine aw_iconst (v := 3) hC dX12_setType_83 (by decide) ?_
            refine aw_iload_n hC dX12_setType_84 rfl ?_
            refine aw_imul hC dX12_setType_85 ?_
            refine aw_iconst (v := 1) hC dX12_setType_86 (by decide) ?_
            refine aw_iadd hC dX12_setType_87 ?_
            refine aw_iload_n hC dX12_setType_88 rfl ?_
            refine aw_iastore_k (j := ((3 * t) + 1).toNatClampNeg) hC dX12_setType_89 (tg_58 hT) rfl (vp_lin (c := 3) (X := 2) (Y := 2) (by clear hC hq; (try simp only [bI_e0, bI_n0, decide_eq_false_iff_not, decide_eq_true_eq, Classical.not_not] at *); (simp only [i_le, i_lt, i_eq, Int32.reduceToInt] at *); omega) (by clear hC hq; (try simp only [bI_e0, bI_n0, decide_eq_false_iff_not, decide_eq_true_eq, Classical.not_not] at *); (simp only [i_le, i_lt, i_eq, Int32.reduceToInt] at *); omega) (by clear hC hq; (try simp only [bI_e0, bI_n0, decide_eq_false_iff_not, decide_eq_true_eq, Classical.not_not] at *); (simp only [i_le, i_lt, i_eq, Int32.reduceToInt] at *); omega) (by clear hC hq; (try simp only [bI_e0, bI_n0, decide_eq_false_iff_not, decide_eq_true_eq, Classical.not_not] at *); (simp only [i_le, i_lt, i_eq, Int32.reduceToInt] at *); omega) (by decide) (by decide) (by decide)).1 ?_
            refine aw_aload_n hC dX12_setType_90 rfl ?_
            refine aw_getR hC dX12_setType_91 aF_X12_50 rfl (tg_44 hT) (pr_44_16 hR) ?_
            refine aw_iconst (v := 3) hC dX12_setType_94 (by decide) ?_
            refine aw_iload_n hC dX12_setType_95 rfl ?_
            refine aw_imul hC dX12_setType_96 ?_
            refine aw_iconst (v := 2) hC dX12_setType_97 (by decide) ?_
            refine aw_iadd hC dX12_setType_98 ?_
            refine aw_iload hC dX12_setType_99 rfl ?_
            refine aw_iastore_k (j := ((3 * t) + 2).toNatClampNeg) hC dX12_setType_101 (tg_58 hT) rfl (vp_lin (c := 3) (X := 2) (Y := 2) (by clear hC hq; (try simp only [bI_e0, bI_n0, decide_eq_false_iff_not, decide_eq_true_eq, Classical.not_not] at *); (simp only [i_le, i_lt, i_eq, Int32.reduceToInt] at *); omega) (by clear hC hq; (try simp only [bI_e0, bI_n0, decide_eq_false_iff_not, decide_eq_true_eq, Classical.not_not] at *); (simp only [i_le, i_lt, i_eq, Int32.reduceToInt] at *); omega) (by clear hC hq; (try simp only [bI_e0, bI_n0, decide_eq_false_iff_not, decide_eq_true_eq, Classical.not_not] at *); (simp only [i_le, i_lt, i_eq, Int32.reduceToInt] at *); omega) (by clear hC hq; (try simp only [bI_e0, bI_n0, decide_eq_false_iff_not, decide_eq_true_eq, Classical.not_not] at *); (simp only [i_le, i_lt, i_eq, Int32.reduceToInt] at *); omega) (by decide) (by decide) (by decide)).1 ?_
            refine aw_aload_n hC dX12_setType_102 rfl ?_
            refine aw_getR hC dX12_setType_103 aF_X12_53 rfl (tg_44 hT) (pr_44_17 hR) ?_
            refine aw_iload_n hC dX12_setType_106 rfl ?_
            refine aw_iload hC dX12_setType_107 rfl ?_
            refine aw_bastore_k (j := t.toNatClampNeg) hC dX12_setType_109 (tg_59 hT) rfl (vp_in_iff.mpr (by clear hC hq; (try simp only [bI_e0, bI_n0, decide_eq_false_iff_not, decide_eq_true_eq, Classical.not_not] at *); (simp only [i_le, i_lt, i_eq, Int32.reduceToInt] at *); omega)) (by first | assumption | exact bI_01 _) ?_
            refine aw_aload_n hC dX12_setType_110 rfl ?_
            refine aw_getR hC dX12_setType_111 aF_X12_56 rfl (tg_44 hT) (pr_44_18 hR) ?_
            refine aw_iload_n hC dX12_setType_114 rfl ?_
            refine aw_iload hC dX12_setType_115 rfl ?_
            refine aw_bastore_k (j := t.toNatClampNeg) hC dX12_setType_117 (tg_60 hT) rfl (vp_in_iff.mpr (by clear hC hq; (try simp only [bI_e0, bI_n0, decide_eq_false_iff_not, decide_eq_true_eq, Classical.not_not] at *); (simp only [i_le, i_lt, i_eq, Int32.reduceToInt] at *); omega)) (by first | assumption | exact bI_01 _) ?_
            exact aw_return hC hq rfl dX12_setType_118 a_le a_le (aPure_ev (by clear hC hq; (try simp only [bI_e0, bI_n0, decide_eq_false_iff_not, decide_eq_true_eq, Bool.or_eq_true, Bool.or_eq_false_iff, Classical.not_not] at *) <;> first | grind (splits := 30) [nI_p1, a_u_2] | (exfalso; (simp only [i_le, i_lt, i_eq, Int32.reduceToInt] at *); omega)) rfl rfl)
          · show AW X 0 0 55 [some (.ref 44), some (.int t), some (.int a), some (.int b), some (.int c), some (.int d), some (.int e)] [.ref 44] T I J R
            refine aw_iconst (v := 3) hC dX12_setType_55 (by decide) ?_
            refine aw_goto (tgt := 60) hC dX12_setType_56 (by decide) ?_
            refine aw_putI hC dX12_setType_60 aF_X12_166 rfl rfl (tg_44 hT) ?_
            refine aw_aload_n hC dX12_setType_63 rfl ?_
            refine aw_getI hC dX12_setType_64 aF_X12_166 rfl (tg_44 hT) ?_
            rw [a_u_self (f := I) (o := 44) (k := 61) (v := 3)]
            refine aw_if_ne (tgt := 118) hC dX12_setType_67 (by decide) (fun _ => ?_) (fun h9 => absurd h9 (by decide))
            show AW X 0 0 118 [some (.ref 44), some (.int t), some (.int a), some (.int b), some (.int c), some (.int d), some (.int e)] [] T (a_u I 44 61 3) J R
            exact aw_return hC hq rfl dX12_setType_118 a_le a_le (aPure_ev (by clear hC hq; (try simp only [bI_e0, bI_n0, decide_eq_false_iff_not, decide_eq_true_eq, Bool.or_eq_true, Bool.or_eq_false_iff, Classical.not_not] at *) <;> first | grind (splits := 30) [nI_p1, a_u_2] | (exfalso; (simp only [i_le, i_lt, i_eq, Int32.reduceToInt] at *); omega)) rfl rfl)
        · show AW X 0 0 43 [some (.ref 44), some (.int t), some (.int a), some (.int b), some (.int c), some (.int d), some (.int e)] [.ref 44] T I J R
          refine aw_iconst (v := 2) hC dX12_setType_43 (by decide) ?_
          refine aw_goto (tgt := 60) hC dX12_setType_44 (by decide) ?_
          refine aw_putI hC dX12_setType_60 aF_X12_166 rfl rfl (tg_44 hT) ?_
          refine aw_aload_n hC dX12_setType_63 rfl ?_
          refine aw_getI hC dX12_setType_64 aF_X12_166 rfl (tg_44 hT) ?_
          rw [a_u_self (f := I) (o := 44) (k := 61) (v := 2)]
          refine aw_if_ne (tgt := 118) hC dX12_setType_67 (by decide) (fun _ => ?_) (fun h10 => absurd h10 (by decide))
          show AW X 0 0 118 [some (.ref 44), some (.int t), some (.int a), some (.int b), some (.int c), some (.int d), some (.int e)] [] T (a_u I 44 61 2) J R
          exact aw_return hC hq rfl dX12_setType_118 a_le a_le (aPure_ev (by clear hC hq; (try simp only [bI_e0, bI_n0, decide_eq_false_iff_not, decide_eq_true_eq, Bool.or_eq_true, Bool.or_eq_false_iff, Classical.not_not] at *) <;> first | grind (splits := 30) [nI_p1, a_u_2] | (exfalso; (simp only [i_le, i_lt, i_eq, Int32.reduceToInt] at *); omega)) rfl rfl)
  · show AW X 0 0 8 [some (.ref 44), some (.int t), some (.int a), some (.int b), some (.int c), some (.int d), some (.int e)] [.ref 44] T I J R
    refine aw_iconst (v := 1) hC dX12_setType_8 (by decide) ?_
    refine aw_goto (tgt := 60) hC dX12_setType_9 (by decide) ?_
    refine aw_putI hC dX12_setType_60 aF_X12_166 rfl rfl (tg_44 hT) ?_
    refine aw_aload_n hC dX12_setType_63 rfl ?_
    refine aw_getI hC dX12_setType_64 aF_X12_166 rfl (tg_44 hT) ?_
    rw [a_u_self (f := I) (o := 44) (k := 61) (v := 1)]
    refine aw_if_ne (tgt := 118) hC dX12_setType_67 (by decide) (fun _ => ?_) (fun h11 => absurd h11 (by decide))
    show AW X 0 0 118 [some (.ref 44), some (.int t), some (.int a), some (.int b), some (.int c), some (.int d), some (.int e)] [] T (a_u I 44 61 1) J R
    exact aw_return hC hq rfl dX12_setType_118 a_le a_le (aPure_ev (by clear hC hq; (try simp only [bI_e0, bI_n0, decide_eq_false_iff_not, decide_eq_true_eq, Bool.or_eq_true, Bool.or_eq_false_iff, Classical.not_not] at *) <;> first | grind (splits := 30) [nI_p1, a_u_2] | (exfalso; (simp only [i_le, i_lt, i_eq, Int32.reduceToInt] at *); omega)) rfl rfl)
theorem NR.ner {I : aI} {a n b o : Nat} {g : Nat → Int32} (h : NR I a n b) (ho : o ≠ a) : NR (a_ur I o g) a n b := fun j hj => by
  have e : a_ur I o g a j = I a j := by rw [a_ur_ne (fun q => ho q.symm)]
  unfold iN; rw [e]; exact h j hj
/-- the keys with one put in -/
abbrev kIns (f : Nat → Int32) (b p n : Nat) (x : Int32) : Nat → Int32 := fun j => if j = b + p then x else if b + p < j ∧ j ≤ b + n then f (j - 1) else f j
abbrev kDel (f : Nat → Int32) (b p n : Nat) : Nat → Int32 := fun j => if b + p ≤ j ∧ j + 1 < b + n then f (j + 1) else f j
set_option maxRecDepth 100000 in
theorem m_X12_keyT {T : List aT} {I : aI} {J : aJ} {R : aR} (hT : aPT T) (hR : aPR R) {g : Nat} (hg : I 44 20 = nI g) (hg9 : g ≤ 4) (hk : NR I 63 4 9) {a p : Nat} (ha : a < g) (hp : p ≤ iN I 63 a) (hr8 : iN I 63 a < 8) (x : Int32) (hx : 0 ≤ x ∧ x ≤ 15) (hno : anyB (fun j => decide (I 64 (8 * a + j) = x)) (iN I 63 a) = false) : MX12_key 0 0 [.ref 44, .int (nI a), .int (nI p), .int x] T I J R (aPure (some (.int (nI (iN I 63 a + 1)))) T (a_u (a_ur (a_u I 44 61 0) 64 (kIns (I 64) (8 * a) p (iN I 63 a) x)) 63 a (nI (iN I 63 a + 1))) J R) := by
  refine a_met (by decide +kernel) a_le (fun X hC hq => ?_)
  show AW X 0 0 0 [some (.ref 44), some (.int (nI a)), some (.int (nI p)), some (.int x), none, none] [] T I J R
  refine aw_aload_n hC dX12_key_0 rfl ?_
  refine aw_aload_n hC dX12_key_1 rfl ?_
  refine aw_iload_n hC dX12_key_2 rfl ?_
  refine kX12_324 hC rfl (m_X12_isGenerator hT hR (nI a) (g := g) (by assumption) (by omega)) dX12_key_3 (tg_44 hT) rfl a_le a_le a_le a_le a_le rfl aPure_x (aPure_k ?_)
  show AW X 0 0 6 [some (.ref 44), some (.int (nI a)), some (.int (nI p)), some (.int x), none, none] [.int (bI (decide (0 ≤ (nI a) ∧ (nI a) < nI g))), .ref 44] T I J R
  rw [show bI (decide (0 ≤ (nI a) ∧ (nI a) < nI g)) = 1 from bI_one (nI_btw ha (by omega))]
  refine aw_if_eq (tgt := 23) hC dX12_key_6 (by decide) (fun h1 => absurd h1 (by decide)) (fun _ => ?_)
  show AW X 0 0 9 [some (.ref 44), some (.int (nI a)), some (.int (nI p)), some (.int x), none, none] [.ref 44] T I J R
  refine aw_iload_n hC dX12_key_9 rfl ?_
  refine aw_iconst (v := 0) hC dX12_key_10 (by decide) ?_
  refine aw_aload_n hC dX12_key_11 rfl ?_
  refine aw_getR hC dX12_key_12 aF_X12_65 rfl (tg_44 hT) (pr_44_22 hR) ?_
  refine aw_iload_n hC dX12_key_15 rfl ?_
  refine aw_iaload_k (j := a) hC dX12_key_16 (tg_63 hT) (nI_clamp (by omega)) (vp_in_nI (by omega) (by decide)) ?_
  have hb2 := hk a (by omega)
  rw [hb2.1]
  refine kX12_169 hC rfl (m_X12_isIn (nI p) (0 : Int32) (nI (iN I 63 a))) dX12_key_17 rfl a_le a_le a_le a_le a_le rfl aPure_x (aPure_k ?_)
  show AW X 0 0 20 [some (.ref 44), some (.int (nI a)), some (.int (nI p)), some (.int x), none, none] [.int (bI (decide ((0 : Int32) ≤ (nI p) ∧ (nI p) ≤ (nI (iN I 63 a))))), .ref 44] T I J R
  rw [show bI (decide ((0 : Int32) ≤ (nI p) ∧ (nI p) ≤ (nI (iN I 63 a)))) = 1 from bI_one ⟨nI_pos' (by omega), nI_le hp (by omega)⟩]
  refine aw_if_ne (tgt := 27) hC dX12_key_20 (by decide) (fun _ => ?_) (fun h3 => absurd h3 (by decide))
  show AW X 0 0 27 [some (.ref 44), some (.int (nI a)), some (.int (nI p)), some (.int x), none, none] [.ref 44] T I J R
  refine aw_iload_n hC dX12_key_27 rfl ?_
  refine aw_iconst (v := 0) hC dX12_key_28 (by decide) ?_
  refine aw_bipush (v := 15) hC dX12_key_29 (by decide) ?_
  refine kX12_169 hC rfl (m_X12_isIn x (0 : Int32) (15 : Int32)) dX12_key_31 rfl a_le a_le a_le a_le a_le rfl aPure_x (aPure_k ?_)
  show AW X 0 0 34 [some (.ref 44), some (.int (nI a)), some (.int (nI p)), some (.int x), none, none] [.int (bI (decide ((0 : Int32) ≤ x ∧ x ≤ (15 : Int32)))), .ref 44] T I J R
  rw [show bI (decide ((0 : Int32) ≤ x ∧ x ≤ (15 : Int32))) = 1 from bI_one hx]
  refine aw_if_ne (tgt := 41) hC dX12_key_34 (by decide) (fun _ => ?_) (fun h4 => absurd h4 (by decide))
  show AW X 0 0 41 [some (.ref 44), some (.int (nI a)), some (.int (nI p)), some (.int x), none, none] [.ref 44] T I J R
  refine aw_aload_n hC dX12_key_41 rfl ?_
  refine aw_iload_n hC dX12_key_42 rfl ?_
  refine aw_iload_n hC dX12_key_43 rfl ?_
  refine kX12_327 hC rfl (m_X12_hasKey hT hR (g := a) (by omega) hk x) dX12_key_44 (tg_44 hT) rfl a_le a_le a_le a_le a_le rfl aPure_x (aPure_k ?_)
  show AW X 0 0 47 [some (.ref 44), some (.int (nI a)), some (.int (nI p)), some (.int x), none, none] [.int (bI (anyB (fun j => decide (I 64 (8 * a + j) = x)) (iN I 63 a))), .ref 44] T I J R
  rw [show bI (anyB (fun j => decide (I 64 (8 * a + j) = x)) (iN I 63 a)) = 0 from by rw [hno]; rfl]
  refine aw_if_ne (tgt := 61) hC dX12_key_47 (by decide) (fun h5 => absurd h5 (by decide)) (fun _ => ?_)
  show AW X 0 0 50 [some (.ref 44), some (.int (nI a)), some (.int (nI p)), some (.int x), none, none] [.ref 44] T I J R
  refine aw_aload_n hC dX12_key_50 rfl ?_
  refine aw_getR hC dX12_key_51 aF_X12_65 rfl (tg_44 hT) (pr_44_22 hR) ?_
  refine aw_iload_n hC dX12_key_54 rfl ?_
  refine aw_iaload_k (j := a) hC dX12_key_55 (tg_63 hT) (nI_clamp (by omega)) (vp_in_nI (by omega) (by decide)) ?_
  have hb6 := hk a (by omega)
  rw [hb6.1]
  refine aw_bipush (v := 8) hC dX12_key_56 (by decide) ?_
  refine aw_icmp_ne (tgt := 65) hC dX12_key_58 (by decide) (fun h7 => ?_) (fun h7 => ?_)
  · show AW X 0 0 65 [some (.ref 44), some (.int (nI a)), some (.int (nI p)), some (.int x), none, none] [.ref 44] T I J R
    have h7n : ¬ (iN I 63 a) = 8 := fun q9 => h7 ((nI_eq (a := (iN I 63 a)) (b := 8) (by omega) (by omega)).mpr q9)
    refine aw_iconst (v := 0) hC dX12_key_65 (by decide) ?_
    refine aw_putI hC dX12_key_66 aF_X12_166 rfl rfl (tg_44 hT) ?_
    refine aw_aload_n hC dX12_key_69 rfl ?_
    refine aw_getI hC dX12_key_70 aF_X12_166 rfl (tg_44 hT) ?_
    rw [a_u_self (f := I) (o := 44) (k := 61) (v := 0)]
    refine aw_if_le (tgt := 78) hC dX12_key_73 (by decide) (fun _ => ?_) (fun h8 => absurd h8 (by decide))
    show AW X 0 0 78 [some (.ref 44), some (.int (nI a)), some (.int (nI p)), some (.int x), none, none] [] T (a_u I 44 61 0) J R
    refine aw_iload_n hC dX12_key_78 rfl ?_
    refine aw_istore (L2 := [some (.ref 44), some (.int (nI a)), some (.int (nI p)), some (.int x), some (.int (nI a)), none]) hC dX12_key_79 (by decide) rfl ?_
    refine aw_aload_n hC dX12_key_81 rfl ?_
    refine aw_getR hC dX12_key_82 aF_X12_65 rfl (tg_44 hT) (pr_44_22 hR) ?_
    refine aw_iload hC dX12_key_85 rfl ?_
    refine aw_iaload_k (j := a) hC dX12_key_87 (tg_63 hT) (nI_clamp (by omega)) (vp_in_nI (by omega) (by decide)) ?_
    rw [a_u_ne (f := I) (o := 44) (k := 61) (a := 63) (b := a) (v := 0) (fun q => absurd q.1 (by decide))]
    have hb9 := hk a (by omega)
    rw [hb9.1]
    refine aw_istore (L2 := [some (.ref 44), some (.int (nI a)), some (.int (nI p)), some (.int x), some (.int (nI a)), some (.int (nI (iN I 63 a)))]) hC dX12_key_88 (by decide) rfl ?_
    have e0 : a_u I 44 61 0 = a_ur (a_u I 44 61 0) 64 (fun j => if 8 * a + iN I 63 a < j ∧ j ≤ 8 * a + iN I 63 a then I 64 (j - 1) else I 64 j) := (a_ur_id (fun j => by rw [if_neg (by omega), a_u_ne (fun q => absurd q.1 (by decide))])).symm
    rw [e0]
    have loop : ∀ k, p ≤ k → k ≤ iN I 63 a → AW X 0 0 90 [some (.ref 44), some (.int (nI a)), some (.int (nI p)), some (.int x), some (.int (nI a)), some (.int (nI k))] [] T (a_ur (a_u I 44 61 0) 64 (fun j => if 8 * a + k < j ∧ j ≤ 8 * a + iN I 63 a then I 64 (j - 1) else I 64 j)) J R := by
      refine upN (fun k ih => ?_)
      intro hk1 hk2
      refine aw_iload hC dX12_key_90 rfl ?_
      refine aw_iload_n hC dX12_key_92 rfl ?_
      refine aw_icmp_le (tgt := 130) hC dX12_key_93 (by decide) (fun h10 => ?_) (fun h10 => ?_)
      · show AW X 0 0 130 [some (.ref 44), some (.int (nI a)), some (.int (nI p)), some (.int x), some (.int (nI a)), some (.int (nI k))] [] T (a_ur (a_u I 44 61 0) 64 (fun j => if 8 * a + k < j ∧ j ≤ 8 * a + iN I 63 a then I 64 (j - 1) else I 64 j)) J R
        have h10n : k ≤ p := (nI_leI (a := k) (b := p) (by omega) (by omega)).mp h10
        refine aw_aload_n hC dX12_key_130 rfl ?_
        refine aw_getR hC dX12_key_131 aF_X12_68 rfl (tg_44 hT) (pr_44_23 hR) ?_
        refine aw_bipush (v := 8) hC dX12_key_134 (by decide) ?_
        refine aw_iload hC dX12_key_136 rfl ?_
        refine aw_imul hC dX12_key_138 ?_
        rw [show 8 * (nI a) = nI (8 * a) from pk_mul 8 a]
        refine aw_iload_n hC dX12_key_139 rfl ?_
        refine aw_iadd hC dX12_key_140 ?_
        rw [show (nI (8 * a)) + (nI p) = nI ((8 * a) + p) from nI_add (8 * a) p]
        refine aw_iload_n hC dX12_key_141 rfl ?_
        refine aw_iastore_k (j := ((8 * a) + p)) hC dX12_key_142 (tg_64 hT) (nI_clamp (by omega)) (vp_in_nI (by omega) (by decide)) ?_
        refine aw_aload_n hC dX12_key_143 rfl ?_
        refine aw_getR hC dX12_key_144 aF_X12_65 rfl (tg_44 hT) (pr_44_22 hR) ?_
        refine aw_iload hC dX12_key_147 rfl ?_
        refine aw_dup2 hC dX12_key_149 rfl rfl ?_
        refine aw_iaload_k (j := a) hC dX12_key_150 (tg_63 hT) (nI_clamp (by omega)) (vp_in_nI (by omega) (by decide)) ?_
        rw [a_u_ne (f := a_ur (a_u I 44 61 0) 64 (fun j => if 8 * a + k < j ∧ j ≤ 8 * a + iN I 63 a then I 64 (j - 1) else I 64 j)) (o := 64) (k := ((8 * a) + p)) (a := 63) (b := a) (v := x) (fun q => absurd q.1 (by decide))]
        rw [a_ur_ne (f := a_u I 44 61 0) (o := 64) (a := 63) (g := fun j => if 8 * a + k < j ∧ j ≤ 8 * a + iN I 63 a then I 64 (j - 1) else I 64 j) (by decide)]
        rw [a_u_ne (f := I) (o := 44) (k := 61) (a := 63) (b := a) (v := 0) (fun q => absurd q.1 (by decide))]
        have hb11 := hk a (by omega)
        rw [hb11.1]
        refine aw_iconst (v := 1) hC dX12_key_151 (by decide) ?_
        refine aw_iadd hC dX12_key_152 ?_
        rw [show (nI (iN I 63 a)) + 1 = nI ((iN I 63 a) + 1) from nI_add (iN I 63 a) 1]
        refine aw_iastore_k (j := a) hC dX12_key_153 (tg_63 hT) (nI_clamp (by omega)) (vp_in_nI (by omega) (by decide)) ?_
        refine aw_aload_n hC dX12_key_154 rfl ?_
        refine aw_getR hC dX12_key_155 aF_X12_65 rfl (tg_44 hT) (pr_44_22 hR) ?_
        refine aw_iload hC dX12_key_158 rfl ?_
        refine aw_iaload_k (j := a) hC dX12_key_160 (tg_63 hT) (nI_clamp (by omega)) (vp_in_nI (by omega) (by decide)) ?_
        rw [a_u_self (f := a_u (a_ur (a_u I 44 61 0) 64 (fun j => if 8 * a + k < j ∧ j ≤ 8 * a + iN I 63 a then I 64 (j - 1) else I 64 j)) 64 ((8 * a) + p) x) (o := 63) (k := a) (v := nI ((iN I 63 a) + 1))]
        exact aw_ireturn hC hq rfl dX12_key_161 a_le a_le (aPure_e rfl (by have e9 : k = p := (by omega); subst e9; rw [a_ur_put]) rfl rfl)
      · show AW X 0 0 96 [some (.ref 44), some (.int (nI a)), some (.int (nI p)), some (.int x), some (.int (nI a)), some (.int (nI k))] [] T (a_ur (a_u I 44 61 0) 64 (fun j => if 8 * a + k < j ∧ j ≤ 8 * a + iN I 63 a then I 64 (j - 1) else I 64 j)) J R
        have h10n : ¬ k ≤ p := fun q9 => h10 ((nI_leI (a := k) (b := p) (by omega) (by omega)).mpr q9)
        refine aw_aload_n hC dX12_key_96 rfl ?_
        refine aw_getR hC dX12_key_97 aF_X12_68 rfl (tg_44 hT) (pr_44_23 hR) ?_
        refine aw_bipush (v := 8) hC dX12_key_100 (by decide) ?_
        refine aw_iload hC dX12_key_102 rfl ?_
        refine aw_imul hC dX12_key_104 ?_
        rw [show 8 * (nI a) = nI (8 * a) from pk_mul 8 a]
        refine aw_iload hC dX12_key_105 rfl ?_
        refine aw_iadd hC dX12_key_107 ?_
        rw [show (nI (8 * a)) + (nI k) = nI ((8 * a) + k) from nI_add (8 * a) k]
        refine aw_aload_n hC dX12_key_108 rfl ?_
        refine aw_getR hC dX12_key_109 aF_X12_68 rfl (tg_44 hT) (pr_44_23 hR) ?_
        refine aw_bipush (v := 8) hC dX12_key_112 (by decide) ?_
        refine aw_iload hC dX12_key_114 rfl ?_
        refine aw_imul hC dX12_key_116 ?_
        rw [show 8 * (nI a) = nI (8 * a) from pk_mul 8 a]
        refine aw_iload hC dX12_key_117 rfl ?_
        refine aw_iadd hC dX12_key_119 ?_
        rw [show (nI (8 * a)) + (nI k) = nI ((8 * a) + k) from nI_add (8 * a) k]
        refine aw_iconst (v := 1) hC dX12_key_120 (by decide) ?_
        refine aw_isub hC dX12_key_121 ?_
        rw [show (nI ((8 * a) + k)) - 1 = nI (((8 * a) + k) - 1) from pk_sub (a := ((8 * a) + k)) (b := 1) (by omega)]
        refine aw_iaload_k (j := (((8 * a) + k) - 1)) hC dX12_key_122 (tg_64 hT) (nI_clamp (by omega)) (vp_in_nI (by omega) (by decide)) ?_
        rw [a_ur_self (f := a_u I 44 61 0) (o := 64) (g := fun j => if 8 * a + k < j ∧ j ≤ 8 * a + iN I 63 a then I 64 (j - 1) else I 64 j)]
        refine aw_iastore_k (j := ((8 * a) + k)) hC dX12_key_123 (tg_64 hT) (nI_clamp (by omega)) (vp_in_nI (by omega) (by decide)) ?_
        refine aw_iinc (v := nI (k - 1)) (L2 := [some (.ref 44), some (.int (nI a)), some (.int (nI p)), some (.int x), some (.int (nI a)), some (.int (nI (k - 1)))]) hC dX12_key_124 rfl (nI_decs (by omega)) (by decide) rfl ?_
        refine aw_goto (tgt := 90) hC dX12_key_127 (by decide) ?_
        rw [show a_u (a_ur (a_u I 44 61 0) 64 (fun j => if 8 * a + k < j ∧ j ≤ 8 * a + iN I 63 a then I 64 (j - 1) else I 64 j)) 64 ((8 * a) + k) ((fun j => if 8 * a + k < j ∧ j ≤ 8 * a + iN I 63 a then I 64 (j - 1) else I 64 j) (((8 * a) + k) - 1)) = a_ur (a_u I 44 61 0) 64 (fun j => if 8 * a + (k - 1) < j ∧ j ≤ 8 * a + iN I 63 a then I 64 (j - 1) else I 64 j) from by rw [a_ur_put]; exact a_ur_ext (fun j => by clear hC hq; (try dsimp only); grind)]
        exact ih (k - 1) (by omega) (by omega) (by omega)
    exact loop _ hp (Nat.le_refl _)
  · show AW X 0 0 61 [some (.ref 44), some (.int (nI a)), some (.int (nI p)), some (.int x), none, none] [.ref 44] T I J R
    have h7n : (iN I 63 a) = 8 := (nI_eq (a := (iN I 63 a)) (b := 8) (by omega) (by omega)).mp h7
    refine aw_iconst (v := 3) hC dX12_key_61 (by decide) ?_
    refine aw_goto (tgt := 66) hC dX12_key_62 (by decide) ?_
    refine aw_putI hC dX12_key_66 aF_X12_166 rfl rfl (tg_44 hT) ?_
    refine aw_aload_n hC dX12_key_69 rfl ?_
    refine aw_getI hC dX12_key_70 aF_X12_166 rfl (tg_44 hT) ?_
    rw [a_u_self (f := I) (o := 44) (k := 61) (v := 3)]
    refine aw_if_le (tgt := 78) hC dX12_key_73 (by decide) (fun h12 => absurd h12 (by decide)) (fun _ => ?_)
    show AW X 0 0 76 [some (.ref 44), some (.int (nI a)), some (.int (nI p)), some (.int x), none, none] [] T (a_u I 44 61 3) J R
    refine aw_iconst (v := 0) hC dX12_key_76 (by decide) ?_
    exact aw_ireturn hC hq rfl dX12_key_77 a_le a_le (by exfalso; omega)
set_option maxRecDepth 100000 in
theorem m_X12_keyF1 {T : List aT} {I : aI} {J : aJ} {R : aR} (hT : aPT T) (hR : aPR R) {g : Nat} (hg : I 44 20 = nI g) (hg9 : g ≤ 4) (x y0 y1 : Int32) (hx : ¬ (0 ≤ x ∧ x < nI g)) : MX12_key 0 0 [.ref 44, .int x, .int y0, .int y1] T I J R (aPure (some (.int (0))) T (a_u I 44 61 1) J R) := by
  refine a_met (by decide +kernel) a_le (fun X hC hq => ?_)
  show AW X 0 0 0 [some (.ref 44), some (.int x), some (.int y0), some (.int y1), none, none] [] T I J R
  refine aw_aload_n hC dX12_key_0 rfl ?_
  refine aw_aload_n hC dX12_key_1 rfl ?_
  refine aw_iload_n hC dX12_key_2 rfl ?_
  refine kX12_324 hC rfl (m_X12_isGenerator hT hR x (g := g) (by assumption) (by omega)) dX12_key_3 (tg_44 hT) rfl a_le a_le a_le a_le a_le rfl aPure_x (aPure_k ?_)
  show AW X 0 0 6 [some (.ref 44), some (.int x), some (.int y0), some (.int y1), none, none] [.int (bI (decide (0 ≤ x ∧ x < nI g))), .ref 44] T I J R
  rw [show bI (decide (0 ≤ x ∧ x < nI g)) = 0 from bI_zero hx]
  refine aw_if_eq (tgt := 23) hC dX12_key_6 (by decide) (fun _ => ?_) (fun h1 => absurd h1 (by decide))
  show AW X 0 0 23 [some (.ref 44), some (.int x), some (.int y0), some (.int y1), none, none] [.ref 44] T I J R
  refine aw_iconst (v := 1) hC dX12_key_23 (by decide) ?_
  refine aw_goto (tgt := 66) hC dX12_key_24 (by decide) ?_
  refine aw_putI hC dX12_key_66 aF_X12_166 rfl rfl (tg_44 hT) ?_
  refine aw_aload_n hC dX12_key_69 rfl ?_
  refine aw_getI hC dX12_key_70 aF_X12_166 rfl (tg_44 hT) ?_
  rw [a_u_self (f := I) (o := 44) (k := 61) (v := 1)]
  refine aw_if_le (tgt := 78) hC dX12_key_73 (by decide) (fun h2 => absurd h2 (by decide)) (fun _ => ?_)
  show AW X 0 0 76 [some (.ref 44), some (.int x), some (.int y0), some (.int y1), none, none] [] T (a_u I 44 61 1) J R
  refine aw_iconst (v := 0) hC dX12_key_76 (by decide) ?_
  exact aw_ireturn hC hq rfl dX12_key_77 a_le a_le (aPure_e (by clear hC hq; (try simp only [bI_e0, bI_n0, decide_eq_false_iff_not, decide_eq_true_eq, Classical.not_not] at *) <;> first | grind [nI_p1, a_u_2] | (exfalso; (simp only [i_le, i_lt, i_eq, Int32.reduceToInt] at *); omega)) (by clear hC hq; (try simp only [bI_e0, bI_n0, decide_eq_false_iff_not, decide_eq_true_eq, Classical.not_not] at *) <;> first | grind [nI_p1, a_u_2] | (exfalso; (simp only [i_le, i_lt, i_eq, Int32.reduceToInt] at *); omega)) rfl rfl)
set_option maxRecDepth 100000 in
theorem m_X12_unkeyF1 {T : List aT} {I : aI} {J : aJ} {R : aR} (hT : aPT T) (hR : aPR R) {g : Nat} (hg : I 44 20 = nI g) (hg9 : g ≤ 4) (x y0 : Int32) (hx : ¬ (0 ≤ x ∧ x < nI g)) : MX12_unkey 0 0 [.ref 44, .int x, .int y0] T I J R (aPure (some (.int (0))) T (a_u I 44 61 1) J R) := by
  refine a_met (by decide +kernel) a_le (fun X hC hq => ?_)
  show AW X 0 0 0 [some (.ref 44), some (.int x), some (.int y0), none, none] [] T I J R
  refine aw_aload_n hC dX12_unkey_0 rfl ?_
  refine aw_aload_n hC dX12_unkey_1 rfl ?_
  refine aw_iload_n hC dX12_unkey_2 rfl ?_
  refine kX12_324 hC rfl (m_X12_isGenerator hT hR x (g := g) (by assumption) (by omega)) dX12_unkey_3 (tg_44 hT) rfl a_le a_le a_le a_le a_le rfl aPure_x (aPure_k ?_)
  show AW X 0 0 6 [some (.ref 44), some (.int x), some (.int y0), none, none] [.int (bI (decide (0 ≤ x ∧ x < nI g))), .ref 44] T I J R
  rw [show bI (decide (0 ≤ x ∧ x < nI g)) = 0 from bI_zero hx]
  refine aw_if_eq (tgt := 25) hC dX12_unkey_6 (by decide) (fun _ => ?_) (fun h1 => absurd h1 (by decide))
  show AW X 0 0 25 [some (.ref 44), some (.int x), some (.int y0), none, none] [.ref 44] T I J R
  refine aw_iconst (v := 1) hC dX12_unkey_25 (by decide) ?_
  refine aw_goto (tgt := 30) hC dX12_unkey_26 (by decide) ?_
  refine aw_putI hC dX12_unkey_30 aF_X12_166 rfl rfl (tg_44 hT) ?_
  refine aw_aload_n hC dX12_unkey_33 rfl ?_
  refine aw_getI hC dX12_unkey_34 aF_X12_166 rfl (tg_44 hT) ?_
  rw [a_u_self (f := I) (o := 44) (k := 61) (v := 1)]
  refine aw_if_le (tgt := 42) hC dX12_unkey_37 (by decide) (fun h2 => absurd h2 (by decide)) (fun _ => ?_)
  show AW X 0 0 40 [some (.ref 44), some (.int x), some (.int y0), none, none] [] T (a_u I 44 61 1) J R
  refine aw_iconst (v := 0) hC dX12_unkey_40 (by decide) ?_
  exact aw_ireturn hC hq rfl dX12_unkey_41 a_le a_le (aPure_e (by clear hC hq; (try simp only [bI_e0, bI_n0, decide_eq_false_iff_not, decide_eq_true_eq, Classical.not_not] at *) <;> first | grind [nI_p1, a_u_2] | (exfalso; (simp only [i_le, i_lt, i_eq, Int32.reduceToInt] at *); omega)) (by clear hC hq; (try simp only [bI_e0, bI_n0, decide_eq_false_iff_not, decide_eq_true_eq, Classical.not_not] at *) <;> first | grind [nI_p1, a_u_2] | (exfalso; (simp only [i_le, i_lt, i_eq, Int32.reduceToInt] at *); omega)) rfl rfl)
set_option maxRecDepth 100000 in
theorem m_X12_keyF2 {T : List aT} {I : aI} {J : aJ} {R : aR} (hT : aPT T) (hR : aPR R) {g : Nat} (hg : I 44 20 = nI g) (hg9 : g ≤ 4) (hk : NR I 63 4 9) {a : Nat} (ha : a < g) (p x : Int32) (hbad : ¬ ((0 ≤ p ∧ p ≤ nI (iN I 63 a)) ∧ (0 ≤ x ∧ x ≤ 15) ∧ anyB (fun j => decide (I 64 (8 * a + j) = x)) (iN I 63 a) = false ∧ iN I 63 a ≠ 8)) : MX12_key 0 0 [.ref 44, .int (nI a), .int p, .int x] T I J R (aPure (some (.int (0))) T (a_u I 44 61 (if 0 ≤ p ∧ p ≤ nI (iN I 63 a) then (if 0 ≤ x ∧ x ≤ 15 then 3 else 2) else 1)) J R) := by
  refine a_met (by decide +kernel) a_le (fun X hC hq => ?_)
  show AW X 0 0 0 [some (.ref 44), some (.int (nI a)), some (.int p), some (.int x), none, none] [] T I J R
  refine aw_aload_n hC dX12_key_0 rfl ?_
  refine aw_aload_n hC dX12_key_1 rfl ?_
  refine aw_iload_n hC dX12_key_2 rfl ?_
  refine kX12_324 hC rfl (m_X12_isGenerator hT hR (nI a) (g := g) (by assumption) (by omega)) dX12_key_3 (tg_44 hT) rfl a_le a_le a_le a_le a_le rfl aPure_x (aPure_k ?_)
  show AW X 0 0 6 [some (.ref 44), some (.int (nI a)), some (.int p), some (.int x), none, none] [.int (bI (decide (0 ≤ (nI a) ∧ (nI a) < nI g))), .ref 44] T I J R
  rw [show bI (decide (0 ≤ (nI a) ∧ (nI a) < nI g)) = 1 from bI_one (nI_btw ha (by omega))]
  refine aw_if_eq (tgt := 23) hC dX12_key_6 (by decide) (fun h1 => absurd h1 (by decide)) (fun _ => ?_)
  show AW X 0 0 9 [some (.ref 44), some (.int (nI a)), some (.int p), some (.int x), none, none] [.ref 44] T I J R
  refine aw_iload_n hC dX12_key_9 rfl ?_
  refine aw_iconst (v := 0) hC dX12_key_10 (by decide) ?_
  refine aw_aload_n hC dX12_key_11 rfl ?_
  refine aw_getR hC dX12_key_12 aF_X12_65 rfl (tg_44 hT) (pr_44_22 hR) ?_
  refine aw_iload_n hC dX12_key_15 rfl ?_
  refine aw_iaload_k (j := a) hC dX12_key_16 (tg_63 hT) (nI_clamp (by omega)) (vp_in_nI (by omega) (by decide)) ?_
  have hb2 := hk a (by omega)
  rw [hb2.1]
  refine kX12_169 hC rfl (m_X12_isIn p (0 : Int32) (nI (iN I 63 a))) dX12_key_17 rfl a_le a_le a_le a_le a_le rfl aPure_x (aPure_k ?_)
  show AW X 0 0 20 [some (.ref 44), some (.int (nI a)), some (.int p), some (.int x), none, none] [.int (bI (decide ((0 : Int32) ≤ p ∧ p ≤ (nI (iN I 63 a))))), .ref 44] T I J R
  refine aw_if_ne (tgt := 27) hC dX12_key_20 (by decide) (fun h3 => ?_) (fun h3 => ?_)
  · show AW X 0 0 27 [some (.ref 44), some (.int (nI a)), some (.int p), some (.int x), none, none] [.ref 44] T I J R
    refine aw_iload_n hC dX12_key_27 rfl ?_
    refine aw_iconst (v := 0) hC dX12_key_28 (by decide) ?_
    refine aw_bipush (v := 15) hC dX12_key_29 (by decide) ?_
    refine kX12_169 hC rfl (m_X12_isIn x (0 : Int32) (15 : Int32)) dX12_key_31 rfl a_le a_le a_le a_le a_le rfl aPure_x (aPure_k ?_)
    show AW X 0 0 34 [some (.ref 44), some (.int (nI a)), some (.int p), some (.int x), none, none] [.int (bI (decide ((0 : Int32) ≤ x ∧ x ≤ (15 : Int32)))), .ref 44] T I J R
    refine aw_if_ne (tgt := 41) hC dX12_key_34 (by decide) (fun h4 => ?_) (fun h4 => ?_)
    · show AW X 0 0 41 [some (.ref 44), some (.int (nI a)), some (.int p), some (.int x), none, none] [.ref 44] T I J R
      refine aw_aload_n hC dX12_key_41 rfl ?_
      refine aw_iload_n hC dX12_key_42 rfl ?_
      refine aw_iload_n hC dX12_key_43 rfl ?_
      refine kX12_327 hC rfl (m_X12_hasKey hT hR (g := a) (by omega) hk x) dX12_key_44 (tg_44 hT) rfl a_le a_le a_le a_le a_le rfl aPure_x (aPure_k ?_)
      show AW X 0 0 47 [some (.ref 44), some (.int (nI a)), some (.int p), some (.int x), none, none] [.int (bI (anyB (fun j => decide (I 64 (8 * a + j) = x)) (iN I 63 a))), .ref 44] T I J R
      refine aw_if_ne (tgt := 61) hC dX12_key_47 (by decide) (fun h5 => ?_) (fun h5 => ?_)
      · show AW X 0 0 61 [some (.ref 44), some (.int (nI a)), some (.int p), some (.int x), none, none] [.ref 44] T I J R
        refine aw_iconst (v := 3) hC dX12_key_61 (by decide) ?_
        refine aw_goto (tgt := 66) hC dX12_key_62 (by decide) ?_
        refine aw_putI hC dX12_key_66 aF_X12_166 rfl rfl (tg_44 hT) ?_
        refine aw_aload_n hC dX12_key_69 rfl ?_
        refine aw_getI hC dX12_key_70 aF_X12_166 rfl (tg_44 hT) ?_
        rw [a_u_self (f := I) (o := 44) (k := 61) (v := 3)]
        refine aw_if_le (tgt := 78) hC dX12_key_73 (by decide) (fun h6 => absurd h6 (by decide)) (fun _ => ?_)
        show AW X 0 0 76 [some (.ref 44), some (.int (nI a)), some (.int p), some (.int x), none, none] [] T (a_u I 44 61 3) J R
        refine aw_iconst (v := 0) hC dX12_key_76 (by decide) ?_
        exact aw_ireturn hC hq rfl dX12_key_77 a_le a_le (aPure_e (by clear hC hq; (try simp only [bI_e0, bI_n0, decide_eq_false_iff_not, decide_eq_true_eq, Classical.not_not] at *) <;> first | grind [nI_p1, a_u_2] | (exfalso; (simp only [i_le, i_lt, i_eq, Int32.reduceToInt] at *); omega)) (by clear hC hq; (try simp only [bI_e0, bI_n0, decide_eq_false_iff_not, decide_eq_true_eq, Classical.not_not] at *) <;> first | grind [nI_p1, a_u_2] | (exfalso; (simp only [i_le, i_lt, i_eq, Int32.reduceToInt] at *); omega)) rfl rfl)
      · show AW X 0 0 50 [some (.ref 44), some (.int (nI a)), some (.int p), some (.int x), none, none] [.ref 44] T I J R
        refine aw_aload_n hC dX12_key_50 rfl ?_
        refine aw_getR hC dX12_key_51 aF_X12_65 rfl (tg_44 hT) (pr_44_22 hR) ?_
        refine aw_iload_n hC dX12_key_54 rfl ?_
        refine aw_iaload_k (j := a) hC dX12_key_55 (tg_63 hT) (nI_clamp (by omega)) (vp_in_nI (by omega) (by decide)) ?_
        have hb7 := hk a (by omega)
        rw [hb7.1]
        refine aw_bipush (v := 8) hC dX12_key_56 (by decide) ?_
        refine aw_icmp_ne (tgt := 65) hC dX12_key_58 (by decide) (fun h8 => ?_) (fun h8 => ?_)
        · show AW X 0 0 65 [some (.ref 44), some (.int (nI a)), some (.int p), some (.int x), none, none] [.ref 44] T I J R
          have h8n : ¬ (iN I 63 a) = 8 := fun q9 => h8 ((nI_eq (a := (iN I 63 a)) (b := 8) (by omega) (by omega)).mpr q9)
          refine aw_iconst (v := 0) hC dX12_key_65 (by decide) ?_
          refine aw_putI hC dX12_key_66 aF_X12_166 rfl rfl (tg_44 hT) ?_
          refine aw_aload_n hC dX12_key_69 rfl ?_
          refine aw_getI hC dX12_key_70 aF_X12_166 rfl (tg_44 hT) ?_
          rw [a_u_self (f := I) (o := 44) (k := 61) (v := 0)]
          refine aw_if_le (tgt := 78) hC dX12_key_73 (by decide) (fun _ => ?_) (fun h9 => absurd h9 (by decide))
          show AW X 0 0 78 [some (.ref 44), some (.int (nI a)), some (.int p), some (.int x), none, none] [] T (a_u I 44 61 0) J R
          exfalso; clear hC hq; (try simp only [bI_e0, bI_n0, decide_eq_false_iff_not, decide_eq_true_eq, Classical.not_not] at *); grind
        · show AW X 0 0 61 [some (.ref 44), some (.int (nI a)), some (.int p), some (.int x), none, none] [.ref 44] T I J R
          have h8n : (iN I 63 a) = 8 := (nI_eq (a := (iN I 63 a)) (b := 8) (by omega) (by omega)).mp h8
          refine aw_iconst (v := 3) hC dX12_key_61 (by decide) ?_
          refine aw_goto (tgt := 66) hC dX12_key_62 (by decide) ?_
          refine aw_putI hC dX12_key_66 aF_X12_166 rfl rfl (tg_44 hT) ?_
          refine aw_aload_n hC dX12_key_69 rfl ?_
          refine aw_getI hC dX12_key_70 aF_X12_166 rfl (tg_44 hT) ?_
          rw [a_u_self (f := I) (o := 44) (k := 61) (v := 3)]
          refine aw_if_le (tgt := 78) hC dX12_key_73 (by decide) (fun h10 => absurd h10 (by decide)) (fun _ => ?_)
          show AW X 0 0 76 [some (.ref 44), some (.int (nI a)), some (.int p), some (.int x), none, none] [] T (a_u I 44 61 3) J R
          refine aw_iconst (v := 0) hC dX12_key_76 (by decide) ?_
          exact aw_ireturn hC hq rfl dX12_key_77 a_le a_le (aPure_e (by clear hC hq; (try simp only [bI_e0, bI_n0, decide_eq_false_iff_not, decide_eq_true_eq, Classical.not_not] at *) <;> first | grind [nI_p1, a_u_2] | (exfalso; (simp only [i_le, i_lt, i_eq, Int32.reduceToInt] at *); omega)) (by clear hC hq; (try simp only [bI_e0, bI_n0, decide_eq_false_iff_not, decide_eq_true_eq, Classical.not_not] at *) <;> first | grind [nI_p1, a_u_2] | (exfalso; (simp only [i_le, i_lt, i_eq, Int32.reduceToInt] at *); omega)) rfl rfl)
    · show AW X 0 0 37 [some (.ref 44), some (.int (nI a)), some (.int p), some (.int x), none, none] [.ref 44] T I J R
      refine aw_iconst (v := 2) hC dX12_key_37 (by decide) ?_
      refine aw_goto (tgt := 66) hC dX12_key_38 (by decide) ?_
      refine aw_putI hC dX12_key_66 aF_X12_166 rfl rfl (tg_44 hT) ?_
      refine aw_aload_n hC dX12_key_69 rfl ?_
      refine aw_getI hC dX12_key_70 aF_X12_166 rfl (tg_44 hT) ?_
      rw [a_u_self (f := I) (o := 44) (k := 61) (v := 2)]
      refine aw_if_le (tgt := 78) hC dX12_key_73 (by decide) (fun h11 => absurd h11 (by decide)) (fun _ => ?_)
      show AW X 0 0 76 [some (.ref 44), some (.int (nI a)), some (.int p), some (.int x), none, none] [] T (a_u I 44 61 2) J R
      refine aw_iconst (v := 0) hC dX12_key_76 (by decide) ?_
      exact aw_ireturn hC hq rfl dX12_key_77 a_le a_le (aPure_e (by clear hC hq; (try simp only [bI_e0, bI_n0, decide_eq_false_iff_not, decide_eq_true_eq, Classical.not_not] at *) <;> first | grind [nI_p1, a_u_2] | (exfalso; (simp only [i_le, i_lt, i_eq, Int32.reduceToInt] at *); omega)) (by clear hC hq; (try simp only [bI_e0, bI_n0, decide_eq_false_iff_not, decide_eq_true_eq, Classical.not_not] at *) <;> first | grind [nI_p1, a_u_2] | (exfalso; (simp only [i_le, i_lt, i_eq, Int32.reduceToInt] at *); omega)) rfl rfl)
  · show AW X 0 0 23 [some (.ref 44), some (.int (nI a)), some (.int p), some (.int x), none, none] [.ref 44] T I J R
    refine aw_iconst (v := 1) hC dX12_key_23 (by decide) ?_
    refine aw_goto (tgt := 66) hC dX12_key_24 (by decide) ?_
    refine aw_putI hC dX12_key_66 aF_X12_166 rfl rfl (tg_44 hT) ?_
    refine aw_aload_n hC dX12_key_69 rfl ?_
    refine aw_getI hC dX12_key_70 aF_X12_166 rfl (tg_44 hT) ?_
    rw [a_u_self (f := I) (o := 44) (k := 61) (v := 1)]
    refine aw_if_le (tgt := 78) hC dX12_key_73 (by decide) (fun h12 => absurd h12 (by decide)) (fun _ => ?_)
    show AW X 0 0 76 [some (.ref 44), some (.int (nI a)), some (.int p), some (.int x), none, none] [] T (a_u I 44 61 1) J R
    refine aw_iconst (v := 0) hC dX12_key_76 (by decide) ?_
    exact aw_ireturn hC hq rfl dX12_key_77 a_le a_le (aPure_e (by clear hC hq; (try simp only [bI_e0, bI_n0, decide_eq_false_iff_not, decide_eq_true_eq, Classical.not_not] at *) <;> first | grind [nI_p1, a_u_2] | (exfalso; (simp only [i_le, i_lt, i_eq, Int32.reduceToInt] at *); omega)) (by clear hC hq; (try simp only [bI_e0, bI_n0, decide_eq_false_iff_not, decide_eq_true_eq, Classical.not_not] at *) <;> first | grind [nI_p1, a_u_2] | (exfalso; (simp only [i_le, i_lt, i_eq, Int32.reduceToInt] at *); omega)) rfl rfl)
set_option maxRecDepth 100000 in
theorem m_X12_unkeyF2 {T : List aT} {I : aI} {J : aJ} {R : aR} (hT : aPT T) (hR : aPR R) {g : Nat} (hg : I 44 20 = nI g) (hg9 : g ≤ 4) (hk : NR I 63 4 9) {a : Nat} (ha : a < g) (p : Int32) (hbad : ¬ (0 ≤ p ∧ p ≤ nI (iN I 63 a) - 1)) : MX12_unkey 0 0 [.ref 44, .int (nI a), .int p] T I J R (aPure (some (.int (0))) T (a_u I 44 61 1) J R) := by
  refine a_met (by decide +kernel) a_le (fun X hC hq => ?_)
  show AW X 0 0 0 [some (.ref 44), some (.int (nI a)), some (.int p), none, none] [] T I J R
  refine aw_aload_n hC dX12_unkey_0 rfl ?_
  refine aw_aload_n hC dX12_unkey_1 rfl ?_
  refine aw_iload_n hC dX12_unkey_2 rfl ?_
  refine kX12_324 hC rfl (m_X12_isGenerator hT hR (nI a) (g := g) (by assumption) (by omega)) dX12_unkey_3 (tg_44 hT) rfl a_le a_le a_le a_le a_le rfl aPure_x (aPure_k ?_)
  show AW X 0 0 6 [some (.ref 44), some (.int (nI a)), some (.int p), none, none] [.int (bI (decide (0 ≤ (nI a) ∧ (nI a) < nI g))), .ref 44] T I J R
  rw [show bI (decide (0 ≤ (nI a) ∧ (nI a) < nI g)) = 1 from bI_one (nI_btw ha (by omega))]
  refine aw_if_eq (tgt := 25) hC dX12_unkey_6 (by decide) (fun h1 => absurd h1 (by decide)) (fun _ => ?_)
  show AW X 0 0 9 [some (.ref 44), some (.int (nI a)), some (.int p), none, none] [.ref 44] T I J R
  refine aw_iload_n hC dX12_unkey_9 rfl ?_
  refine aw_iconst (v := 0) hC dX12_unkey_10 (by decide) ?_
  refine aw_aload_n hC dX12_unkey_11 rfl ?_
  refine aw_getR hC dX12_unkey_12 aF_X12_65 rfl (tg_44 hT) (pr_44_22 hR) ?_
  refine aw_iload_n hC dX12_unkey_15 rfl ?_
  refine aw_iaload_k (j := a) hC dX12_unkey_16 (tg_63 hT) (nI_clamp (by omega)) (vp_in_nI (by omega) (by decide)) ?_
  have hb2 := hk a (by omega)
  rw [hb2.1]
  refine aw_iconst (v := 1) hC dX12_unkey_17 (by decide) ?_
  refine aw_isub hC dX12_unkey_18 ?_
  refine kX12_169 hC rfl (m_X12_isIn p (0 : Int32) ((nI (iN I 63 a)) - 1)) dX12_unkey_19 rfl a_le a_le a_le a_le a_le rfl aPure_x (aPure_k ?_)
  show AW X 0 0 22 [some (.ref 44), some (.int (nI a)), some (.int p), none, none] [.int (bI (decide ((0 : Int32) ≤ p ∧ p ≤ ((nI (iN I 63 a)) - 1)))), .ref 44] T I J R
  rw [show bI (decide ((0 : Int32) ≤ p ∧ p ≤ ((nI (iN I 63 a)) - 1))) = 0 from bI_zero hbad]
  refine aw_if_ne (tgt := 29) hC dX12_unkey_22 (by decide) (fun h3 => absurd h3 (by decide)) (fun _ => ?_)
  show AW X 0 0 25 [some (.ref 44), some (.int (nI a)), some (.int p), none, none] [.ref 44] T I J R
  refine aw_iconst (v := 1) hC dX12_unkey_25 (by decide) ?_
  refine aw_goto (tgt := 30) hC dX12_unkey_26 (by decide) ?_
  refine aw_putI hC dX12_unkey_30 aF_X12_166 rfl rfl (tg_44 hT) ?_
  refine aw_aload_n hC dX12_unkey_33 rfl ?_
  refine aw_getI hC dX12_unkey_34 aF_X12_166 rfl (tg_44 hT) ?_
  rw [a_u_self (f := I) (o := 44) (k := 61) (v := 1)]
  refine aw_if_le (tgt := 42) hC dX12_unkey_37 (by decide) (fun h4 => absurd h4 (by decide)) (fun _ => ?_)
  show AW X 0 0 40 [some (.ref 44), some (.int (nI a)), some (.int p), none, none] [] T (a_u I 44 61 1) J R
  refine aw_iconst (v := 0) hC dX12_unkey_40 (by decide) ?_
  exact aw_ireturn hC hq rfl dX12_unkey_41 a_le a_le (aPure_e (by clear hC hq; (try simp only [bI_e0, bI_n0, decide_eq_false_iff_not, decide_eq_true_eq, Classical.not_not] at *) <;> first | grind [nI_p1, a_u_2] | (exfalso; (simp only [i_le, i_lt, i_eq, Int32.reduceToInt] at *); omega)) (by clear hC hq; (try simp only [bI_e0, bI_n0, decide_eq_false_iff_not, decide_eq_true_eq, Classical.not_not] at *) <;> first | grind [nI_p1, a_u_2] | (exfalso; (simp only [i_le, i_lt, i_eq, Int32.reduceToInt] at *); omega)) rfl rfl)
set_option maxRecDepth 100000 in
theorem m_X12_unkeyT {T : List aT} {I : aI} {J : aJ} {R : aR} (hT : aPT T) (hR : aPR R) {g : Nat} (hg : I 44 20 = nI g) (hg9 : g ≤ 4) (hk : NR I 63 4 9) {a p : Nat} (ha : a < g) (hp : p < iN I 63 a) : MX12_unkey 0 0 [.ref 44, .int (nI a), .int (nI p)] T I J R (aPure (some (.int (I 64 (8 * a + p)))) T (a_ur (a_u (a_u I 44 61 0) 63 a (nI (iN I 63 a - 1))) 64 (kDel (I 64) (8 * a) p (iN I 63 a))) J R) := by
  refine a_met (by decide +kernel) a_le (fun X hC hq => ?_)
  show AW X 0 0 0 [some (.ref 44), some (.int (nI a)), some (.int (nI p)), none, none] [] T I J R
  refine aw_aload_n hC dX12_unkey_0 rfl ?_
  refine aw_aload_n hC dX12_unkey_1 rfl ?_
  refine aw_iload_n hC dX12_unkey_2 rfl ?_
  refine kX12_324 hC rfl (m_X12_isGenerator hT hR (nI a) (g := g) (by assumption) (by omega)) dX12_unkey_3 (tg_44 hT) rfl a_le a_le a_le a_le a_le rfl aPure_x (aPure_k ?_)
  show AW X 0 0 6 [some (.ref 44), some (.int (nI a)), some (.int (nI p)), none, none] [.int (bI (decide (0 ≤ (nI a) ∧ (nI a) < nI g))), .ref 44] T I J R
  rw [show bI (decide (0 ≤ (nI a) ∧ (nI a) < nI g)) = 1 from bI_one (nI_btw ha (by omega))]
  refine aw_if_eq (tgt := 25) hC dX12_unkey_6 (by decide) (fun h1 => absurd h1 (by decide)) (fun _ => ?_)
  show AW X 0 0 9 [some (.ref 44), some (.int (nI a)), some (.int (nI p)), none, none] [.ref 44] T I J R
  refine aw_iload_n hC dX12_unkey_9 rfl ?_
  refine aw_iconst (v := 0) hC dX12_unkey_10 (by decide) ?_
  refine aw_aload_n hC dX12_unkey_11 rfl ?_
  refine aw_getR hC dX12_unkey_12 aF_X12_65 rfl (tg_44 hT) (pr_44_22 hR) ?_
  refine aw_iload_n hC dX12_unkey_15 rfl ?_
  refine aw_iaload_k (j := a) hC dX12_unkey_16 (tg_63 hT) (nI_clamp (by omega)) (vp_in_nI (by omega) (by decide)) ?_
  have hb2 := hk a (by omega)
  rw [hb2.1]
  refine aw_iconst (v := 1) hC dX12_unkey_17 (by decide) ?_
  refine aw_isub hC dX12_unkey_18 ?_
  rw [show (nI (iN I 63 a)) - 1 = nI ((iN I 63 a) - 1) from pk_sub (a := (iN I 63 a)) (b := 1) (by omega)]
  refine kX12_169 hC rfl (m_X12_isIn (nI p) (0 : Int32) (nI ((iN I 63 a) - 1))) dX12_unkey_19 rfl a_le a_le a_le a_le a_le rfl aPure_x (aPure_k ?_)
  show AW X 0 0 22 [some (.ref 44), some (.int (nI a)), some (.int (nI p)), none, none] [.int (bI (decide ((0 : Int32) ≤ (nI p) ∧ (nI p) ≤ (nI ((iN I 63 a) - 1))))), .ref 44] T I J R
  rw [show bI (decide ((0 : Int32) ≤ (nI p) ∧ (nI p) ≤ (nI ((iN I 63 a) - 1)))) = 1 from bI_one ⟨nI_pos' (by omega), nI_le (by omega) (by omega)⟩]
  refine aw_if_ne (tgt := 29) hC dX12_unkey_22 (by decide) (fun _ => ?_) (fun h3 => absurd h3 (by decide))
  show AW X 0 0 29 [some (.ref 44), some (.int (nI a)), some (.int (nI p)), none, none] [.ref 44] T I J R
  refine aw_iconst (v := 0) hC dX12_unkey_29 (by decide) ?_
  refine aw_putI hC dX12_unkey_30 aF_X12_166 rfl rfl (tg_44 hT) ?_
  refine aw_aload_n hC dX12_unkey_33 rfl ?_
  refine aw_getI hC dX12_unkey_34 aF_X12_166 rfl (tg_44 hT) ?_
  rw [a_u_self (f := I) (o := 44) (k := 61) (v := 0)]
  refine aw_if_le (tgt := 42) hC dX12_unkey_37 (by decide) (fun _ => ?_) (fun h4 => absurd h4 (by decide))
  show AW X 0 0 42 [some (.ref 44), some (.int (nI a)), some (.int (nI p)), none, none] [] T (a_u I 44 61 0) J R
  refine aw_aload_n hC dX12_unkey_42 rfl ?_
  refine aw_getR hC dX12_unkey_43 aF_X12_68 rfl (tg_44 hT) (pr_44_23 hR) ?_
  refine aw_bipush (v := 8) hC dX12_unkey_46 (by decide) ?_
  refine aw_iload_n hC dX12_unkey_48 rfl ?_
  refine aw_imul hC dX12_unkey_49 ?_
  rw [show 8 * (nI a) = nI (8 * a) from pk_mul 8 a]
  refine aw_iload_n hC dX12_unkey_50 rfl ?_
  refine aw_iadd hC dX12_unkey_51 ?_
  rw [show (nI (8 * a)) + (nI p) = nI ((8 * a) + p) from nI_add (8 * a) p]
  refine aw_iaload_k (j := ((8 * a) + p)) hC dX12_unkey_52 (tg_64 hT) (nI_clamp (by omega)) (vp_in_nI (by omega) (by decide)) ?_
  rw [a_u_ne (f := I) (o := 44) (k := 61) (a := 64) (b := ((8 * a) + p)) (v := 0) (fun q => absurd q.1 (by decide))]
  refine aw_istore_n (L2 := [some (.ref 44), some (.int (nI a)), some (.int (nI p)), some (.int (I 64 ((8 * a) + p))), none]) hC dX12_unkey_53 rfl (by decide) rfl ?_
  refine aw_aload_n hC dX12_unkey_54 rfl ?_
  refine aw_getR hC dX12_unkey_55 aF_X12_65 rfl (tg_44 hT) (pr_44_22 hR) ?_
  refine aw_iload_n hC dX12_unkey_58 rfl ?_
  refine aw_dup2 hC dX12_unkey_59 rfl rfl ?_
  refine aw_iaload_k (j := a) hC dX12_unkey_60 (tg_63 hT) (nI_clamp (by omega)) (vp_in_nI (by omega) (by decide)) ?_
  rw [a_u_ne (f := I) (o := 44) (k := 61) (a := 63) (b := a) (v := 0) (fun q => absurd q.1 (by decide))]
  have hb5 := hk a (by omega)
  rw [hb5.1]
  refine aw_iconst (v := 1) hC dX12_unkey_61 (by decide) ?_
  refine aw_isub hC dX12_unkey_62 ?_
  rw [show (nI (iN I 63 a)) - 1 = nI ((iN I 63 a) - 1) from pk_sub (a := (iN I 63 a)) (b := 1) (by omega)]
  refine aw_iastore_k (j := a) hC dX12_unkey_63 (tg_63 hT) (nI_clamp (by omega)) (vp_in_nI (by omega) (by decide)) ?_
  refine aw_iload_n hC dX12_unkey_64 rfl ?_
  refine aw_istore (L2 := [some (.ref 44), some (.int (nI a)), some (.int (nI p)), some (.int (I 64 ((8 * a) + p))), some (.int (nI p))]) hC dX12_unkey_65 (by decide) rfl ?_
  have e0 : a_u (a_u I 44 61 0) 63 a (nI (iN I 63 a - 1)) = a_ur (a_u (a_u I 44 61 0) 63 a (nI (iN I 63 a - 1))) 64 (fun j => if 8 * a + p ≤ j ∧ j < 8 * a + p then I 64 (j + 1) else I 64 j) := ((a_ur_id (fun j => by rw [if_neg (by omega), a_u_ne (fun q => absurd q.1 (by decide)), a_u_ne (fun q => absurd q.1 (by decide))])).symm)
  rw [e0]
  have loop : ∀ k, k ≤ (iN I 63 a - 1) → p ≤ k → AW X 0 0 67 [some (.ref 44), some (.int (nI a)), some (.int (nI p)), some (.int (I 64 ((8 * a) + p))), some (.int (nI k))] [] T (a_ur (a_u (a_u I 44 61 0) 63 a (nI (iN I 63 a - 1))) 64 (fun j => if 8 * a + p ≤ j ∧ j < 8 * a + k then I 64 (j + 1) else I 64 j)) J R := by
    refine a_down (iN I 63 a - 1) (fun k hkloop ihloop => ?_)
    intro hcond
    refine aw_iload hC dX12_unkey_67 rfl ?_
    refine aw_aload_n hC dX12_unkey_69 rfl ?_
    refine aw_getR hC dX12_unkey_70 aF_X12_65 rfl (tg_44 hT) (pr_44_22 hR) ?_
    refine aw_iload_n hC dX12_unkey_73 rfl ?_
    refine aw_iaload_k (j := a) hC dX12_unkey_74 (tg_63 hT) (nI_clamp (by omega)) (vp_in_nI (by omega) (by decide)) ?_
    rw [a_ur_ne (f := a_u (a_u I 44 61 0) 63 a (nI (iN I 63 a - 1))) (o := 64) (a := 63) (g := fun j => if 8 * a + p ≤ j ∧ j < 8 * a + k then I 64 (j + 1) else I 64 j) (by decide)]
    rw [a_u_self (f := a_u I 44 61 0) (o := 63) (k := a) (v := nI (iN I 63 a - 1))]
    refine aw_icmp_ge (tgt := 110) hC dX12_unkey_75 (by decide) (fun h6 => ?_) (fun h6 => ?_)
    · show AW X 0 0 110 [some (.ref 44), some (.int (nI a)), some (.int (nI p)), some (.int (I 64 ((8 * a) + p))), some (.int (nI k))] [] T (a_ur (a_u (a_u I 44 61 0) 63 a (nI (iN I 63 a - 1))) 64 (fun j => if 8 * a + p ≤ j ∧ j < 8 * a + k then I 64 (j + 1) else I 64 j)) J R
      have h6n : (iN I 63 a - 1) ≤ k := (nI_leI (a := (iN I 63 a - 1)) (b := k) (by omega) (by omega)).mp h6
      refine aw_iload_n hC dX12_unkey_110 rfl ?_
      exact aw_ireturn hC hq rfl dX12_unkey_111 a_le a_le (aPure_e rfl (a_ur_ext (fun j => by clear hC hq; (try dsimp only); grind)) rfl rfl)
    · show AW X 0 0 78 [some (.ref 44), some (.int (nI a)), some (.int (nI p)), some (.int (I 64 ((8 * a) + p))), some (.int (nI k))] [] T (a_ur (a_u (a_u I 44 61 0) 63 a (nI (iN I 63 a - 1))) 64 (fun j => if 8 * a + p ≤ j ∧ j < 8 * a + k then I 64 (j + 1) else I 64 j)) J R
      have h6n : ¬ (iN I 63 a - 1) ≤ k := fun q9 => h6 ((nI_leI (a := (iN I 63 a - 1)) (b := k) (by omega) (by omega)).mpr q9)
      refine aw_aload_n hC dX12_unkey_78 rfl ?_
      refine aw_getR hC dX12_unkey_79 aF_X12_68 rfl (tg_44 hT) (pr_44_23 hR) ?_
      refine aw_bipush (v := 8) hC dX12_unkey_82 (by decide) ?_
      refine aw_iload_n hC dX12_unkey_84 rfl ?_
      refine aw_imul hC dX12_unkey_85 ?_
      rw [show 8 * (nI a) = nI (8 * a) from pk_mul 8 a]
      refine aw_iload hC dX12_unkey_86 rfl ?_
      refine aw_iadd hC dX12_unkey_88 ?_
      rw [show (nI (8 * a)) + (nI k) = nI ((8 * a) + k) from nI_add (8 * a) k]
      refine aw_aload_n hC dX12_unkey_89 rfl ?_
      refine aw_getR hC dX12_unkey_90 aF_X12_68 rfl (tg_44 hT) (pr_44_23 hR) ?_
      refine aw_bipush (v := 8) hC dX12_unkey_93 (by decide) ?_
      refine aw_iload_n hC dX12_unkey_95 rfl ?_
      refine aw_imul hC dX12_unkey_96 ?_
      rw [show 8 * (nI a) = nI (8 * a) from pk_mul 8 a]
      refine aw_iload hC dX12_unkey_97 rfl ?_
      refine aw_iadd hC dX12_unkey_99 ?_
      rw [show (nI (8 * a)) + (nI k) = nI ((8 * a) + k) from nI_add (8 * a) k]
      refine aw_iconst (v := 1) hC dX12_unkey_100 (by decide) ?_
      refine aw_iadd hC dX12_unkey_101 ?_
      rw [show (nI ((8 * a) + k)) + 1 = nI (((8 * a) + k) + 1) from nI_add ((8 * a) + k) 1]
      refine aw_iaload_k (j := (((8 * a) + k) + 1)) hC dX12_unkey_102 (tg_64 hT) (nI_clamp (by omega)) (vp_in_nI (by omega) (by decide)) ?_
      rw [a_ur_self (f := a_u (a_u I 44 61 0) 63 a (nI (iN I 63 a - 1))) (o := 64) (g := fun j => if 8 * a + p ≤ j ∧ j < 8 * a + k then I 64 (j + 1) else I 64 j)]
      refine aw_iastore_k (j := ((8 * a) + k)) hC dX12_unkey_103 (tg_64 hT) (nI_clamp (by omega)) (vp_in_nI (by omega) (by decide)) ?_
      refine aw_iinc (v := nI (k + 1)) (L2 := [some (.ref 44), some (.int (nI a)), some (.int (nI p)), some (.int (I 64 ((8 * a) + p))), some (.int (nI (k + 1)))]) hC dX12_unkey_104 rfl (nI_inc _) (by decide) rfl ?_
      refine aw_goto (tgt := 67) hC dX12_unkey_107 (by decide) ?_
      rw [show a_u (a_ur (a_u (a_u I 44 61 0) 63 a (nI (iN I 63 a - 1))) 64 (fun j => if 8 * a + p ≤ j ∧ j < 8 * a + k then I 64 (j + 1) else I 64 j)) 64 ((8 * a) + k) ((fun j => if 8 * a + p ≤ j ∧ j < 8 * a + k then I 64 (j + 1) else I 64 j) (((8 * a) + k) + 1)) = a_ur (a_u (a_u I 44 61 0) 63 a (nI (iN I 63 a - 1))) 64 (fun j => if 8 * a + p ≤ j ∧ j < 8 * a + (k + 1) then I 64 (j + 1) else I 64 j) from by rw [a_ur_put]; exact a_ur_ext (fun j => by clear hC hq; (try dsimp only); grind)]
      exact ihloop (by omega) (by omega)
  exact loop p (by omega) (Nat.le_refl _)
set_option maxRecDepth 100000 in
theorem m_X12_hasN {T : List aT} {I : aI} {J : aJ} {R : aR} (hT : aPT T) (hR : aPR R) {t a : Nat} (ht : t < 3) (ha : a < 3) (f : Int32) : MX12_has 0 0 [.ref 44, .int (nI t), .int (nI a), .int f] T I J R (aPure (some (.int (bI (decide (I 58 (3 * t + a) &&& f ≠ 0))))) T I J R) := by
  refine a_met (by decide +kernel) a_le (fun X hC hq => ?_)
  show AW X 0 0 0 [some (.ref 44), some (.int (nI t)), some (.int (nI a)), some (.int f)] [] T I J R
  refine aw_aload_n hC dX12_has_0 rfl ?_
  refine aw_getR hC dX12_has_1 aF_X12_50 rfl (tg_44 hT) (pr_44_16 hR) ?_
  refine aw_iconst (v := 3) hC dX12_has_4 (by decide) ?_
  refine aw_iload_n hC dX12_has_5 rfl ?_
  refine aw_imul hC dX12_has_6 ?_
  rw [show 3 * (nI t) = nI (3 * t) from pk_mul 3 t]
  refine aw_iload_n hC dX12_has_7 rfl ?_
  refine aw_iadd hC dX12_has_8 ?_
  rw [show (nI (3 * t)) + (nI a) = nI ((3 * t) + a) from nI_add (3 * t) a]
  refine aw_iaload_k (j := ((3 * t) + a)) hC dX12_has_9 (tg_58 hT) (nI_clamp (by omega)) (vp_in_nI (by omega) (by decide)) ?_
  refine aw_iload_n hC dX12_has_10 rfl ?_
  refine aw_iand hC dX12_has_11 ?_
  refine aw_if_eq (tgt := 19) hC dX12_has_12 (by decide) (fun h1 => ?_) (fun h1 => ?_)
  · show AW X 0 0 19 [some (.ref 44), some (.int (nI t)), some (.int (nI a)), some (.int f)] [] T I J R
    refine aw_iconst (v := 0) hC dX12_has_19 (by decide) ?_
    exact aw_zreturn hC hq rfl (Or.inl rfl) dX12_has_20 a_le a_le (aPure_i (bI_no (by clear hC hq; (try simp only [bI_e0, bI_n0, decide_eq_false_iff_not, decide_eq_true_eq, Classical.not_not] at *) <;> first | grind [nI_p1, a_u_2] | (exfalso; (simp only [i_le, i_lt, i_eq, Int32.reduceToInt] at *); omega))))
  · show AW X 0 0 15 [some (.ref 44), some (.int (nI t)), some (.int (nI a)), some (.int f)] [] T I J R
    refine aw_iconst (v := 1) hC dX12_has_15 (by decide) ?_
    refine aw_goto (tgt := 20) hC dX12_has_16 (by decide) ?_
    exact aw_zreturn hC hq rfl (Or.inr rfl) dX12_has_20 a_le a_le (aPure_i (bI_yes (by clear hC hq; (try simp only [bI_e0, bI_n0, decide_eq_false_iff_not, decide_eq_true_eq, Classical.not_not] at *) <;> first | grind [nI_p1, a_u_2] | (exfalso; (simp only [i_le, i_lt, i_eq, Int32.reduceToInt] at *); omega))))
set_option maxRecDepth 100000 in
theorem m_X12_sourceOfN {T : List aT} {I : aI} {J : aJ} {R : aR} {m : Nat} (h1 : 10 ≤ m) (h2 : m < 2147483648) : MX12_sourceOf 0 0 [.int (nI m)] T I J R (aPure (some (.int (nI ((m - 10) / 3)))) T I J R) := by
  refine a_met (by decide +kernel) a_le (fun X hC hq => ?_)
  show AW X 0 0 0 [some (.int (nI m))] [] T I J R
  refine aw_iload_n hC dX12_sourceOf_0 rfl ?_
  refine aw_bipush (v := 10) hC dX12_sourceOf_1 (by decide) ?_
  refine aw_isub hC dX12_sourceOf_3 ?_
  rw [show (nI m) - 10 = nI (m - 10) from pk_sub (a := m) (b := 10) (by omega)]
  refine aw_iconst (v := 3) hC dX12_sourceOf_4 (by decide) ?_
  refine aw_idiv hC dX12_sourceOf_5 (by decide) ?_
  rw [show (nI (m - 10)) / 3 = nI ((m - 10) / 3) from pk_div (a := (m - 10)) (d := 3) (by omega) (by decide) (by decide)]
  exact aw_ireturn hC hq rfl dX12_sourceOf_6 a_le a_le (aPure_i (by rfl))
set_option maxRecDepth 100000 in
theorem m_X12_bindF1 {T : List aT} {I : aI} {J : aJ} {R : aR} (hT : aPT T) (hR : aPR R) {g : Nat} (hg : I 44 20 = nI g) (hg9 : g ≤ 4) (x y0 y1 : Int32) (hx : ¬ (0 ≤ x ∧ x < nI g)) : MX12_bind 0 0 [.ref 44, .int x, .int y0, .int y1] T I J R (aPure (some (.int (0))) T (a_u I 44 61 1) J R) := by
  refine a_met (by decide +kernel) a_le (fun X hC hq => ?_)
  show AW X 0 0 0 [some (.ref 44), some (.int x), some (.int y0), some (.int y1), none, none, none] [] T I J R
  refine aw_aload_n hC dX12_bind_0 rfl ?_
  refine aw_iload_n hC dX12_bind_1 rfl ?_
  refine kX12_324 hC rfl (m_X12_isGenerator hT hR x (g := g) (by assumption) (by omega)) dX12_bind_2 (tg_44 hT) rfl a_le a_le a_le a_le a_le rfl aPure_x (aPure_k ?_)
  show AW X 0 0 5 [some (.ref 44), some (.int x), some (.int y0), some (.int y1), none, none, none] [.int (bI (decide (0 ≤ x ∧ x < nI g)))] T I J R
  rw [show bI (decide (0 ≤ x ∧ x < nI g)) = 0 from bI_zero hx]
  refine aw_if_eq (tgt := 35) hC dX12_bind_5 (by decide) (fun _ => ?_) (fun h1 => absurd h1 (by decide))
  show AW X 0 0 35 [some (.ref 44), some (.int x), some (.int y0), some (.int y1), none, none, none] [] T I J R
  refine aw_iconst (v := 0) hC dX12_bind_35 (by decide) ?_
  refine aw_istore (L2 := [some (.ref 44), some (.int x), some (.int y0), some (.int y1), some (.int 0), none, none]) hC dX12_bind_36 (by decide) rfl ?_
  refine aw_aload_n hC dX12_bind_38 rfl ?_
  refine aw_iload hC dX12_bind_39 rfl ?_
  refine aw_if_eq (tgt := 48) hC dX12_bind_41 (by decide) (fun _ => ?_) (fun h2 => absurd h2 (by decide))
  show AW X 0 0 48 [some (.ref 44), some (.int x), some (.int y0), some (.int y1), some (.int 0), none, none] [.ref 44] T I J R
  refine aw_iconst (v := 1) hC dX12_bind_48 (by decide) ?_
  refine aw_putI hC dX12_bind_49 aF_X12_166 rfl rfl (tg_44 hT) ?_
  refine aw_aload_n hC dX12_bind_52 rfl ?_
  refine aw_getI hC dX12_bind_53 aF_X12_166 rfl (tg_44 hT) ?_
  rw [a_u_self (f := I) (o := 44) (k := 61) (v := 1)]
  refine aw_if_le (tgt := 61) hC dX12_bind_56 (by decide) (fun h3 => absurd h3 (by decide)) (fun _ => ?_)
  show AW X 0 0 59 [some (.ref 44), some (.int x), some (.int y0), some (.int y1), some (.int 0), none, none] [] T (a_u I 44 61 1) J R
  refine aw_iconst (v := 0) hC dX12_bind_59 (by decide) ?_
  exact aw_ireturn hC hq rfl dX12_bind_60 a_le a_le (aPure_e (by clear hC hq; (try simp only [bI_e0, bI_n0, decide_eq_false_iff_not, decide_eq_true_eq, Classical.not_not] at *) <;> first | grind [nI_p1, a_u_2] | (exfalso; (simp only [i_le, i_lt, i_eq, Int32.reduceToInt] at *); omega)) (by clear hC hq; (try simp only [bI_e0, bI_n0, decide_eq_false_iff_not, decide_eq_true_eq, Classical.not_not] at *) <;> first | grind [nI_p1, a_u_2] | (exfalso; (simp only [i_le, i_lt, i_eq, Int32.reduceToInt] at *); omega)) rfl rfl)
set_option maxRecDepth 100000 in
theorem m_X12_bindF2 {T : List aT} {I : aI} {J : aJ} {R : aR} (hT : aPT T) (hR : aPR R) {g : Nat} (hg : I 44 20 = nI g) (hg9 : g ≤ 4) {a : Nat} (ha : a < g) (b s : Int32) (hbad : ¬ ((0 ≤ b ∧ b ≤ 2) ∧ (-1 ≤ s ∧ s ≤ nI (9 + 3 * a)))) : MX12_bind 0 0 [.ref 44, .int (nI a), .int b, .int s] T I J R (aPure (some (.int (0))) T (a_u I 44 61 1) J R) := by
  refine a_met (by decide +kernel) a_le (fun X hC hq => ?_)
  show AW X 0 0 0 [some (.ref 44), some (.int (nI a)), some (.int b), some (.int s), none, none, none] [] T I J R
  refine aw_aload_n hC dX12_bind_0 rfl ?_
  refine aw_iload_n hC dX12_bind_1 rfl ?_
  refine kX12_324 hC rfl (m_X12_isGenerator hT hR (nI a) (g := g) (by assumption) (by omega)) dX12_bind_2 (tg_44 hT) rfl a_le a_le a_le a_le a_le rfl aPure_x (aPure_k ?_)
  show AW X 0 0 5 [some (.ref 44), some (.int (nI a)), some (.int b), some (.int s), none, none, none] [.int (bI (decide (0 ≤ (nI a) ∧ (nI a) < nI g)))] T I J R
  rw [show bI (decide (0 ≤ (nI a) ∧ (nI a) < nI g)) = 1 from bI_one (nI_btw ha (by omega))]
  refine aw_if_eq (tgt := 35) hC dX12_bind_5 (by decide) (fun h1 => absurd h1 (by decide)) (fun _ => ?_)
  show AW X 0 0 8 [some (.ref 44), some (.int (nI a)), some (.int b), some (.int s), none, none, none] [] T I J R
  refine aw_iload_n hC dX12_bind_8 rfl ?_
  refine aw_iconst (v := 0) hC dX12_bind_9 (by decide) ?_
  refine aw_iconst (v := 2) hC dX12_bind_10 (by decide) ?_
  refine kX12_169 hC rfl (m_X12_isIn b (0 : Int32) (2 : Int32)) dX12_bind_11 rfl a_le a_le a_le a_le a_le rfl aPure_x (aPure_k ?_)
  show AW X 0 0 14 [some (.ref 44), some (.int (nI a)), some (.int b), some (.int s), none, none, none] [.int (bI (decide ((0 : Int32) ≤ b ∧ b ≤ (2 : Int32))))] T I J R
  refine aw_if_eq (tgt := 35) hC dX12_bind_14 (by decide) (fun h2 => ?_) (fun h2 => ?_)
  · show AW X 0 0 35 [some (.ref 44), some (.int (nI a)), some (.int b), some (.int s), none, none, none] [] T I J R
    refine aw_iconst (v := 0) hC dX12_bind_35 (by decide) ?_
    refine aw_istore (L2 := [some (.ref 44), some (.int (nI a)), some (.int b), some (.int s), some (.int 0), none, none]) hC dX12_bind_36 (by decide) rfl ?_
    refine aw_aload_n hC dX12_bind_38 rfl ?_
    refine aw_iload hC dX12_bind_39 rfl ?_
    refine aw_if_eq (tgt := 48) hC dX12_bind_41 (by decide) (fun _ => ?_) (fun h3 => absurd h3 (by decide))
    show AW X 0 0 48 [some (.ref 44), some (.int (nI a)), some (.int b), some (.int s), some (.int 0), none, none] [.ref 44] T I J R
    refine aw_iconst (v := 1) hC dX12_bind_48 (by decide) ?_
    refine aw_putI hC dX12_bind_49 aF_X12_166 rfl rfl (tg_44 hT) ?_
    refine aw_aload_n hC dX12_bind_52 rfl ?_
    refine aw_getI hC dX12_bind_53 aF_X12_166 rfl (tg_44 hT) ?_
    rw [a_u_self (f := I) (o := 44) (k := 61) (v := 1)]
    refine aw_if_le (tgt := 61) hC dX12_bind_56 (by decide) (fun h4 => absurd h4 (by decide)) (fun _ => ?_)
    show AW X 0 0 59 [some (.ref 44), some (.int (nI a)), some (.int b), some (.int s), some (.int 0), none, none] [] T (a_u I 44 61 1) J R
    refine aw_iconst (v := 0) hC dX12_bind_59 (by decide) ?_
    exact aw_ireturn hC hq rfl dX12_bind_60 a_le a_le (aPure_e (by clear hC hq; (try simp only [bI_e0, bI_n0, decide_eq_false_iff_not, decide_eq_true_eq, Classical.not_not] at *) <;> first | grind [nI_p1, a_u_2] | (exfalso; (simp only [i_le, i_lt, i_eq, Int32.reduceToInt] at *); omega)) (by clear hC hq; (try simp only [bI_e0, bI_n0, decide_eq_false_iff_not, decide_eq_true_eq, Classical.not_not] at *) <;> first | grind [nI_p1, a_u_2] | (exfalso; (simp only [i_le, i_lt, i_eq, Int32.reduceToInt] at *); omega)) rfl rfl)
  · show AW X 0 0 17 [some (.ref 44), some (.int (nI a)), some (.int b), some (.int s), none, none, none] [] T I J R
    refine aw_iload_n hC dX12_bind_17 rfl ?_
    refine aw_iconst (v := (-1)) hC dX12_bind_18 (by decide) ?_
    refine aw_bipush (v := 9) hC dX12_bind_19 (by decide) ?_
    refine aw_iconst (v := 3) hC dX12_bind_21 (by decide) ?_
    refine aw_iload_n hC dX12_bind_22 rfl ?_
    refine aw_imul hC dX12_bind_23 ?_
    rw [show 3 * (nI a) = nI (3 * a) from pk_mul 3 a]
    refine aw_iadd hC dX12_bind_24 ?_
    rw [show 9 + (nI (3 * a)) = nI (9 + (3 * a)) from nI_add 9 (3 * a)]
    refine kX12_169 hC rfl (m_X12_isIn s ((-1) : Int32) (nI (9 + (3 * a)))) dX12_bind_25 rfl a_le a_le a_le a_le a_le rfl aPure_x (aPure_k ?_)
    show AW X 0 0 28 [some (.ref 44), some (.int (nI a)), some (.int b), some (.int s), none, none, none] [.int (bI (decide (((-1) : Int32) ≤ s ∧ s ≤ (nI (9 + (3 * a))))))] T I J R
    refine aw_if_eq (tgt := 35) hC dX12_bind_28 (by decide) (fun h5 => ?_) (fun h5 => ?_)
    · show AW X 0 0 35 [some (.ref 44), some (.int (nI a)), some (.int b), some (.int s), none, none, none] [] T I J R
      refine aw_iconst (v := 0) hC dX12_bind_35 (by decide) ?_
      refine aw_istore (L2 := [some (.ref 44), some (.int (nI a)), some (.int b), some (.int s), some (.int 0), none, none]) hC dX12_bind_36 (by decide) rfl ?_
      refine aw_aload_n hC dX12_bind_38 rfl ?_
      refine aw_iload hC dX12_bind_39 rfl ?_
      refine aw_if_eq (tgt := 48) hC dX12_bind_41 (by decide) (fun _ => ?_) (fun h6 => absurd h6 (by decide))
      show AW X 0 0 48 [some (.ref 44), some (.int (nI a)), some (.int b), some (.int s), some (.int 0), none, none] [.ref 44] T I J R
      refine aw_iconst (v := 1) hC dX12_bind_48 (by decide) ?_
      refine aw_putI hC dX12_bind_49 aF_X12_166 rfl rfl (tg_44 hT) ?_
      refine aw_aload_n hC dX12_bind_52 rfl ?_
      refine aw_getI hC dX12_bind_53 aF_X12_166 rfl (tg_44 hT) ?_
      rw [a_u_self (f := I) (o := 44) (k := 61) (v := 1)]
      refine aw_if_le (tgt := 61) hC dX12_bind_56 (by decide) (fun h7 => absurd h7 (by decide)) (fun _ => ?_)
      show AW X 0 0 59 [some (.ref 44), some (.int (nI a)), some (.int b), some (.int s), some (.int 0), none, none] [] T (a_u I 44 61 1) J R
      refine aw_iconst (v := 0) hC dX12_bind_59 (by decide) ?_
      exact aw_ireturn hC hq rfl dX12_bind_60 a_le a_le (aPure_e (by clear hC hq; (try simp only [bI_e0, bI_n0, decide_eq_false_iff_not, decide_eq_true_eq, Classical.not_not] at *) <;> first | grind [nI_p1, a_u_2] | (exfalso; (simp only [i_le, i_lt, i_eq, Int32.reduceToInt] at *); omega)) (by clear hC hq; (try simp only [bI_e0, bI_n0, decide_eq_false_iff_not, decide_eq_true_eq, Classical.not_not] at *) <;> first | grind [nI_p1, a_u_2] | (exfalso; (simp only [i_le, i_lt, i_eq, Int32.reduceToInt] at *); omega)) rfl rfl)
    · show AW X 0 0 31 [some (.ref 44), some (.int (nI a)), some (.int b), some (.int s), none, none, none] [] T I J R
      refine aw_iconst (v := 1) hC dX12_bind_31 (by decide) ?_
      refine aw_goto (tgt := 36) hC dX12_bind_32 (by decide) ?_
      refine aw_istore (L2 := [some (.ref 44), some (.int (nI a)), some (.int b), some (.int s), some (.int 1), none, none]) hC dX12_bind_36 (by decide) rfl ?_
      refine aw_aload_n hC dX12_bind_38 rfl ?_
      refine aw_iload hC dX12_bind_39 rfl ?_
      refine aw_if_eq (tgt := 48) hC dX12_bind_41 (by decide) (fun h8 => absurd h8 (by decide)) (fun _ => ?_)
      show AW X 0 0 44 [some (.ref 44), some (.int (nI a)), some (.int b), some (.int s), some (.int 1), none, none] [.ref 44] T I J R
      refine aw_iconst (v := 0) hC dX12_bind_44 (by decide) ?_
      refine aw_goto (tgt := 49) hC dX12_bind_45 (by decide) ?_
      refine aw_putI hC dX12_bind_49 aF_X12_166 rfl rfl (tg_44 hT) ?_
      refine aw_aload_n hC dX12_bind_52 rfl ?_
      refine aw_getI hC dX12_bind_53 aF_X12_166 rfl (tg_44 hT) ?_
      rw [a_u_self (f := I) (o := 44) (k := 61) (v := 0)]
      refine aw_if_le (tgt := 61) hC dX12_bind_56 (by decide) (fun _ => ?_) (fun h9 => absurd h9 (by decide))
      show AW X 0 0 61 [some (.ref 44), some (.int (nI a)), some (.int b), some (.int s), some (.int 1), none, none] [] T (a_u I 44 61 0) J R
      exfalso; clear hC hq; (try simp only [bI_e0, bI_n0, decide_eq_false_iff_not, decide_eq_true_eq, Classical.not_not] at *); grind
set_option maxRecDepth 100000 in
theorem m_X12_bindA {T : List aT} {I : aI} {J : aJ} {R : aR} (hT : aPT T) (hR : aPR R) {g : Nat} (hg : I 44 20 = nI g) (hg9 : g ≤ 4) (ht : NR I 62 4 3) {a b : Nat} (ha : a < g) (hb : b < 3) (s : Int32) (hs : -1 ≤ s ∧ s < 10) (hs2 : -1 ≤ s ∧ s ≤ nI (9 + 3 * a)) : MX12_bind 0 0 [.ref 44, .int (nI a), .int (nI b), .int s] T I J R (aPure (some (.int (if I 58 (3 * iN I 62 a + b) &&& 2 = 0 then I 65 (3 * a + b) else 0))) T (if I 58 (3 * iN I 62 a + b) &&& 2 = 0 then a_u (a_u I 44 61 0) 65 (3 * a + b) s else a_u I 44 61 2) J R) := by
  refine a_met (by decide +kernel) a_le (fun X hC hq => ?_)
  show AW X 0 0 0 [some (.ref 44), some (.int (nI a)), some (.int (nI b)), some (.int s), none, none, none] [] T I J R
  refine aw_aload_n hC dX12_bind_0 rfl ?_
  refine aw_iload_n hC dX12_bind_1 rfl ?_
  refine kX12_324 hC rfl (m_X12_isGenerator hT hR (nI a) (g := g) (by assumption) (by omega)) dX12_bind_2 (tg_44 hT) rfl a_le a_le a_le a_le a_le rfl aPure_x (aPure_k ?_)
  show AW X 0 0 5 [some (.ref 44), some (.int (nI a)), some (.int (nI b)), some (.int s), none, none, none] [.int (bI (decide (0 ≤ (nI a) ∧ (nI a) < nI g)))] T I J R
  rw [show bI (decide (0 ≤ (nI a) ∧ (nI a) < nI g)) = 1 from bI_one (nI_btw ha (by omega))]
  refine aw_if_eq (tgt := 35) hC dX12_bind_5 (by decide) (fun h1 => absurd h1 (by decide)) (fun _ => ?_)
  show AW X 0 0 8 [some (.ref 44), some (.int (nI a)), some (.int (nI b)), some (.int s), none, none, none] [] T I J R
  refine aw_iload_n hC dX12_bind_8 rfl ?_
  refine aw_iconst (v := 0) hC dX12_bind_9 (by decide) ?_
  refine aw_iconst (v := 2) hC dX12_bind_10 (by decide) ?_
  refine kX12_169 hC rfl (m_X12_isIn (nI b) (0 : Int32) (2 : Int32)) dX12_bind_11 rfl a_le a_le a_le a_le a_le rfl aPure_x (aPure_k ?_)
  show AW X 0 0 14 [some (.ref 44), some (.int (nI a)), some (.int (nI b)), some (.int s), none, none, none] [.int (bI (decide ((0 : Int32) ≤ (nI b) ∧ (nI b) ≤ (2 : Int32))))] T I J R
  rw [show bI (decide ((0 : Int32) ≤ (nI b) ∧ (nI b) ≤ (2 : Int32))) = 1 from bI_one ⟨nI_pos' (by omega), nI_le (b := 2) (by omega) (by omega)⟩]
  refine aw_if_eq (tgt := 35) hC dX12_bind_14 (by decide) (fun h2 => absurd h2 (by decide)) (fun _ => ?_)
  show AW X 0 0 17 [some (.ref 44), some (.int (nI a)), some (.int (nI b)), some (.int s), none, none, none] [] T I J R
  refine aw_iload_n hC dX12_bind_17 rfl ?_
  refine aw_iconst (v := (-1)) hC dX12_bind_18 (by decide) ?_
  refine aw_bipush (v := 9) hC dX12_bind_19 (by decide) ?_
  refine aw_iconst (v := 3) hC dX12_bind_21 (by decide) ?_
  refine aw_iload_n hC dX12_bind_22 rfl ?_
  refine aw_imul hC dX12_bind_23 ?_
  rw [show 3 * (nI a) = nI (3 * a) from pk_mul 3 a]
  refine aw_iadd hC dX12_bind_24 ?_
  rw [show 9 + (nI (3 * a)) = nI (9 + (3 * a)) from nI_add 9 (3 * a)]
  refine kX12_169 hC rfl (m_X12_isIn s ((-1) : Int32) (nI (9 + (3 * a)))) dX12_bind_25 rfl a_le a_le a_le a_le a_le rfl aPure_x (aPure_k ?_)
  show AW X 0 0 28 [some (.ref 44), some (.int (nI a)), some (.int (nI b)), some (.int s), none, none, none] [.int (bI (decide (((-1) : Int32) ≤ s ∧ s ≤ (nI (9 + (3 * a))))))] T I J R
  rw [show bI (decide (((-1) : Int32) ≤ s ∧ s ≤ (nI (9 + (3 * a))))) = 1 from bI_one hs2]
  refine aw_if_eq (tgt := 35) hC dX12_bind_28 (by decide) (fun h3 => absurd h3 (by decide)) (fun _ => ?_)
  show AW X 0 0 31 [some (.ref 44), some (.int (nI a)), some (.int (nI b)), some (.int s), none, none, none] [] T I J R
  refine aw_iconst (v := 1) hC dX12_bind_31 (by decide) ?_
  refine aw_goto (tgt := 36) hC dX12_bind_32 (by decide) ?_
  refine aw_istore (L2 := [some (.ref 44), some (.int (nI a)), some (.int (nI b)), some (.int s), some (.int 1), none, none]) hC dX12_bind_36 (by decide) rfl ?_
  refine aw_aload_n hC dX12_bind_38 rfl ?_
  refine aw_iload hC dX12_bind_39 rfl ?_
  refine aw_if_eq (tgt := 48) hC dX12_bind_41 (by decide) (fun h4 => absurd h4 (by decide)) (fun _ => ?_)
  show AW X 0 0 44 [some (.ref 44), some (.int (nI a)), some (.int (nI b)), some (.int s), some (.int 1), none, none] [.ref 44] T I J R
  refine aw_iconst (v := 0) hC dX12_bind_44 (by decide) ?_
  refine aw_goto (tgt := 49) hC dX12_bind_45 (by decide) ?_
  refine aw_putI hC dX12_bind_49 aF_X12_166 rfl rfl (tg_44 hT) ?_
  refine aw_aload_n hC dX12_bind_52 rfl ?_
  refine aw_getI hC dX12_bind_53 aF_X12_166 rfl (tg_44 hT) ?_
  rw [a_u_self (f := I) (o := 44) (k := 61) (v := 0)]
  refine aw_if_le (tgt := 61) hC dX12_bind_56 (by decide) (fun _ => ?_) (fun h5 => absurd h5 (by decide))
  show AW X 0 0 61 [some (.ref 44), some (.int (nI a)), some (.int (nI b)), some (.int s), some (.int 1), none, none] [] T (a_u I 44 61 0) J R
  refine aw_aload_n hC dX12_bind_61 rfl ?_
  refine aw_aload_n hC dX12_bind_62 rfl ?_
  refine aw_getR hC dX12_bind_63 aF_X12_62 rfl (tg_44 hT) (pr_44_21 hR) ?_
  refine aw_iload_n hC dX12_bind_66 rfl ?_
  refine aw_iaload_k (j := a) hC dX12_bind_67 (tg_62 hT) (nI_clamp (by omega)) (vp_in_nI (by omega) (by decide)) ?_
  rw [a_u_ne (f := I) (o := 44) (k := 61) (a := 62) (b := a) (v := 0) (fun q => absurd q.1 (by decide))]
  have hb6 := ht a (by omega)
  rw [hb6.1]
  refine aw_iload_n hC dX12_bind_68 rfl ?_
  refine aw_iconst (v := 2) hC dX12_bind_69 (by decide) ?_
  refine kX12_330 hC rfl (m_X12_hasN hT hR (t := (iN I 62 a)) (a := b) (by omega) (by omega) (2 : Int32)) dX12_bind_70 (tg_44 hT) rfl a_le a_le a_le a_le a_le rfl aPure_x (aPure_k ?_)
  show AW X 0 0 73 [some (.ref 44), some (.int (nI a)), some (.int (nI b)), some (.int s), some (.int 1), none, none] [.int (bI (decide ((a_u I 44 61 0) 58 (3 * (iN I 62 a) + b) &&& (2 : Int32) ≠ 0)))] T (a_u I 44 61 0) J R
  rw [a_u_ne (f := I) (o := 44) (k := 61) (a := 58) (b := (3 * (iN I 62 a) + b)) (v := 0) (fun q => absurd q.1 (by decide))]
  refine aw_if_ne (tgt := 80) hC dX12_bind_73 (by decide) (fun h7 => ?_) (fun h7 => ?_)
  · show AW X 0 0 80 [some (.ref 44), some (.int (nI a)), some (.int (nI b)), some (.int s), some (.int 1), none, none] [] T (a_u I 44 61 0) J R
    refine aw_iconst (v := 0) hC dX12_bind_80 (by decide) ?_
    refine aw_istore (L2 := [some (.ref 44), some (.int (nI a)), some (.int (nI b)), some (.int s), some (.int 1), some (.int 0), none]) hC dX12_bind_81 (by decide) rfl ?_
    refine aw_iload_n hC dX12_bind_83 rfl ?_
    refine aw_bipush (v := 10) hC dX12_bind_84 (by decide) ?_
    refine aw_icmp_lt (tgt := 114) hC dX12_bind_86 (by decide) (fun h8 => ?_) (fun h8 => ?_)
    · show AW X 0 0 114 [some (.ref 44), some (.int (nI a)), some (.int (nI b)), some (.int s), some (.int 1), some (.int 0), none] [] T (a_u I 44 61 0) J R
      refine aw_aload_n hC dX12_bind_114 rfl ?_
      refine aw_iload hC dX12_bind_115 rfl ?_
      refine aw_if_eq (tgt := 124) hC dX12_bind_117 (by decide) (fun _ => ?_) (fun h9 => absurd h9 (by decide))
      show AW X 0 0 124 [some (.ref 44), some (.int (nI a)), some (.int (nI b)), some (.int s), some (.int 1), some (.int 0), none] [.ref 44] T (a_u I 44 61 0) J R
      refine aw_iconst (v := 2) hC dX12_bind_124 (by decide) ?_
      refine aw_putI hC dX12_bind_125 aF_X12_166 rfl rfl (tg_44 hT) ?_
      refine aw_aload_n hC dX12_bind_128 rfl ?_
      refine aw_getI hC dX12_bind_129 aF_X12_166 rfl (tg_44 hT) ?_
      rw [a_u_self (f := a_u I 44 61 0) (o := 44) (k := 61) (v := 2)]
      refine aw_if_le (tgt := 137) hC dX12_bind_132 (by decide) (fun h10 => absurd h10 (by decide)) (fun _ => ?_)
      show AW X 0 0 135 [some (.ref 44), some (.int (nI a)), some (.int (nI b)), some (.int s), some (.int 1), some (.int 0), none] [] T (a_u (a_u I 44 61 0) 44 61 2) J R
      refine aw_iconst (v := 0) hC dX12_bind_135 (by decide) ?_
      exact aw_ireturn hC hq rfl dX12_bind_136 a_le a_le (aPure_e (by clear hC hq; (try simp only [bI_e0, bI_n0, decide_eq_false_iff_not, decide_eq_true_eq, Classical.not_not] at *) <;> first | grind [nI_p1, a_u_2] | (exfalso; (simp only [i_le, i_lt, i_eq, Int32.reduceToInt] at *); omega)) (by clear hC hq; (try simp only [bI_e0, bI_n0, decide_eq_false_iff_not, decide_eq_true_eq, Classical.not_not] at *) <;> first | grind [nI_p1, a_u_2] | (exfalso; (simp only [i_le, i_lt, i_eq, Int32.reduceToInt] at *); omega)) rfl rfl)
    · show AW X 0 0 89 [some (.ref 44), some (.int (nI a)), some (.int (nI b)), some (.int s), some (.int 1), some (.int 0), none] [] T (a_u I 44 61 0) J R
      exfalso; clear hC hq; (simp only [i_le, i_lt, i_eq, Int32.reduceToInt] at *); omega
  · show AW X 0 0 76 [some (.ref 44), some (.int (nI a)), some (.int (nI b)), some (.int s), some (.int 1), none, none] [] T (a_u I 44 61 0) J R
    refine aw_iconst (v := 1) hC dX12_bind_76 (by decide) ?_
    refine aw_goto (tgt := 81) hC dX12_bind_77 (by decide) ?_
    refine aw_istore (L2 := [some (.ref 44), some (.int (nI a)), some (.int (nI b)), some (.int s), some (.int 1), some (.int 1), none]) hC dX12_bind_81 (by decide) rfl ?_
    refine aw_iload_n hC dX12_bind_83 rfl ?_
    refine aw_bipush (v := 10) hC dX12_bind_84 (by decide) ?_
    refine aw_icmp_lt (tgt := 114) hC dX12_bind_86 (by decide) (fun h11 => ?_) (fun h11 => ?_)
    · show AW X 0 0 114 [some (.ref 44), some (.int (nI a)), some (.int (nI b)), some (.int s), some (.int 1), some (.int 1), none] [] T (a_u I 44 61 0) J R
      refine aw_aload_n hC dX12_bind_114 rfl ?_
      refine aw_iload hC dX12_bind_115 rfl ?_
      refine aw_if_eq (tgt := 124) hC dX12_bind_117 (by decide) (fun h12 => absurd h12 (by decide)) (fun _ => ?_)
      show AW X 0 0 120 [some (.ref 44), some (.int (nI a)), some (.int (nI b)), some (.int s), some (.int 1), some (.int 1), none] [.ref 44] T (a_u I 44 61 0) J R
      refine aw_iconst (v := 0) hC dX12_bind_120 (by decide) ?_
      refine aw_goto (tgt := 125) hC dX12_bind_121 (by decide) ?_
      refine aw_putI hC dX12_bind_125 aF_X12_166 rfl rfl (tg_44 hT) ?_
      refine aw_aload_n hC dX12_bind_128 rfl ?_
      refine aw_getI hC dX12_bind_129 aF_X12_166 rfl (tg_44 hT) ?_
      rw [a_u_self (f := a_u I 44 61 0) (o := 44) (k := 61) (v := 0)]
      refine aw_if_le (tgt := 137) hC dX12_bind_132 (by decide) (fun _ => ?_) (fun h13 => absurd h13 (by decide))
      show AW X 0 0 137 [some (.ref 44), some (.int (nI a)), some (.int (nI b)), some (.int s), some (.int 1), some (.int 1), none] [] T (a_u (a_u I 44 61 0) 44 61 0) J R
      refine aw_aload_n hC dX12_bind_137 rfl ?_
      refine aw_getR hC dX12_bind_138 aF_X12_71 rfl (tg_44 hT) (pr_44_24 hR) ?_
      refine aw_iconst (v := 3) hC dX12_bind_141 (by decide) ?_
      refine aw_iload_n hC dX12_bind_142 rfl ?_
      refine aw_imul hC dX12_bind_143 ?_
      rw [show 3 * (nI a) = nI (3 * a) from pk_mul 3 a]
      refine aw_iload_n hC dX12_bind_144 rfl ?_
      refine aw_iadd hC dX12_bind_145 ?_
      rw [show (nI (3 * a)) + (nI b) = nI ((3 * a) + b) from nI_add (3 * a) b]
      refine aw_iaload_k (j := ((3 * a) + b)) hC dX12_bind_146 (tg_65 hT) (nI_clamp (by omega)) (vp_in_nI (by omega) (by decide)) ?_
      rw [a_u_ne (f := a_u I 44 61 0) (o := 44) (k := 61) (a := 65) (b := ((3 * a) + b)) (v := 0) (fun q => absurd q.1 (by decide))]
      rw [a_u_ne (f := I) (o := 44) (k := 61) (a := 65) (b := ((3 * a) + b)) (v := 0) (fun q => absurd q.1 (by decide))]
      refine aw_istore (L2 := [some (.ref 44), some (.int (nI a)), some (.int (nI b)), some (.int s), some (.int 1), some (.int 1), some (.int (I 65 ((3 * a) + b)))]) hC dX12_bind_147 (by decide) rfl ?_
      refine aw_aload_n hC dX12_bind_149 rfl ?_
      refine aw_getR hC dX12_bind_150 aF_X12_71 rfl (tg_44 hT) (pr_44_24 hR) ?_
      refine aw_iconst (v := 3) hC dX12_bind_153 (by decide) ?_
      refine aw_iload_n hC dX12_bind_154 rfl ?_
      refine aw_imul hC dX12_bind_155 ?_
      rw [show 3 * (nI a) = nI (3 * a) from pk_mul 3 a]
      refine aw_iload_n hC dX12_bind_156 rfl ?_
      refine aw_iadd hC dX12_bind_157 ?_
      rw [show (nI (3 * a)) + (nI b) = nI ((3 * a) + b) from nI_add (3 * a) b]
      refine aw_iload_n hC dX12_bind_158 rfl ?_
      refine aw_iastore_k (j := ((3 * a) + b)) hC dX12_bind_159 (tg_65 hT) (nI_clamp (by omega)) (vp_in_nI (by omega) (by decide)) ?_
      refine aw_iload hC dX12_bind_160 rfl ?_
      exact aw_ireturn hC hq rfl dX12_bind_162 a_le a_le (aPure_e (by clear hC hq; (try simp only [bI_e0, bI_n0, decide_eq_false_iff_not, decide_eq_true_eq, Classical.not_not] at *) <;> first | grind [nI_p1, a_u_2] | (exfalso; (simp only [i_le, i_lt, i_eq, Int32.reduceToInt] at *); omega)) (by clear hC hq; (try simp only [bI_e0, bI_n0, decide_eq_false_iff_not, decide_eq_true_eq, Classical.not_not] at *) <;> first | grind [nI_p1, a_u_2] | (exfalso; (simp only [i_le, i_lt, i_eq, Int32.reduceToInt] at *); omega)) rfl rfl)
    · show AW X 0 0 89 [some (.ref 44), some (.int (nI a)), some (.int (nI b)), some (.int s), some (.int 1), some (.int 1), none] [] T (a_u I 44 61 0) J R
      exfalso; clear hC hq; (simp only [i_le, i_lt, i_eq, Int32.reduceToInt] at *); omega
set_option maxRecDepth 100000 in
theorem m_X12_bindB {T : List aT} {I : aI} {J : aJ} {R : aR} (hT : aPT T) (hR : aPR R) {g : Nat} (hg : I 44 20 = nI g) (hg9 : g ≤ 4) (ht : NR I 62 4 3) {a b h c : Nat} (ha : a < g) (hb : b < 3) (hh : h < a) (hc : c < 3) : MX12_bind 0 0 [.ref 44, .int (nI a), .int (nI b), .int (nI (10 + 3 * h + c))] T I J R (aPure (some (.int (if I 58 (3 * iN I 62 a + b) &&& 2 = 0 ∧ I 58 (3 * iN I 62 h + c) &&& 2 ≠ 0 then I 65 (3 * a + b) else 0))) T (if I 58 (3 * iN I 62 a + b) &&& 2 = 0 ∧ I 58 (3 * iN I 62 h + c) &&& 2 ≠ 0 then a_u (a_u I 44 61 0) 65 (3 * a + b) (nI (10 + 3 * h + c)) else a_u I 44 61 2) J R) := by
  refine a_met (by decide +kernel) a_le (fun X hC hq => ?_)
  show AW X 0 0 0 [some (.ref 44), some (.int (nI a)), some (.int (nI b)), some (.int (nI (10 + 3 * h + c))), none, none, none] [] T I J R
  refine aw_aload_n hC dX12_bind_0 rfl ?_
  refine aw_iload_n hC dX12_bind_1 rfl ?_
  refine kX12_324 hC rfl (m_X12_isGenerator hT hR (nI a) (g := g) (by assumption) (by omega)) dX12_bind_2 (tg_44 hT) rfl a_le a_le a_le a_le a_le rfl aPure_x (aPure_k ?_)
  show AW X 0 0 5 [some (.ref 44), some (.int (nI a)), some (.int (nI b)), some (.int (nI (10 + 3 * h + c))), none, none, none] [.int (bI (decide (0 ≤ (nI a) ∧ (nI a) < nI g)))] T I J R
  rw [show bI (decide (0 ≤ (nI a) ∧ (nI a) < nI g)) = 1 from bI_one (nI_btw ha (by omega))]
  refine aw_if_eq (tgt := 35) hC dX12_bind_5 (by decide) (fun h1 => absurd h1 (by decide)) (fun _ => ?_)
  show AW X 0 0 8 [some (.ref 44), some (.int (nI a)), some (.int (nI b)), some (.int (nI (10 + 3 * h + c))), none, none, none] [] T I J R
  refine aw_iload_n hC dX12_bind_8 rfl ?_
  refine aw_iconst (v := 0) hC dX12_bind_9 (by decide) ?_
  refine aw_iconst (v := 2) hC dX12_bind_10 (by decide) ?_
  refine kX12_169 hC rfl (m_X12_isIn (nI b) (0 : Int32) (2 : Int32)) dX12_bind_11 rfl a_le a_le a_le a_le a_le rfl aPure_x (aPure_k ?_)
  show AW X 0 0 14 [some (.ref 44), some (.int (nI a)), some (.int (nI b)), some (.int (nI (10 + 3 * h + c))), none, none, none] [.int (bI (decide ((0 : Int32) ≤ (nI b) ∧ (nI b) ≤ (2 : Int32))))] T I J R
  rw [show bI (decide ((0 : Int32) ≤ (nI b) ∧ (nI b) ≤ (2 : Int32))) = 1 from bI_one ⟨nI_pos' (by omega), nI_le (b := 2) (by omega) (by omega)⟩]
  refine aw_if_eq (tgt := 35) hC dX12_bind_14 (by decide) (fun h2 => absurd h2 (by decide)) (fun _ => ?_)
  show AW X 0 0 17 [some (.ref 44), some (.int (nI a)), some (.int (nI b)), some (.int (nI (10 + 3 * h + c))), none, none, none] [] T I J R
  refine aw_iload_n hC dX12_bind_17 rfl ?_
  refine aw_iconst (v := (-1)) hC dX12_bind_18 (by decide) ?_
  refine aw_bipush (v := 9) hC dX12_bind_19 (by decide) ?_
  refine aw_iconst (v := 3) hC dX12_bind_21 (by decide) ?_
  refine aw_iload_n hC dX12_bind_22 rfl ?_
  refine aw_imul hC dX12_bind_23 ?_
  rw [show 3 * (nI a) = nI (3 * a) from pk_mul 3 a]
  refine aw_iadd hC dX12_bind_24 ?_
  rw [show 9 + (nI (3 * a)) = nI (9 + (3 * a)) from nI_add 9 (3 * a)]
  refine kX12_169 hC rfl (m_X12_isIn (nI (10 + 3 * h + c)) ((-1) : Int32) (nI (9 + (3 * a)))) dX12_bind_25 rfl a_le a_le a_le a_le a_le rfl aPure_x (aPure_k ?_)
  show AW X 0 0 28 [some (.ref 44), some (.int (nI a)), some (.int (nI b)), some (.int (nI (10 + 3 * h + c))), none, none, none] [.int (bI (decide (((-1) : Int32) ≤ (nI (10 + 3 * h + c)) ∧ (nI (10 + 3 * h + c)) ≤ (nI (9 + (3 * a))))))] T I J R
  rw [show bI (decide (((-1) : Int32) ≤ (nI (10 + 3 * h + c)) ∧ (nI (10 + 3 * h + c)) ≤ (nI (9 + (3 * a))))) = 1 from bI_one ⟨Int32.le_trans (by decide) (nI_pos' (by omega)), nI_le (by omega) (by omega)⟩]
  refine aw_if_eq (tgt := 35) hC dX12_bind_28 (by decide) (fun h3 => absurd h3 (by decide)) (fun _ => ?_)
  show AW X 0 0 31 [some (.ref 44), some (.int (nI a)), some (.int (nI b)), some (.int (nI (10 + 3 * h + c))), none, none, none] [] T I J R
  refine aw_iconst (v := 1) hC dX12_bind_31 (by decide) ?_
  refine aw_goto (tgt := 36) hC dX12_bind_32 (by decide) ?_
  refine aw_istore (L2 := [some (.ref 44), some (.int (nI a)), some (.int (nI b)), some (.int (nI (10 + 3 * h + c))), some (.int 1), none, none]) hC dX12_bind_36 (by decide) rfl ?_
  refine aw_aload_n hC dX12_bind_38 rfl ?_
  refine aw_iload hC dX12_bind_39 rfl ?_
  refine aw_if_eq (tgt := 48) hC dX12_bind_41 (by decide) (fun h4 => absurd h4 (by decide)) (fun _ => ?_)
  show AW X 0 0 44 [some (.ref 44), some (.int (nI a)), some (.int (nI b)), some (.int (nI (10 + 3 * h + c))), some (.int 1), none, none] [.ref 44] T I J R
  refine aw_iconst (v := 0) hC dX12_bind_44 (by decide) ?_
  refine aw_goto (tgt := 49) hC dX12_bind_45 (by decide) ?_
  refine aw_putI hC dX12_bind_49 aF_X12_166 rfl rfl (tg_44 hT) ?_
  refine aw_aload_n hC dX12_bind_52 rfl ?_
  refine aw_getI hC dX12_bind_53 aF_X12_166 rfl (tg_44 hT) ?_
  rw [a_u_self (f := I) (o := 44) (k := 61) (v := 0)]
  refine aw_if_le (tgt := 61) hC dX12_bind_56 (by decide) (fun _ => ?_) (fun h5 => absurd h5 (by decide))
  show AW X 0 0 61 [some (.ref 44), some (.int (nI a)), some (.int (nI b)), some (.int (nI (10 + 3 * h + c))), some (.int 1), none, none] [] T (a_u I 44 61 0) J R
  refine aw_aload_n hC dX12_bind_61 rfl ?_
  refine aw_aload_n hC dX12_bind_62 rfl ?_
  refine aw_getR hC dX12_bind_63 aF_X12_62 rfl (tg_44 hT) (pr_44_21 hR) ?_
  refine aw_iload_n hC dX12_bind_66 rfl ?_
  refine aw_iaload_k (j := a) hC dX12_bind_67 (tg_62 hT) (nI_clamp (by omega)) (vp_in_nI (by omega) (by decide)) ?_
  rw [a_u_ne (f := I) (o := 44) (k := 61) (a := 62) (b := a) (v := 0) (fun q => absurd q.1 (by decide))]
  have hb6 := ht a (by omega)
  rw [hb6.1]
  refine aw_iload_n hC dX12_bind_68 rfl ?_
  refine aw_iconst (v := 2) hC dX12_bind_69 (by decide) ?_
  refine kX12_330 hC rfl (m_X12_hasN hT hR (t := (iN I 62 a)) (a := b) (by omega) (by omega) (2 : Int32)) dX12_bind_70 (tg_44 hT) rfl a_le a_le a_le a_le a_le rfl aPure_x (aPure_k ?_)
  show AW X 0 0 73 [some (.ref 44), some (.int (nI a)), some (.int (nI b)), some (.int (nI (10 + 3 * h + c))), some (.int 1), none, none] [.int (bI (decide ((a_u I 44 61 0) 58 (3 * (iN I 62 a) + b) &&& (2 : Int32) ≠ 0)))] T (a_u I 44 61 0) J R
  rw [a_u_ne (f := I) (o := 44) (k := 61) (a := 58) (b := (3 * (iN I 62 a) + b)) (v := 0) (fun q => absurd q.1 (by decide))]
  refine aw_if_ne (tgt := 80) hC dX12_bind_73 (by decide) (fun h7 => ?_) (fun h7 => ?_)
  · show AW X 0 0 80 [some (.ref 44), some (.int (nI a)), some (.int (nI b)), some (.int (nI (10 + 3 * h + c))), some (.int 1), none, none] [] T (a_u I 44 61 0) J R
    refine aw_iconst (v := 0) hC dX12_bind_80 (by decide) ?_
    refine aw_istore (L2 := [some (.ref 44), some (.int (nI a)), some (.int (nI b)), some (.int (nI (10 + 3 * h + c))), some (.int 1), some (.int 0), none]) hC dX12_bind_81 (by decide) rfl ?_
    refine aw_iload_n hC dX12_bind_83 rfl ?_
    refine aw_bipush (v := 10) hC dX12_bind_84 (by decide) ?_
    refine aw_icmp_lt (tgt := 114) hC dX12_bind_86 (by decide) (fun h8 => ?_) (fun h8 => ?_)
    · show AW X 0 0 114 [some (.ref 44), some (.int (nI a)), some (.int (nI b)), some (.int (nI (10 + 3 * h + c))), some (.int 1), some (.int 0), none] [] T (a_u I 44 61 0) J R
      have h8n : (10 + 3 * h + c) < 10 := (nI_ltI (a := (10 + 3 * h + c)) (b := 10) (by omega) (by omega)).mp h8
      refine aw_aload_n hC dX12_bind_114 rfl ?_
      refine aw_iload hC dX12_bind_115 rfl ?_
      refine aw_if_eq (tgt := 124) hC dX12_bind_117 (by decide) (fun _ => ?_) (fun h9 => absurd h9 (by decide))
      show AW X 0 0 124 [some (.ref 44), some (.int (nI a)), some (.int (nI b)), some (.int (nI (10 + 3 * h + c))), some (.int 1), some (.int 0), none] [.ref 44] T (a_u I 44 61 0) J R
      refine aw_iconst (v := 2) hC dX12_bind_124 (by decide) ?_
      refine aw_putI hC dX12_bind_125 aF_X12_166 rfl rfl (tg_44 hT) ?_
      refine aw_aload_n hC dX12_bind_128 rfl ?_
      refine aw_getI hC dX12_bind_129 aF_X12_166 rfl (tg_44 hT) ?_
      rw [a_u_self (f := a_u I 44 61 0) (o := 44) (k := 61) (v := 2)]
      refine aw_if_le (tgt := 137) hC dX12_bind_132 (by decide) (fun h10 => absurd h10 (by decide)) (fun _ => ?_)
      show AW X 0 0 135 [some (.ref 44), some (.int (nI a)), some (.int (nI b)), some (.int (nI (10 + 3 * h + c))), some (.int 1), some (.int 0), none] [] T (a_u (a_u I 44 61 0) 44 61 2) J R
      refine aw_iconst (v := 0) hC dX12_bind_135 (by decide) ?_
      exact aw_ireturn hC hq rfl dX12_bind_136 a_le a_le (aPure_e (by clear hC hq; (try simp only [bI_e0, bI_n0, decide_eq_false_iff_not, decide_eq_true_eq, Classical.not_not] at *) <;> first | grind [nI_p1, a_u_2] | (exfalso; (simp only [i_le, i_lt, i_eq, Int32.reduceToInt] at *); omega)) (by clear hC hq; (try simp only [bI_e0, bI_n0, decide_eq_false_iff_not, decide_eq_true_eq, Classical.not_not] at *) <;> first | grind [nI_p1, a_u_2] | (exfalso; (simp only [i_le, i_lt, i_eq, Int32.reduceToInt] at *); omega)) rfl rfl)
    · show AW X 0 0 89 [some (.ref 44), some (.int (nI a)), some (.int (nI b)), some (.int (nI (10 + 3 * h + c))), some (.int 1), some (.int 0), none] [] T (a_u I 44 61 0) J R
      have h8n : ¬ (10 + 3 * h + c) < 10 := fun q9 => h8 ((nI_ltI (a := (10 + 3 * h + c)) (b := 10) (by omega) (by omega)).mpr q9)
      refine aw_iload hC dX12_bind_89 rfl ?_
      refine aw_aload_n hC dX12_bind_91 rfl ?_
      refine aw_aload_n hC dX12_bind_92 rfl ?_
      refine aw_getR hC dX12_bind_93 aF_X12_62 rfl (tg_44 hT) (pr_44_21 hR) ?_
      refine aw_iload_n hC dX12_bind_96 rfl ?_
      refine kX12_333 hC rfl (m_X12_sourceOfN (m := (10 + 3 * h + c)) (by omega) (by omega)) dX12_bind_97 rfl a_le a_le a_le a_le a_le rfl aPure_x (aPure_k ?_)
      show AW X 0 0 100 [some (.ref 44), some (.int (nI a)), some (.int (nI b)), some (.int (nI (10 + 3 * h + c))), some (.int 1), some (.int 0), none] [.int (nI (((10 + 3 * h + c) - 10) / 3)), .ref 62, .ref 44, .int 0] T (a_u I 44 61 0) J R
      rw [show nI (((10 + 3 * h + c) - 10) / 3) = nI h from congrArg nI (by omega)]
      refine aw_iaload_k (j := h) hC dX12_bind_100 (tg_62 hT) (nI_clamp (by omega)) (vp_in_nI (by omega) (by decide)) ?_
      rw [a_u_ne (f := I) (o := 44) (k := 61) (a := 62) (b := h) (v := 0) (fun q => absurd q.1 (by decide))]
      have hb11 := ht h (by omega)
      rw [hb11.1]
      refine aw_iload_n hC dX12_bind_101 rfl ?_
      refine aw_bipush (v := 10) hC dX12_bind_102 (by decide) ?_
      refine aw_isub hC dX12_bind_104 ?_
      rw [show (nI (10 + 3 * h + c)) - 10 = nI ((10 + 3 * h + c) - 10) from pk_sub (a := (10 + 3 * h + c)) (b := 10) (by omega)]
      refine aw_iconst (v := 3) hC dX12_bind_105 (by decide) ?_
      refine aw_irem hC dX12_bind_106 (by decide) ?_
      rw [show (nI ((10 + 3 * h + c) - 10)) - (nI ((10 + 3 * h + c) - 10)) / 3 * 3 = nI (((10 + 3 * h + c) - 10) % 3) from pk_rem (a := ((10 + 3 * h + c) - 10)) (d := 3) (by omega) (by decide) (by decide)]
      rw [show nI ((10 + 3 * h + c - 10) % 3) = nI c from congrArg nI (by omega)]
      refine aw_iconst (v := 2) hC dX12_bind_107 (by decide) ?_
      refine kX12_330 hC rfl (m_X12_hasN hT hR (t := (iN I 62 h)) (a := c) (by omega) (by omega) (2 : Int32)) dX12_bind_108 (tg_44 hT) rfl a_le a_le a_le a_le a_le rfl aPure_x (aPure_k ?_)
      show AW X 0 0 111 [some (.ref 44), some (.int (nI a)), some (.int (nI b)), some (.int (nI (10 + 3 * h + c))), some (.int 1), some (.int 0), none] [.int (bI (decide ((a_u I 44 61 0) 58 (3 * (iN I 62 h) + c) &&& (2 : Int32) ≠ 0))), .int 0] T (a_u I 44 61 0) J R
      rw [a_u_ne (f := I) (o := 44) (k := 61) (a := 58) (b := (3 * (iN I 62 h) + c)) (v := 0) (fun q => absurd q.1 (by decide))]
      refine aw_iand hC dX12_bind_111 ?_
      rw [i0_and]
      refine aw_istore (L2 := [some (.ref 44), some (.int (nI a)), some (.int (nI b)), some (.int (nI (10 + 3 * h + c))), some (.int 1), some (.int 0), none]) hC dX12_bind_112 (by decide) rfl ?_
      refine aw_aload_n hC dX12_bind_114 rfl ?_
      refine aw_iload hC dX12_bind_115 rfl ?_
      refine aw_if_eq (tgt := 124) hC dX12_bind_117 (by decide) (fun _ => ?_) (fun h12 => absurd h12 (by decide))
      show AW X 0 0 124 [some (.ref 44), some (.int (nI a)), some (.int (nI b)), some (.int (nI (10 + 3 * h + c))), some (.int 1), some (.int 0), none] [.ref 44] T (a_u I 44 61 0) J R
      refine aw_iconst (v := 2) hC dX12_bind_124 (by decide) ?_
      refine aw_putI hC dX12_bind_125 aF_X12_166 rfl rfl (tg_44 hT) ?_
      refine aw_aload_n hC dX12_bind_128 rfl ?_
      refine aw_getI hC dX12_bind_129 aF_X12_166 rfl (tg_44 hT) ?_
      rw [a_u_self (f := a_u I 44 61 0) (o := 44) (k := 61) (v := 2)]
      refine aw_if_le (tgt := 137) hC dX12_bind_132 (by decide) (fun h13 => absurd h13 (by decide)) (fun _ => ?_)
      show AW X 0 0 135 [some (.ref 44), some (.int (nI a)), some (.int (nI b)), some (.int (nI (10 + 3 * h + c))), some (.int 1), some (.int 0), none] [] T (a_u (a_u I 44 61 0) 44 61 2) J R
      refine aw_iconst (v := 0) hC dX12_bind_135 (by decide) ?_
      exact aw_ireturn hC hq rfl dX12_bind_136 a_le a_le (aPure_e (by clear hC hq; (try simp only [bI_e0, bI_n0, decide_eq_false_iff_not, decide_eq_true_eq, Classical.not_not] at *) <;> first | grind [nI_p1, a_u_2] | (exfalso; (simp only [i_le, i_lt, i_eq, Int32.reduceToInt] at *); omega)) (by clear hC hq; (try simp only [bI_e0, bI_n0, decide_eq_false_iff_not, decide_eq_true_eq, Classical.not_not] at *) <;> first | grind [nI_p1, a_u_2] | (exfalso; (simp only [i_le, i_lt, i_eq, Int32.reduceToInt] at *); omega)) rfl rfl)
  · show AW X 0 0 76 [some (.ref 44), some (.int (nI a)), some (.int (nI b)), some (.int (nI (10 + 3 * h + c))), some (.int 1), none, none] [] T (a_u I 44 61 0) J R
    refine aw_iconst (v := 1) hC dX12_bind_76 (by decide) ?_
    refine aw_goto (tgt := 81) hC dX12_bind_77 (by decide) ?_
    refine aw_istore (L2 := [some (.ref 44), some (.int (nI a)), some (.int (nI b)), some (.int (nI (10 + 3 * h + c))), some (.int 1), some (.int 1), none]) hC dX12_bind_81 (by decide) rfl ?_
    refine aw_iload_n hC dX12_bind_83 rfl ?_
    refine aw_bipush (v := 10) hC dX12_bind_84 (by decide) ?_
    refine aw_icmp_lt (tgt := 114) hC dX12_bind_86 (by decide) (fun h14 => ?_) (fun h14 => ?_)
    · show AW X 0 0 114 [some (.ref 44), some (.int (nI a)), some (.int (nI b)), some (.int (nI (10 + 3 * h + c))), some (.int 1), some (.int 1), none] [] T (a_u I 44 61 0) J R
      have h14n : (10 + 3 * h + c) < 10 := (nI_ltI (a := (10 + 3 * h + c)) (b := 10) (by omega) (by omega)).mp h14
      refine aw_aload_n hC dX12_bind_114 rfl ?_
      refine aw_iload hC dX12_bind_115 rfl ?_
      refine aw_if_eq (tgt := 124) hC dX12_bind_117 (by decide) (fun h15 => absurd h15 (by decide)) (fun _ => ?_)
      show AW X 0 0 120 [some (.ref 44), some (.int (nI a)), some (.int (nI b)), some (.int (nI (10 + 3 * h + c))), some (.int 1), some (.int 1), none] [.ref 44] T (a_u I 44 61 0) J R
      refine aw_iconst (v := 0) hC dX12_bind_120 (by decide) ?_
      refine aw_goto (tgt := 125) hC dX12_bind_121 (by decide) ?_
      refine aw_putI hC dX12_bind_125 aF_X12_166 rfl rfl (tg_44 hT) ?_
      refine aw_aload_n hC dX12_bind_128 rfl ?_
      refine aw_getI hC dX12_bind_129 aF_X12_166 rfl (tg_44 hT) ?_
      rw [a_u_self (f := a_u I 44 61 0) (o := 44) (k := 61) (v := 0)]
      refine aw_if_le (tgt := 137) hC dX12_bind_132 (by decide) (fun _ => ?_) (fun h16 => absurd h16 (by decide))
      show AW X 0 0 137 [some (.ref 44), some (.int (nI a)), some (.int (nI b)), some (.int (nI (10 + 3 * h + c))), some (.int 1), some (.int 1), none] [] T (a_u (a_u I 44 61 0) 44 61 0) J R
      refine aw_aload_n hC dX12_bind_137 rfl ?_
      refine aw_getR hC dX12_bind_138 aF_X12_71 rfl (tg_44 hT) (pr_44_24 hR) ?_
      refine aw_iconst (v := 3) hC dX12_bind_141 (by decide) ?_
      refine aw_iload_n hC dX12_bind_142 rfl ?_
      refine aw_imul hC dX12_bind_143 ?_
      rw [show 3 * (nI a) = nI (3 * a) from pk_mul 3 a]
      refine aw_iload_n hC dX12_bind_144 rfl ?_
      refine aw_iadd hC dX12_bind_145 ?_
      rw [show (nI (3 * a)) + (nI b) = nI ((3 * a) + b) from nI_add (3 * a) b]
      refine aw_iaload_k (j := ((3 * a) + b)) hC dX12_bind_146 (tg_65 hT) (nI_clamp (by omega)) (vp_in_nI (by omega) (by decide)) ?_
      rw [a_u_ne (f := a_u I 44 61 0) (o := 44) (k := 61) (a := 65) (b := ((3 * a) + b)) (v := 0) (fun q => absurd q.1 (by decide))]
      rw [a_u_ne (f := I) (o := 44) (k := 61) (a := 65) (b := ((3 * a) + b)) (v := 0) (fun q => absurd q.1 (by decide))]
      refine aw_istore (L2 := [some (.ref 44), some (.int (nI a)), some (.int (nI b)), some (.int (nI (10 + 3 * h + c))), some (.int 1), some (.int 1), some (.int (I 65 ((3 * a) + b)))]) hC dX12_bind_147 (by decide) rfl ?_
      refine aw_aload_n hC dX12_bind_149 rfl ?_
      refine aw_getR hC dX12_bind_150 aF_X12_71 rfl (tg_44 hT) (pr_44_24 hR) ?_
      refine aw_iconst (v := 3) hC dX12_bind_153 (by decide) ?_
      refine aw_iload_n hC dX12_bind_154 rfl ?_
      refine aw_imul hC dX12_bind_155 ?_
      rw [show 3 * (nI a) = nI (3 * a) from pk_mul 3 a]
      refine aw_iload_n hC dX12_bind_156 rfl ?_
      refine aw_iadd hC dX12_bind_157 ?_
      rw [show (nI (3 * a)) + (nI b) = nI ((3 * a) + b) from nI_add (3 * a) b]
      refine aw_iload_n hC dX12_bind_158 rfl ?_
      refine aw_iastore_k (j := ((3 * a) + b)) hC dX12_bind_159 (tg_65 hT) (nI_clamp (by omega)) (vp_in_nI (by omega) (by decide)) ?_
      refine aw_iload hC dX12_bind_160 rfl ?_
      exact aw_ireturn hC hq rfl dX12_bind_162 a_le a_le (aPure_e (by clear hC hq; (try simp only [bI_e0, bI_n0, decide_eq_false_iff_not, decide_eq_true_eq, Classical.not_not] at *) <;> first | grind [nI_p1, a_u_2] | (exfalso; (simp only [i_le, i_lt, i_eq, Int32.reduceToInt] at *); omega)) (by clear hC hq; (try simp only [bI_e0, bI_n0, decide_eq_false_iff_not, decide_eq_true_eq, Classical.not_not] at *) <;> first | grind [nI_p1, a_u_2] | (exfalso; (simp only [i_le, i_lt, i_eq, Int32.reduceToInt] at *); omega)) rfl rfl)
    · show AW X 0 0 89 [some (.ref 44), some (.int (nI a)), some (.int (nI b)), some (.int (nI (10 + 3 * h + c))), some (.int 1), some (.int 1), none] [] T (a_u I 44 61 0) J R
      have h14n : ¬ (10 + 3 * h + c) < 10 := fun q9 => h14 ((nI_ltI (a := (10 + 3 * h + c)) (b := 10) (by omega) (by omega)).mpr q9)
      refine aw_iload hC dX12_bind_89 rfl ?_
      refine aw_aload_n hC dX12_bind_91 rfl ?_
      refine aw_aload_n hC dX12_bind_92 rfl ?_
      refine aw_getR hC dX12_bind_93 aF_X12_62 rfl (tg_44 hT) (pr_44_21 hR) ?_
      refine aw_iload_n hC dX12_bind_96 rfl ?_
      refine kX12_333 hC rfl (m_X12_sourceOfN (m := (10 + 3 * h + c)) (by omega) (by omega)) dX12_bind_97 rfl a_le a_le a_le a_le a_le rfl aPure_x (aPure_k ?_)
      show AW X 0 0 100 [some (.ref 44), some (.int (nI a)), some (.int (nI b)), some (.int (nI (10 + 3 * h + c))), some (.int 1), some (.int 1), none] [.int (nI (((10 + 3 * h + c) - 10) / 3)), .ref 62, .ref 44, .int 1] T (a_u I 44 61 0) J R
      rw [show nI (((10 + 3 * h + c) - 10) / 3) = nI h from congrArg nI (by omega)]
      refine aw_iaload_k (j := h) hC dX12_bind_100 (tg_62 hT) (nI_clamp (by omega)) (vp_in_nI (by omega) (by decide)) ?_
      rw [a_u_ne (f := I) (o := 44) (k := 61) (a := 62) (b := h) (v := 0) (fun q => absurd q.1 (by decide))]
      have hb17 := ht h (by omega)
      rw [hb17.1]
      refine aw_iload_n hC dX12_bind_101 rfl ?_
      refine aw_bipush (v := 10) hC dX12_bind_102 (by decide) ?_
      refine aw_isub hC dX12_bind_104 ?_
      rw [show (nI (10 + 3 * h + c)) - 10 = nI ((10 + 3 * h + c) - 10) from pk_sub (a := (10 + 3 * h + c)) (b := 10) (by omega)]
      refine aw_iconst (v := 3) hC dX12_bind_105 (by decide) ?_
      refine aw_irem hC dX12_bind_106 (by decide) ?_
      rw [show (nI ((10 + 3 * h + c) - 10)) - (nI ((10 + 3 * h + c) - 10)) / 3 * 3 = nI (((10 + 3 * h + c) - 10) % 3) from pk_rem (a := ((10 + 3 * h + c) - 10)) (d := 3) (by omega) (by decide) (by decide)]
      rw [show nI ((10 + 3 * h + c - 10) % 3) = nI c from congrArg nI (by omega)]
      refine aw_iconst (v := 2) hC dX12_bind_107 (by decide) ?_
      refine kX12_330 hC rfl (m_X12_hasN hT hR (t := (iN I 62 h)) (a := c) (by omega) (by omega) (2 : Int32)) dX12_bind_108 (tg_44 hT) rfl a_le a_le a_le a_le a_le rfl aPure_x (aPure_k ?_)
      show AW X 0 0 111 [some (.ref 44), some (.int (nI a)), some (.int (nI b)), some (.int (nI (10 + 3 * h + c))), some (.int 1), some (.int 1), none] [.int (bI (decide ((a_u I 44 61 0) 58 (3 * (iN I 62 h) + c) &&& (2 : Int32) ≠ 0))), .int 1] T (a_u I 44 61 0) J R
      rw [a_u_ne (f := I) (o := 44) (k := 61) (a := 58) (b := (3 * (iN I 62 h) + c)) (v := 0) (fun q => absurd q.1 (by decide))]
      refine aw_iand hC dX12_bind_111 ?_
      rw [i1_and]
      refine aw_istore (L2 := [some (.ref 44), some (.int (nI a)), some (.int (nI b)), some (.int (nI (10 + 3 * h + c))), some (.int 1), some (.int (bI (decide (I 58 (3 * (iN I 62 h) + c) &&& (2 : Int32) ≠ 0)))), none]) hC dX12_bind_112 (by decide) rfl ?_
      refine aw_aload_n hC dX12_bind_114 rfl ?_
      refine aw_iload hC dX12_bind_115 rfl ?_
      refine aw_if_eq (tgt := 124) hC dX12_bind_117 (by decide) (fun h18 => ?_) (fun h18 => ?_)
      · show AW X 0 0 124 [some (.ref 44), some (.int (nI a)), some (.int (nI b)), some (.int (nI (10 + 3 * h + c))), some (.int 1), some (.int (bI (decide (I 58 (3 * (iN I 62 h) + c) &&& (2 : Int32) ≠ 0)))), none] [.ref 44] T (a_u I 44 61 0) J R
        refine aw_iconst (v := 2) hC dX12_bind_124 (by decide) ?_
        refine aw_putI hC dX12_bind_125 aF_X12_166 rfl rfl (tg_44 hT) ?_
        refine aw_aload_n hC dX12_bind_128 rfl ?_
        refine aw_getI hC dX12_bind_129 aF_X12_166 rfl (tg_44 hT) ?_
        rw [a_u_self (f := a_u I 44 61 0) (o := 44) (k := 61) (v := 2)]
        refine aw_if_le (tgt := 137) hC dX12_bind_132 (by decide) (fun h19 => absurd h19 (by decide)) (fun _ => ?_)
        show AW X 0 0 135 [some (.ref 44), some (.int (nI a)), some (.int (nI b)), some (.int (nI (10 + 3 * h + c))), some (.int 1), some (.int (bI (decide (I 58 (3 * (iN I 62 h) + c) &&& (2 : Int32) ≠ 0)))), none] [] T (a_u (a_u I 44 61 0) 44 61 2) J R
        refine aw_iconst (v := 0) hC dX12_bind_135 (by decide) ?_
        exact aw_ireturn hC hq rfl dX12_bind_136 a_le a_le (aPure_e (by clear hC hq; (try simp only [bI_e0, bI_n0, decide_eq_false_iff_not, decide_eq_true_eq, Classical.not_not] at *) <;> first | grind [nI_p1, a_u_2] | (exfalso; (simp only [i_le, i_lt, i_eq, Int32.reduceToInt] at *); omega)) (by clear hC hq; (try simp only [bI_e0, bI_n0, decide_eq_false_iff_not, decide_eq_true_eq, Classical.not_not] at *) <;> first | grind [nI_p1, a_u_2] | (exfalso; (simp only [i_le, i_lt, i_eq, Int32.reduceToInt] at *); omega)) rfl rfl)
      · show AW X 0 0 120 [some (.ref 44), some (.int (nI a)), some (.int (nI b)), some (.int (nI (10 + 3 * h + c))), some (.int 1), some (.int (bI (decide (I 58 (3 * (iN I 62 h) + c) &&& (2 : Int32) ≠ 0)))), none] [.ref 44] T (a_u I 44 61 0) J R
        refine aw_iconst (v := 0) hC dX12_bind_120 (by decide) ?_
        refine aw_goto (tgt := 125) hC dX12_bind_121 (by decide) ?_
        refine aw_putI hC dX12_bind_125 aF_X12_166 rfl rfl (tg_44 hT) ?_
        refine aw_aload_n hC dX12_bind_128 rfl ?_
        refine aw_getI hC dX12_bind_129 aF_X12_166 rfl (tg_44 hT) ?_
        rw [a_u_self (f := a_u I 44 61 0) (o := 44) (k := 61) (v := 0)]
        refine aw_if_le (tgt := 137) hC dX12_bind_132 (by decide) (fun _ => ?_) (fun h20 => absurd h20 (by decide))
        show AW X 0 0 137 [some (.ref 44), some (.int (nI a)), some (.int (nI b)), some (.int (nI (10 + 3 * h + c))), some (.int 1), some (.int (bI (decide (I 58 (3 * (iN I 62 h) + c) &&& (2 : Int32) ≠ 0)))), none] [] T (a_u (a_u I 44 61 0) 44 61 0) J R
        refine aw_aload_n hC dX12_bind_137 rfl ?_
        refine aw_getR hC dX12_bind_138 aF_X12_71 rfl (tg_44 hT) (pr_44_24 hR) ?_
        refine aw_iconst (v := 3) hC dX12_bind_141 (by decide) ?_
        refine aw_iload_n hC dX12_bind_142 rfl ?_
        refine aw_imul hC dX12_bind_143 ?_
        rw [show 3 * (nI a) = nI (3 * a) from pk_mul 3 a]
        refine aw_iload_n hC dX12_bind_144 rfl ?_
        refine aw_iadd hC dX12_bind_145 ?_
        rw [show (nI (3 * a)) + (nI b) = nI ((3 * a) + b) from nI_add (3 * a) b]
        refine aw_iaload_k (j := ((3 * a) + b)) hC dX12_bind_146 (tg_65 hT) (nI_clamp (by omega)) (vp_in_nI (by omega) (by decide)) ?_
        rw [a_u_ne (f := a_u I 44 61 0) (o := 44) (k := 61) (a := 65) (b := ((3 * a) + b)) (v := 0) (fun q => absurd q.1 (by decide))]
        rw [a_u_ne (f := I) (o := 44) (k := 61) (a := 65) (b := ((3 * a) + b)) (v := 0) (fun q => absurd q.1 (by decide))]
        refine aw_istore (L2 := [some (.ref 44), some (.int (nI a)), some (.int (nI b)), some (.int (nI (10 + 3 * h + c))), some (.int 1), some (.int (bI (decide (I 58 (3 * (iN I 62 h) + c) &&& (2 : Int32) ≠ 0)))), some (.int (I 65 ((3 * a) + b)))]) hC dX12_bind_147 (by decide) rfl ?_
        refine aw_aload_n hC dX12_bind_149 rfl ?_
        refine aw_getR hC dX12_bind_150 aF_X12_71 rfl (tg_44 hT) (pr_44_24 hR) ?_
        refine aw_iconst (v := 3) hC dX12_bind_153 (by decide) ?_
        refine aw_iload_n hC dX12_bind_154 rfl ?_
        refine aw_imul hC dX12_bind_155 ?_
        rw [show 3 * (nI a) = nI (3 * a) from pk_mul 3 a]
        refine aw_iload_n hC dX12_bind_156 rfl ?_
        refine aw_iadd hC dX12_bind_157 ?_
        rw [show (nI (3 * a)) + (nI b) = nI ((3 * a) + b) from nI_add (3 * a) b]
        refine aw_iload_n hC dX12_bind_158 rfl ?_
        refine aw_iastore_k (j := ((3 * a) + b)) hC dX12_bind_159 (tg_65 hT) (nI_clamp (by omega)) (vp_in_nI (by omega) (by decide)) ?_
        refine aw_iload hC dX12_bind_160 rfl ?_
        exact aw_ireturn hC hq rfl dX12_bind_162 a_le a_le (aPure_e (by clear hC hq; (try simp only [bI_e0, bI_n0, decide_eq_false_iff_not, decide_eq_true_eq, Classical.not_not] at *) <;> first | grind [nI_p1, a_u_2] | (exfalso; (simp only [i_le, i_lt, i_eq, Int32.reduceToInt] at *); omega)) (by clear hC hq; (try simp only [bI_e0, bI_n0, decide_eq_false_iff_not, decide_eq_true_eq, Classical.not_not] at *) <;> first | grind [nI_p1, a_u_2] | (exfalso; (simp only [i_le, i_lt, i_eq, Int32.reduceToInt] at *); omega)) rfl rfl)
