set_option maxRecDepth 100000 in
theorem m_X7_copy {T : List aT} {I : aI} {J : aJ} {R : aR} {b a b2 a2 : Nat} (hb : HSet T R b a) (hb2 : HSet T R b2 a2) (hz : ∀ j, 10 ≤ j → J a j = J a2 j) : MX7_copy 0 0 [.ref b, .ref b2] T I J R (aPure none T I (a_ur J a (J a2)) R) := by
  refine a_met (by decide +kernel) a_le (fun X hC hq => ?_)
  show AW X 0 0 0 [some (.ref b), some (.ref b2)] [] T I J R
  refine aw_aload_n hC dX7_copy_0 rfl ?_
  refine aw_getR hC dX7_copy_1 aF_X7_9 rfl hb2.1 hb2.2.1 ?_
  refine aw_iconst (v := 0) hC dX7_copy_4 (by decide) ?_
  refine aw_aload_n hC dX7_copy_5 rfl ?_
  refine aw_getR hC dX7_copy_6 aF_X7_9 rfl hb.1 hb.2.1 ?_
  refine aw_iconst (v := 0) hC dX7_copy_9 (by decide) ?_
  refine aw_bipush (v := 10) hC dX7_copy_10 (by decide) ?_
  refine aw_copyJ (n0 := 10) (n1 := 10) hC dX7_copy_12 gL_X7_32 gAC_native gAC_static gN_J10 hb2.2.2 hb.2.2 (by decide) (by decide) (by decide) (by decide) (by decide) a_le a_le a_le ?_
  refine aw_setJ (J2 := a_ur J a (J a2)) (a_ur_ext (fun j => by show (if (0 : Int32).toNatClampNeg ≤ j ∧ j < (0 : Int32).toNatClampNeg + (10 : Int32).toNatClampNeg then J a2 ((0 : Int32).toNatClampNeg + (j - (0 : Int32).toNatClampNeg)) else J a j) = J a2 j; rw [show (0 : Int32).toNatClampNeg = 0 from rfl, show (10 : Int32).toNatClampNeg = 10 from rfl]; by_cases c : j < 10; (rw [if_pos (by omega)]; congr 1; omega); (rw [if_neg (by omega)]; exact hz j (by omega)))) ?_
  show AW X 0 0 15 [some (.ref b), some (.ref b2)] [] T I (a_ur J a (J a2)) R
  exact aw_return hC hq rfl dX7_copy_15 a_le a_le aPure_v
set_option maxRecDepth 100000 in
theorem m_X10_findValue {T : List aT} {I : aI} {J : aJ} {R : aR} (hT : aPT T) (hR : aPR R) {f : Nat} (hf : f < 10) : MX10_findValue 0 0 [.ref 8, .int (nI f)] T I J R (aPure (some (.int (if I 8 2 = 0 then (if sCount (J 13 f) = 1 then nI (sLeast (J 13 f)) else -1) else -2))) T I J R) := by
  refine a_met (by decide +kernel) a_le (fun X hC hq => ?_)
  show AW X 0 0 0 [some (.ref 8), some (.int (nI f)), none, none] [] T I J R
  refine aw_aload_n hC dX10_findValue_0 rfl ?_
  refine aw_getI hC dX10_findValue_1 aF_X10_78 rfl (tg_8 hT) ?_
  refine aw_if_eq (tgt := 10) hC dX10_findValue_4 (by decide) (fun h1 => ?_) (fun h1 => ?_)
  · show AW X 0 0 10 [some (.ref 8), some (.int (nI f)), none, none] [] T I J R
    refine aw_aload_n hC dX10_findValue_10 rfl ?_
    refine aw_getR hC dX10_findValue_11 aF_X10_22 rfl (tg_8 hT) (pr_8_5 hR) ?_
    refine aw_getR hC dX10_findValue_14 aF_X10_97 rfl (tg_12 hT) (pr_12_0 hR) ?_
    refine aw_iload_n hC dX10_findValue_17 rfl ?_
    refine aw_laload_k (j := f) hC dX10_findValue_18 (tg_13 hT) (nI_clamp (by omega)) (vp_in_nI (by omega) (by decide)) ?_
    refine aw_lstore_n (L2 := [some (.ref 8), some (.int (nI f)), some (.long (J 13 f)), none]) hC dX10_findValue_19 rfl (by decide) rfl ?_
    refine aw_lload_n hC dX10_findValue_20 rfl ?_
    refine kX10_101 hC rfl (m_J13_bitCount_95d88 (J 13 f)) dX10_findValue_21 rfl a_le a_le a_le a_le a_le rfl aPure_x (aPure_k ?_)
    show AW X 0 0 24 [some (.ref 8), some (.int (nI f)), some (.long (J 13 f)), none] [.int (nI (sCount (J 13 f)))] T I J R
    have hcb := sCount_le (J 13 f)
    refine aw_iconst (v := 1) hC dX10_findValue_24 (by decide) ?_
    refine aw_icmp_ne (tgt := 35) hC dX10_findValue_25 (by decide) (fun h2 => ?_) (fun h2 => ?_)
    · show AW X 0 0 35 [some (.ref 8), some (.int (nI f)), some (.long (J 13 f)), none] [] T I J R
      have h2n : ¬ (sCount (J 13 f)) = 1 := fun q9 => h2 ((nI_eq (a := (sCount (J 13 f))) (b := 1) (by omega) (by omega)).mpr q9)
      refine aw_iconst (v := (-1)) hC dX10_findValue_35 (by decide) ?_
      exact aw_ireturn hC hq rfl dX10_findValue_36 a_le a_le (aPure_i (by clear hC hq; (try simp only [bI_e0, bI_n0, decide_eq_false_iff_not, decide_eq_true_eq, Classical.not_not] at *); grind))
    · show AW X 0 0 28 [some (.ref 8), some (.int (nI f)), some (.long (J 13 f)), none] [] T I J R
      have h2n : (sCount (J 13 f)) = 1 := (nI_eq (a := (sCount (J 13 f))) (b := 1) (by omega) (by omega)).mp h2
      refine aw_lload_n hC dX10_findValue_28 rfl ?_
      refine kX10_107 hC rfl (m_X7_least (J 13 f)) dX10_findValue_29 rfl a_le a_le a_le a_le a_le rfl aPure_x (aPure_k ?_)
      show AW X 0 0 32 [some (.ref 8), some (.int (nI f)), some (.long (J 13 f)), none] [.int (nI (sLeast (J 13 f)))] T I J R
      refine aw_goto (tgt := 36) hC dX10_findValue_32 (by decide) ?_
      exact aw_ireturn hC hq rfl dX10_findValue_36 a_le a_le (aPure_i (by clear hC hq; (try simp only [bI_e0, bI_n0, decide_eq_false_iff_not, decide_eq_true_eq, Classical.not_not] at *); grind))
  · show AW X 0 0 7 [some (.ref 8), some (.int (nI f)), none, none] [] T I J R
    refine aw_bipush (v := (-2)) hC dX10_findValue_7 (by decide) ?_
    exact aw_ireturn hC hq rfl dX10_findValue_9 a_le a_le (aPure_i (by clear hC hq; (try simp only [bI_e0, bI_n0, decide_eq_false_iff_not, decide_eq_true_eq, Classical.not_not] at *); grind))
theorem bt_and {v : Int32} {f : Nat} (hf : f < 32) : (v &&& (1 <<< ((nI f) &&& 31)) ≠ 0) ↔ bt v f = true := by
  have e : ∀ i, i < 32 → bt (v &&& (1 <<< ((nI f) &&& 31))) i = (bt v i && decide (i = f)) := fun i hi => by rw [b_and]; congr 1; exact bt_bit hf hi
  constructor
  · intro q
    apply Classical.byContradiction; intro g
    refine q (b_ext fun i hi => ?_)
    rw [e i hi, b_0]
    by_cases c : i = f
    · subst c; simp at g; simp [g]
    · simp [c]
  · intro q z
    have := e f hf
    rw [z, q, b_0] at this; simp at this
set_option maxRecDepth 100000 in
theorem m_X10_isTainted {T : List aT} {I : aI} {J : aJ} {R : aR} (hT : aPT T) (hR : aPR R) {f : Nat} (hf : f < 10) : MX10_isTainted 0 0 [.ref 8, .int (nI f)] T I J R (aPure (some (.int (bI (bt (I 8 3) f)))) T I J R) := by
  refine a_met (by decide +kernel) a_le (fun X hC hq => ?_)
  show AW X 0 0 0 [some (.ref 8), some (.int (nI f))] [] T I J R
  refine aw_aload_n hC dX10_isTainted_0 rfl ?_
  refine aw_getI hC dX10_isTainted_1 aF_X10_110 rfl (tg_8 hT) ?_
  refine aw_iconst (v := 1) hC dX10_isTainted_4 (by decide) ?_
  refine aw_iload_n hC dX10_isTainted_5 rfl ?_
  refine aw_ishl hC dX10_isTainted_6 ?_
  refine aw_iand hC dX10_isTainted_7 ?_
  refine aw_if_eq (tgt := 15) hC dX10_isTainted_8 (by decide) (fun h1 => ?_) (fun h1 => ?_)
  · show AW X 0 0 15 [some (.ref 8), some (.int (nI f))] [] T I J R
    refine aw_iconst (v := 0) hC dX10_isTainted_15 (by decide) ?_
    exact aw_zreturn hC hq rfl (Or.inl rfl) dX10_isTainted_16 a_le a_le (aPure_i (by rw [show bt (I 8 3) f = false from by cases e9 : bt (I 8 3) f with | false => rfl | true => exact absurd (by assumption) ((bt_and (by omega)).mpr e9)]; rfl))
  · show AW X 0 0 11 [some (.ref 8), some (.int (nI f))] [] T I J R
    refine aw_iconst (v := 1) hC dX10_isTainted_11 (by decide) ?_
    refine aw_goto (tgt := 16) hC dX10_isTainted_12 (by decide) ?_
    exact aw_zreturn hC hq rfl (Or.inr rfl) dX10_isTainted_16 a_le a_le (aPure_i (by rw [(bt_and (by omega)).mp (by assumption)]; rfl))
theorem m1_le {a b : Nat} (ha : a < 1000) (hb : b < 1000) : (nI a + (-1) ≤ nI b + (-1)) ↔ a ≤ b := by
  have e : ∀ c : Nat, c < 1000 → (nI c + (-1) : Int32).toInt = (c : Int) - 1 := fun c hc => by
    cases c with
    | zero => decide
    | succ c => rw [pk_m1, nI_toInt (by omega)]; omega
  rw [i_le, e a ha, e b hb]; omega
theorem m1_eq {a b : Nat} (ha : a < 1000) (hb : b < 1000) : (nI a + (-1) = nI b + (-1)) ↔ a = b := by
  constructor
  · intro h
    have h1 := (m1_le ha hb).mp (by rw [h]; exact Int32.le_refl _)
    have h2 := (m1_le hb ha).mp (by rw [h]; exact Int32.le_refl _)
    omega
  · rintro rfl; rfl
/-- the layer of a statement, one more; 0 for packages -/
def layN (m : aI) (s : Nat) : Nat := if m 49 s < 0 then 0 else iN m 54 (m 49 s).toNatClampNeg + 1
def clI (x : Int32) : Nat := x.toNatClampNeg
theorem lay_nI {m : aI} {n s : Nat} (hS : SW m n) (hL : NR m 54 6 4) (hs : s < n) : lay m s = nI (layN m s) ∧ layN m s ≤ 4 := by
  unfold layN lay
  by_cases c : m 49 s < 0
  · rw [if_pos c, if_pos c]; exact ⟨rfl, by omega⟩
  · rw [if_neg c, if_neg c]
    have q := (hS.fl6 hs (Int32.not_lt.mp c)).1
    have b := hL _ (vp_eq q (by decide)).2
    rw [b.1]
    exact ⟨nI_1 _, by have := b.2; omega⟩
/-- the class's way through the defaults: the layer, one more, and the values -/
noncomputable def cDf (m : aI) (S : Nat → Int64) (f : Nat) : Nat → Nat × Int64
  | 0 => (0, 0)
  | k + 1 => if dOn m S f k then (if (cDf m S f k).1 < layN m k then (layN m k, 0 ||| sBit (iN m 47 k)) else if layN m k = (cDf m S f k).1 then ((cDf m S f k).1, (cDf m S f k).2 ||| sBit (iN m 47 k)) else cDf m S f k) else cDf m S f k
theorem mDef_0 {m : aI} {S : Nat → Int64} {f : Nat} {t : Int32} : ∀ {k : Nat}, (∀ j, j < k → dOn m S f j → lay m j ≠ t) → mDef m S f t k = 0
  | 0, _ => rfl
  | k + 1, h => by rw [mDef, if_neg (fun q => h k (by omega) q.1 q.2)]; exact mDef_0 (fun j hj => h j (by omega))
theorem cDf_ok {m : aI} {S : Nat → Int64} {n f : Nat} (hS : SW m n) (hL : NR m 54 6 4) : ∀ k, k ≤ n → (cDf m S f k).1 ≤ 4 ∧ (cDf m S f k).2 = mDef m S f (mTop m S f k) k ∧ ((mTop m S f k = -1 ∧ (cDf m S f k).1 = 0 ∧ ∀ j, j < k → ¬ dOn m S f j) ∨ (mTop m S f k = nI (cDf m S f k).1 ∧ ∀ j, j < k → dOn m S f j → layN m j ≤ (cDf m S f k).1))
  | 0, _ => ⟨by simp [cDf], rfl, Or.inl ⟨rfl, rfl, fun j hj => absurd hj (by omega)⟩⟩
  | k + 1, hk => by
    obtain ⟨i1, i2, i3⟩ := cDf_ok hS hL k (by omega)
    obtain ⟨l1, l2⟩ := lay_nI hS hL (show k < n by omega)
    by_cases c : dOn m S f k
    · have hm1 : (-1 : Int32) < nI (layN m k) := by rw [i_lt, nI_toInt (by omega)]; show (-1 : Int) < _; omega
      rcases i3 with ⟨t1, t2, t3⟩ | ⟨t1, t3⟩
      · have hT : mTop m S f (k + 1) = nI (layN m k) := by rw [mTop, if_pos c, l1, t1, if_pos hm1]
        have hD : mDef m S f (nI (layN m k)) (k + 1) = 0 ||| sBit (iN m 47 k) := by rw [mDef, if_pos ⟨c, l1⟩, mDef_0 (fun j hj q => absurd q (t3 j hj))]
        have hD0 : (cDf m S f k).2 = 0 := by rw [i2]; exact mDef_0 (fun j hj q => absurd q (t3 j hj))
        by_cases g : (cDf m S f k).1 < layN m k
        · have e : cDf m S f (k + 1) = (layN m k, 0 ||| sBit (iN m 47 k)) := by rw [cDf, if_pos c, if_pos g]
          rw [e, hT]
          exact ⟨l2, hD.symm, Or.inr ⟨rfl, fun j hj q => by by_cases ej : j = k
                                                            · rw [ej]; exact Nat.le_refl _
                                                            · exact absurd q (t3 j (by omega))⟩⟩
        · have e : cDf m S f (k + 1) = ((cDf m S f k).1, (cDf m S f k).2 ||| sBit (iN m 47 k)) := by rw [cDf, if_pos c, if_neg g, if_pos (by omega)]
          have eg : layN m k = (cDf m S f k).1 := by omega
          rw [eg] at hD
          rw [e, hT, eg]
          refine ⟨i1, ?_, Or.inr ⟨rfl, fun j hj q => ?_⟩⟩
          · rw [hD0]; exact hD.symm
          · by_cases ej : j = k
            · rw [ej]; omega
            · exact absurd q (t3 j (by omega))
      · by_cases g : (cDf m S f k).1 < layN m k
        · have hT : mTop m S f (k + 1) = nI (layN m k) := by rw [mTop, if_pos c, l1, t1, if_pos (nI_lt g (by omega))]
          have e : cDf m S f (k + 1) = (layN m k, 0 ||| sBit (iN m 47 k)) := by rw [cDf, if_pos c, if_pos g]
          rw [e, hT]
          refine ⟨l2, ?_, Or.inr ⟨rfl, fun j hj q => ?_⟩⟩
          · rw [mDef, if_pos ⟨c, l1⟩, mDef_0 (fun j hj q z => ?_)]
            have a := (lay_nI hS hL (show j < n by omega))
            rw [a.1] at z
            have := (nI_eq (by omega) (by omega)).mp z
            have := t3 j hj q
            omega
          · by_cases ej : j = k
            · rw [ej]; exact Nat.le_refl _
            · have := t3 j (by omega) q; show layN m j ≤ layN m k; omega
        · have hT : mTop m S f (k + 1) = mTop m S f k := by rw [mTop, if_pos c, l1, t1, if_neg (Int32.not_lt.mpr (nI_le (by omega) (by omega)))]
          by_cases g2 : layN m k = (cDf m S f k).1
          · have e : cDf m S f (k + 1) = ((cDf m S f k).1, (cDf m S f k).2 ||| sBit (iN m 47 k)) := by rw [cDf, if_pos c, if_neg g, if_pos g2]
            rw [e, hT]
            refine ⟨i1, ?_, Or.inr ⟨t1, fun j hj q => ?_⟩⟩
            · rw [mDef, if_pos ⟨c, by rw [l1, g2, t1]⟩]; show (cDf m S f k).2 ||| _ = _; rw [i2]
            · by_cases ej : j = k
              · rw [ej]; show layN m k ≤ (cDf m S f k).1; omega
              · exact t3 j (by omega) q
          · have e : cDf m S f (k + 1) = cDf m S f k := by rw [cDf, if_pos c, if_neg g, if_neg g2]
            rw [e, hT]
            refine ⟨i1, ?_, Or.inr ⟨t1, fun j hj q => ?_⟩⟩
            · rw [mDef, if_neg (fun z => g2 (by have := z.2; rw [l1, t1] at this; exact (nI_eq (by omega) (by omega)).mp this))]; exact i2
            · by_cases ej : j = k
              · rw [ej]; omega
              · exact t3 j (by omega) q
    · have hT : mTop m S f (k + 1) = mTop m S f k := by rw [mTop, if_neg c]
      have e : cDf m S f (k + 1) = cDf m S f k := by rw [cDf, if_neg c]
      rw [e, hT]
      refine ⟨i1, ?_, ?_⟩
      · rw [mDef, if_neg (fun z => c z.1)]; exact i2
      · refine i3.imp (fun q => ⟨q.1, q.2.1, fun j hj z => ?_⟩) (fun q => ⟨q.1, fun j hj z => ?_⟩)
        · by_cases ej : j = k
          · rw [ej] at z; exact c z
          · exact q.2.2 j (by omega) z
        · by_cases ej : j = k
          · rw [ej] at z; exact absurd z c
          · exact q.2 j (by omega) z
theorem cDf_y1 {m : aI} {S : Nat → Int64} {f k : Nat} (c : dOn m S f k) (g : (cDf m S f k).1 < layN m k) : cDf m S f (k + 1) = (layN m k, 0 ||| sBit (iN m 47 k)) := by rw [cDf, if_pos c, if_pos g]
theorem cDf_y2 {m : aI} {S : Nat → Int64} {f k : Nat} (c : dOn m S f k) (g : layN m k = (cDf m S f k).1) : cDf m S f (k + 1) = ((cDf m S f k).1, (cDf m S f k).2 ||| sBit (iN m 47 k)) := by rw [cDf, if_pos c, if_neg (by omega), if_pos g]
theorem cDf_y3 {m : aI} {S : Nat → Int64} {f k : Nat} (c : dOn m S f k) (g : layN m k < (cDf m S f k).1) : cDf m S f (k + 1) = cDf m S f k := by rw [cDf, if_pos c, if_neg (by omega), if_neg (by omega)]
theorem cDf_n {m : aI} {S : Nat → Int64} {f k : Nat} (c : ¬ dOn m S f k) : cDf m S f (k + 1) = cDf m S f k := by rw [cDf, if_neg c]
set_option maxRecDepth 100000 in
theorem m_X10_defaultsOf {T : List aT} {I : aI} {J : aJ} {R : aR} (hT : aPT T) (hR : aPR R) {m : aI} {n : Nat} {sq : Nat → Nat} (hSt : CSt T I R m n sq) (hD : CDr I R m n sq) (hS : SW m n) (h53 : m 44 53 = 0) (hL : NR m 54 6 4) (hLy : ∀ q, q < 6 → I 3 q = m 54 q) {f : Nat} (hf : f < 10) : MX10_defaultsOf 0 0 [.ref 8, .int (nI f)] T I J R (aPure (some (.long (mDef m (J 13) f (mTop m (J 13) f n) n))) T I J R) := by
  refine a_met (by decide +kernel) a_le (fun X hC hq => ?_)
  show AW X 0 0 0 [some (.ref 8), some (.int (nI f)), none, none, none, none, none, none] [] T I J R
  have hb12 : HSet T R 12 13 := ⟨tg_12 hT, pr_12_0 hR, tg_13 hT⟩
  refine aw_lconst (v := 0) hC dX10_defaultsOf_0 (by decide) ?_
  refine aw_lstore_n (L2 := [some (.ref 8), some (.int (nI f)), some (.long 0), none, none, none, none, none]) hC dX10_defaultsOf_1 rfl (by decide) rfl ?_
  refine aw_iconst (v := (-1)) hC dX10_defaultsOf_2 (by decide) ?_
  refine aw_istore (L2 := [some (.ref 8), some (.int (nI f)), some (.long 0), none, some (.int (-1)), none, none, none]) hC dX10_defaultsOf_3 (by decide) rfl ?_
  rw [show (-1 : Int32) = nI 0 + (-1) from by decide]
  refine aw_iconst (v := 0) hC dX10_defaultsOf_5 (by decide) ?_
  refine aw_istore (L2 := [some (.ref 8), some (.int (nI f)), some (.long 0), none, some (.int (nI 0 + (-1))), some (.int 0), none, none]) hC dX10_defaultsOf_6 (by decide) rfl ?_
  have loop : ∀ k, k ≤ n → AW X 0 0 8 [some (.ref 8), some (.int (nI f)), some (.long ((cDf m (J 13) f k).2)), none, some (.int (nI (cDf m (J 13) f k).1 + (-1))), some (.int (nI k)), none, none] [] T I J R := by
    refine a_down n (fun k hkl ih => ?_)
    have hn9 := hS.n30
    have hck := (cDf_ok (S := J 13) (f := f) hS hL k hkl).1
    refine aw_iload hC dX10_defaultsOf_8 rfl ?_
    refine aw_aload_n hC dX10_defaultsOf_10 rfl ?_
    refine aw_getR hC dX10_defaultsOf_11 aF_X10_40 rfl (tg_8 hT) (pr_8_0 hR) ?_
    refine aw_getI hC dX10_defaultsOf_14 aF_X10_60 rfl (tg_1 hT) ?_
    rw [hSt.cnt]
    refine aw_icmp_ge (tgt := 129) hC dX10_defaultsOf_17 (by decide) (fun h1 => ?_) (fun h1 => ?_)
    · show AW X 0 0 129 [some (.ref 8), some (.int (nI f)), some (.long ((cDf m (J 13) f k).2)), none, some (.int (nI (cDf m (J 13) f k).1 + (-1))), some (.int (nI k)), none, none] [] T I J R
      have h1n : n ≤ k := (nI_leI (a := n) (b := k) (by omega) (by omega)).mp h1
      refine aw_lload_n hC dX10_defaultsOf_129 rfl ?_
      exact aw_lreturn hC hq rfl dX10_defaultsOf_130 a_le a_le (aPure_l (by rw [show k = n from by omega]; exact (cDf_ok hS hL n (Nat.le_refl _)).2.1))
    · show AW X 0 0 20 [some (.ref 8), some (.int (nI f)), some (.long ((cDf m (J 13) f k).2)), none, some (.int (nI (cDf m (J 13) f k).1 + (-1))), some (.int (nI k)), none, none] [] T I J R
      have h1n : ¬ n ≤ k := fun q9 => h1 ((nI_leI (a := n) (b := k) (by omega) (by omega)).mpr q9)
      have hkd9 := (hS.kd k (by omega)).2
      have hfd9 := (hS.fd k (by omega)).2
      have hon9 := (hS.on k (by omega)).2
      refine aw_aload_n hC dX10_defaultsOf_20 rfl ?_
      refine aw_getR hC dX10_defaultsOf_21 aF_X10_40 rfl (tg_8 hT) (pr_8_0 hR) ?_
      refine aw_getR hC dX10_defaultsOf_24 aF_X10_64 rfl (tg_1 hT) (pr_1_0 hR) ?_
      refine aw_iload hC dX10_defaultsOf_27 rfl ?_
      refine aw_aaloadR_k (j := k) hC dX10_defaultsOf_29 (tg_2 hT) (nI_clamp (by omega)) (vp_in_nI (by omega) (by decide)) (hSt.rf (by omega)) ?_
      refine aw_astore (L2 := [some (.ref 8), some (.int (nI f)), some (.long ((cDf m (J 13) f k).2)), none, some (.int (nI (cDf m (J 13) f k).1 + (-1))), some (.int (nI k)), some (.ref (sq k)), none]) hC dX10_defaultsOf_30 (by decide) rfl ?_
      refine aw_aload hC dX10_defaultsOf_32 rfl ?_
      refine aw_getI hC dX10_defaultsOf_34 aF_X10_148 rfl (hSt.at (by omega)).1 ?_
      rw [(((hSt.at (show k < n by omega)).2.2.2.1).trans (hS.kd k (by omega)).1)]
      refine aw_iconst (v := 4) hC dX10_defaultsOf_37 (by decide) ?_
      refine aw_icmp_ne (tgt := 123) hC dX10_defaultsOf_38 (by decide) (fun h2 => ?_) (fun h2 => ?_)
      · show AW X 0 0 123 [some (.ref 8), some (.int (nI f)), some (.long ((cDf m (J 13) f k).2)), none, some (.int (nI (cDf m (J 13) f k).1 + (-1))), some (.int (nI k)), some (.ref (sq k)), none] [] T I J R
        have h2n : ¬ (iN m 45 k) = 4 := fun q9 => h2 ((nI_eq (a := (iN m 45 k)) (b := 4) (by omega) (by omega)).mpr q9)
        refine aw_iinc (v := nI (k + 1)) (L2 := [some (.ref 8), some (.int (nI f)), some (.long ((cDf m (J 13) f k).2)), none, some (.int (nI (cDf m (J 13) f k).1 + (-1))), some (.int (nI (k + 1))), some (.ref (sq k)), none]) hC dX10_defaultsOf_123 rfl (nI_inc _) (by decide) rfl ?_
        refine aw_goto (tgt := 8) hC dX10_defaultsOf_126 (by decide) ?_
        refine aw_forget 6 (L2 := [some (.ref 8), some (.int (nI f)), some (.long ((cDf m (J 13) f k).2)), none, some (.int (nI (cDf m (J 13) f k).1 + (-1))), some (.int (nI (k + 1))), none, none]) rfl ?_
        have hcd : cDf m (J 13) f (k + 1) = _ := cDf_n (fun q => by first | exact absurd ((hS.kq (by omega) (b := 4) (by omega)).mp q.1) (by omega) | (have z := q.2.1; rw [(hS.fd k (by omega)).1] at z; have := (nI_eq (by omega) (by omega)).mp z; omega) | exact absurd q.2.2 (bI_d0.mp (by assumption)))
        have hih := ih (by omega)
        rw [hcd] at hih
        exact hih
      · show AW X 0 0 41 [some (.ref 8), some (.int (nI f)), some (.long ((cDf m (J 13) f k).2)), none, some (.int (nI (cDf m (J 13) f k).1 + (-1))), some (.int (nI k)), some (.ref (sq k)), none] [] T I J R
        have h2n : (iN m 45 k) = 4 := (nI_eq (a := (iN m 45 k)) (b := 4) (by omega) (by omega)).mp h2
        refine aw_aload hC dX10_defaultsOf_41 rfl ?_
        refine aw_getI hC dX10_defaultsOf_43 aF_X10_134 rfl (hSt.at (by omega)).1 ?_
        rw [(((hSt.at (show k < n by omega)).2.2.2.2.1).trans (hS.fd k (by omega)).1)]
        refine aw_iload_n hC dX10_defaultsOf_46 rfl ?_
        refine aw_icmp_ne (tgt := 123) hC dX10_defaultsOf_47 (by decide) (fun h3 => ?_) (fun h3 => ?_)
        · show AW X 0 0 123 [some (.ref 8), some (.int (nI f)), some (.long ((cDf m (J 13) f k).2)), none, some (.int (nI (cDf m (J 13) f k).1 + (-1))), some (.int (nI k)), some (.ref (sq k)), none] [] T I J R
          have h3n : ¬ (iN m 46 k) = f := fun q9 => h3 ((nI_eq (a := (iN m 46 k)) (b := f) (by omega) (by omega)).mpr q9)
          refine aw_iinc (v := nI (k + 1)) (L2 := [some (.ref 8), some (.int (nI f)), some (.long ((cDf m (J 13) f k).2)), none, some (.int (nI (cDf m (J 13) f k).1 + (-1))), some (.int (nI (k + 1))), some (.ref (sq k)), none]) hC dX10_defaultsOf_123 rfl (nI_inc _) (by decide) rfl ?_
          refine aw_goto (tgt := 8) hC dX10_defaultsOf_126 (by decide) ?_
          refine aw_forget 6 (L2 := [some (.ref 8), some (.int (nI f)), some (.long ((cDf m (J 13) f k).2)), none, some (.int (nI (cDf m (J 13) f k).1 + (-1))), some (.int (nI (k + 1))), none, none]) rfl ?_
          have hcd : cDf m (J 13) f (k + 1) = _ := cDf_n (fun q => by first | exact absurd ((hS.kq (by omega) (b := 4) (by omega)).mp q.1) (by omega) | (have z := q.2.1; rw [(hS.fd k (by omega)).1] at z; have := (nI_eq (by omega) (by omega)).mp z; omega) | exact absurd q.2.2 (bI_d0.mp (by assumption)))
          have hih := ih (by omega)
          rw [hcd] at hih
          exact hih
        · show AW X 0 0 50 [some (.ref 8), some (.int (nI f)), some (.long ((cDf m (J 13) f k).2)), none, some (.int (nI (cDf m (J 13) f k).1 + (-1))), some (.int (nI k)), some (.ref (sq k)), none] [] T I J R
          have h3n : (iN m 46 k) = f := (nI_eq (a := (iN m 46 k)) (b := f) (by omega) (by omega)).mp h3
          refine aw_aload hC dX10_defaultsOf_50 rfl ?_
          refine aw_aload_n hC dX10_defaultsOf_52 rfl ?_
          refine aw_getR hC dX10_defaultsOf_53 aF_X10_22 rfl (tg_8 hT) (pr_8_5 hR) ?_
          refine kX10_67 hC rfl (m_X10_isCounting (I := I) (J := J) hSt hD hS h53 hb12 (s := k) (by omega)) dX10_defaultsOf_56 rfl a_le a_le a_le a_le a_le rfl aPure_x (aPure_k ?_)
          show AW X 0 0 59 [some (.ref 8), some (.int (nI f)), some (.long ((cDf m (J 13) f k).2)), none, some (.int (nI (cDf m (J 13) f k).1 + (-1))), some (.int (nI k)), some (.ref (sq k)), none] [.int (bI (decide (cOn m (J 13) k)))] T I J R
          refine aw_if_ne (tgt := 65) hC dX10_defaultsOf_59 (by decide) (fun h4 => ?_) (fun h4 => ?_)
          · show AW X 0 0 65 [some (.ref 8), some (.int (nI f)), some (.long ((cDf m (J 13) f k).2)), none, some (.int (nI (cDf m (J 13) f k).1 + (-1))), some (.int (nI k)), some (.ref (sq k)), none] [] T I J R
            have hcn9 : cOn m (J 13) k := bI_dn.mp (by assumption)
            refine aw_aload hC dX10_defaultsOf_65 rfl ?_
            refine aw_getI hC dX10_defaultsOf_67 aF_X10_151 rfl (hSt.at (by omega)).1 ?_
            rw [((hSt.at (show k < n by omega)).2.1)]
            refine aw_iconst (v := (-1)) hC dX10_defaultsOf_70 (by decide) ?_
            refine aw_icmp_ne (tgt := 78) hC dX10_defaultsOf_71 (by decide) (fun h5 => ?_) (fun h5 => ?_)
            · show AW X 0 0 78 [some (.ref 8), some (.int (nI f)), some (.long ((cDf m (J 13) f k).2)), none, some (.int (nI (cDf m (J 13) f k).1 + (-1))), some (.int (nI k)), some (.ref (sq k)), none] [] T I J R
              refine aw_aload_n hC dX10_defaultsOf_78 rfl ?_
              refine aw_getR hC dX10_defaultsOf_79 aF_X10_40 rfl (tg_8 hT) (pr_8_0 hR) ?_
              refine aw_getR hC dX10_defaultsOf_82 aF_X10_154 rfl (tg_1 hT) (pr_1_2 hR) ?_
              refine aw_aload hC dX10_defaultsOf_85 rfl ?_
              refine aw_getI hC dX10_defaultsOf_87 aF_X10_151 rfl (hSt.at (by omega)).1 ?_
              rw [((hSt.at (show k < n by omega)).2.1)]
              refine aw_iaload_k (j := (m 49 k).toNatClampNeg) hC dX10_defaultsOf_90 (tg_3 hT) rfl (hS.fl6 (by omega) ((hS.fl k (by omega)).resolve_left (by assumption)).1).1 ?_
              have hfl9 := (hS.fl k (by omega)).resolve_left (by assumption)
              have hvp := (hS.fl6 (by omega) hfl9.1).1
              have hv2 := (vp_eq hvp (by decide)).2
              have hb54 := hL _ hv2
              obtain ⟨lf, hlf⟩ : ∃ lf, lf = iN m 54 (m 49 k).toNatClampNeg := ⟨_, rfl⟩
              rw [show I 3 ((m 49 k).toNatClampNeg) = nI (lf + 1) + (-1) from by rw [hLy _ hv2, hb54.1, ← hlf]; exact (pk_m1 _).symm]
              have hla : layN m k = lf + 1 := by unfold layN; rw [if_neg (Int32.not_lt.mpr hfl9.1), hlf]
              have hlf4 : lf < 4 := by rw [hlf]; exact hb54.2
              refine aw_istore (L2 := [some (.ref 8), some (.int (nI f)), some (.long ((cDf m (J 13) f k).2)), none, some (.int (nI (cDf m (J 13) f k).1 + (-1))), some (.int (nI k)), some (.ref (sq k)), some (.int (nI (lf + 1) + (-1)))]) hC dX10_defaultsOf_91 (by decide) rfl ?_
              refine aw_iload hC dX10_defaultsOf_93 rfl ?_
              refine aw_iload hC dX10_defaultsOf_95 rfl ?_
              refine aw_icmp_le (tgt := 106) hC dX10_defaultsOf_97 (by decide) (fun hz6 => ?_) (fun hz6 => ?_)
              · show AW X 0 0 106 [some (.ref 8), some (.int (nI f)), some (.long ((cDf m (J 13) f k).2)), none, some (.int (nI (cDf m (J 13) f k).1 + (-1))), some (.int (nI k)), some (.ref (sq k)), some (.int (nI (lf + 1) + (-1)))] [] T I J R
                have hz6n := (m1_le (a := (lf + 1)) (b := (cDf m (J 13) f k).1) (by omega) (by omega)).mp hz6
                refine aw_iload hC dX10_defaultsOf_106 rfl ?_
                refine aw_iload hC dX10_defaultsOf_108 rfl ?_
                refine aw_icmp_ne (tgt := 123) hC dX10_defaultsOf_110 (by decide) (fun hz7 => ?_) (fun hz7 => ?_)
                · show AW X 0 0 123 [some (.ref 8), some (.int (nI f)), some (.long ((cDf m (J 13) f k).2)), none, some (.int (nI (cDf m (J 13) f k).1 + (-1))), some (.int (nI k)), some (.ref (sq k)), some (.int (nI (lf + 1) + (-1)))] [] T I J R
                  have hz7n : ¬ (lf + 1) = (cDf m (J 13) f k).1 := fun q => hz7 ((m1_eq (by omega) (by omega)).mpr q)
                  refine aw_iinc (v := nI (k + 1)) (L2 := [some (.ref 8), some (.int (nI f)), some (.long ((cDf m (J 13) f k).2)), none, some (.int (nI (cDf m (J 13) f k).1 + (-1))), some (.int (nI (k + 1))), some (.ref (sq k)), some (.int (nI (lf + 1) + (-1)))]) hC dX10_defaultsOf_123 rfl (nI_inc _) (by decide) rfl ?_
                  refine aw_goto (tgt := 8) hC dX10_defaultsOf_126 (by decide) ?_
                  refine aw_forget 6 (L2 := [some (.ref 8), some (.int (nI f)), some (.long ((cDf m (J 13) f k).2)), none, some (.int (nI (cDf m (J 13) f k).1 + (-1))), some (.int (nI (k + 1))), none, some (.int (nI (lf + 1) + (-1)))]) rfl ?_
                  refine aw_forget 7 (L2 := [some (.ref 8), some (.int (nI f)), some (.long ((cDf m (J 13) f k).2)), none, some (.int (nI (cDf m (J 13) f k).1 + (-1))), some (.int (nI (k + 1))), none, none]) rfl ?_
                  have hcd : cDf m (J 13) f (k + 1) = _ := cDf_y3 ⟨(hS.kq (by omega) (b := 4) (by omega)).mpr (by omega), by rw [(hS.fd k (by omega)).1, show iN m 46 k = f from by omega], hcn9⟩ (by rw [hla]; omega)
                  have hih := ih (by omega)
                  rw [hcd] at hih
                  exact hih
                · show AW X 0 0 113 [some (.ref 8), some (.int (nI f)), some (.long ((cDf m (J 13) f k).2)), none, some (.int (nI (cDf m (J 13) f k).1 + (-1))), some (.int (nI k)), some (.ref (sq k)), some (.int (nI (lf + 1) + (-1)))] [] T I J R
                  have hz7n := (m1_eq (a := (lf + 1)) (b := (cDf m (J 13) f k).1) (by omega) (by omega)).mp hz7
                  refine aw_lload_n hC dX10_defaultsOf_113 rfl ?_
                  refine aw_lconst (v := 1) hC dX10_defaultsOf_114 (by decide) ?_
                  refine aw_aload hC dX10_defaultsOf_115 rfl ?_
                  refine aw_getI hC dX10_defaultsOf_117 aF_X10_137 rfl (hSt.at (by omega)).1 ?_
                  rw [(((hSt.at (show k < n by omega)).2.2.2.2.2.1).trans (hS.on k (by omega)).1)]
                  refine aw_lshl hC dX10_defaultsOf_120 ?_
                  rw [show 1 <<< ((nI (iN m 47 k)).toInt64 &&& 63) = sBit (iN m 47 k) from sBit_shl (by omega)]
                  refine aw_lor hC dX10_defaultsOf_121 ?_
                  refine aw_lstore_n (L2 := [some (.ref 8), some (.int (nI f)), some (.long (((cDf m (J 13) f k).2) ||| (sBit (iN m 47 k)))), none, some (.int (nI (cDf m (J 13) f k).1 + (-1))), some (.int (nI k)), some (.ref (sq k)), some (.int (nI (lf + 1) + (-1)))]) hC dX10_defaultsOf_122 rfl (by decide) rfl ?_
                  refine aw_iinc (v := nI (k + 1)) (L2 := [some (.ref 8), some (.int (nI f)), some (.long (((cDf m (J 13) f k).2) ||| (sBit (iN m 47 k)))), none, some (.int (nI (cDf m (J 13) f k).1 + (-1))), some (.int (nI (k + 1))), some (.ref (sq k)), some (.int (nI (lf + 1) + (-1)))]) hC dX10_defaultsOf_123 rfl (nI_inc _) (by decide) rfl ?_
                  refine aw_goto (tgt := 8) hC dX10_defaultsOf_126 (by decide) ?_
                  refine aw_forget 6 (L2 := [some (.ref 8), some (.int (nI f)), some (.long (((cDf m (J 13) f k).2) ||| (sBit (iN m 47 k)))), none, some (.int (nI (cDf m (J 13) f k).1 + (-1))), some (.int (nI (k + 1))), none, some (.int (nI (lf + 1) + (-1)))]) rfl ?_
                  refine aw_forget 7 (L2 := [some (.ref 8), some (.int (nI f)), some (.long (((cDf m (J 13) f k).2) ||| (sBit (iN m 47 k)))), none, some (.int (nI (cDf m (J 13) f k).1 + (-1))), some (.int (nI (k + 1))), none, none]) rfl ?_
                  have hcd : cDf m (J 13) f (k + 1) = _ := cDf_y2 ⟨(hS.kq (by omega) (b := 4) (by omega)).mpr (by omega), by rw [(hS.fd k (by omega)).1, show iN m 46 k = f from by omega], hcn9⟩ (by rw [hla]; omega)
                  have hih := ih (by omega)
                  rw [hcd] at hih
                  exact hih
              · show AW X 0 0 100 [some (.ref 8), some (.int (nI f)), some (.long ((cDf m (J 13) f k).2)), none, some (.int (nI (cDf m (J 13) f k).1 + (-1))), some (.int (nI k)), some (.ref (sq k)), some (.int (nI (lf + 1) + (-1)))] [] T I J R
                have hz6n : ¬ (lf + 1) ≤ (cDf m (J 13) f k).1 := fun q => hz6 ((m1_le (by omega) (by omega)).mpr q)
                refine aw_iload hC dX10_defaultsOf_100 rfl ?_
                refine aw_istore (L2 := [some (.ref 8), some (.int (nI f)), some (.long ((cDf m (J 13) f k).2)), none, some (.int (nI (lf + 1) + (-1))), some (.int (nI k)), some (.ref (sq k)), some (.int (nI (lf + 1) + (-1)))]) hC dX10_defaultsOf_102 (by decide) rfl ?_
                refine aw_lconst (v := 0) hC dX10_defaultsOf_104 (by decide) ?_
                refine aw_lstore_n (L2 := [some (.ref 8), some (.int (nI f)), some (.long 0), none, some (.int (nI (lf + 1) + (-1))), some (.int (nI k)), some (.ref (sq k)), some (.int (nI (lf + 1) + (-1)))]) hC dX10_defaultsOf_105 rfl (by decide) rfl ?_
                refine aw_iload hC dX10_defaultsOf_106 rfl ?_
                refine aw_iload hC dX10_defaultsOf_108 rfl ?_
                refine aw_icmp_ne (tgt := 123) hC dX10_defaultsOf_110 (by decide) (fun h => absurd rfl h) (fun _ => ?_)
                show AW X 0 0 113 [some (.ref 8), some (.int (nI f)), some (.long 0), none, some (.int (nI (lf + 1) + (-1))), some (.int (nI k)), some (.ref (sq k)), some (.int (nI (lf + 1) + (-1)))] [] T I J R
                refine aw_lload_n hC dX10_defaultsOf_113 rfl ?_
                refine aw_lconst (v := 1) hC dX10_defaultsOf_114 (by decide) ?_
                refine aw_aload hC dX10_defaultsOf_115 rfl ?_
                refine aw_getI hC dX10_defaultsOf_117 aF_X10_137 rfl (hSt.at (by omega)).1 ?_
                rw [(((hSt.at (show k < n by omega)).2.2.2.2.2.1).trans (hS.on k (by omega)).1)]
                refine aw_lshl hC dX10_defaultsOf_120 ?_
                rw [show 1 <<< ((nI (iN m 47 k)).toInt64 &&& 63) = sBit (iN m 47 k) from sBit_shl (by omega)]
                refine aw_lor hC dX10_defaultsOf_121 ?_
                refine aw_lstore_n (L2 := [some (.ref 8), some (.int (nI f)), some (.long (0 ||| (sBit (iN m 47 k)))), none, some (.int (nI (lf + 1) + (-1))), some (.int (nI k)), some (.ref (sq k)), some (.int (nI (lf + 1) + (-1)))]) hC dX10_defaultsOf_122 rfl (by decide) rfl ?_
                refine aw_iinc (v := nI (k + 1)) (L2 := [some (.ref 8), some (.int (nI f)), some (.long (0 ||| (sBit (iN m 47 k)))), none, some (.int (nI (lf + 1) + (-1))), some (.int (nI (k + 1))), some (.ref (sq k)), some (.int (nI (lf + 1) + (-1)))]) hC dX10_defaultsOf_123 rfl (nI_inc _) (by decide) rfl ?_
                refine aw_goto (tgt := 8) hC dX10_defaultsOf_126 (by decide) ?_
                refine aw_forget 6 (L2 := [some (.ref 8), some (.int (nI f)), some (.long (0 ||| (sBit (iN m 47 k)))), none, some (.int (nI (lf + 1) + (-1))), some (.int (nI (k + 1))), none, some (.int (nI (lf + 1) + (-1)))]) rfl ?_
                refine aw_forget 7 (L2 := [some (.ref 8), some (.int (nI f)), some (.long (0 ||| (sBit (iN m 47 k)))), none, some (.int (nI (lf + 1) + (-1))), some (.int (nI (k + 1))), none, none]) rfl ?_
                have hcd : cDf m (J 13) f (k + 1) = _ := cDf_y1 ⟨(hS.kq (by omega) (b := 4) (by omega)).mpr (by omega), by rw [(hS.fd k (by omega)).1, show iN m 46 k = f from by omega], hcn9⟩ (by rw [hla]; omega)
                have hih := ih (by omega)
                rw [hcd] at hih
                rw [hla] at hih
                exact hih
            · show AW X 0 0 74 [some (.ref 8), some (.int (nI f)), some (.long ((cDf m (J 13) f k).2)), none, some (.int (nI (cDf m (J 13) f k).1 + (-1))), some (.int (nI k)), some (.ref (sq k)), none] [] T I J R
              refine aw_iconst (v := (-1)) hC dX10_defaultsOf_74 (by decide) ?_
              refine aw_goto (tgt := 91) hC dX10_defaultsOf_75 (by decide) ?_
              have hla : layN m k = 0 := by unfold layN; rw [if_pos (by rw [show m 49 k = -1 from by assumption]; decide)]
              rw [show (-1 : Int32) = nI 0 + (-1) from by decide]
              refine aw_istore (L2 := [some (.ref 8), some (.int (nI f)), some (.long ((cDf m (J 13) f k).2)), none, some (.int (nI (cDf m (J 13) f k).1 + (-1))), some (.int (nI k)), some (.ref (sq k)), some (.int (nI 0 + (-1)))]) hC dX10_defaultsOf_91 (by decide) rfl ?_
              refine aw_iload hC dX10_defaultsOf_93 rfl ?_
              refine aw_iload hC dX10_defaultsOf_95 rfl ?_
              refine aw_icmp_le (tgt := 106) hC dX10_defaultsOf_97 (by decide) (fun hz9 => ?_) (fun hz9 => ?_)
              · show AW X 0 0 106 [some (.ref 8), some (.int (nI f)), some (.long ((cDf m (J 13) f k).2)), none, some (.int (nI (cDf m (J 13) f k).1 + (-1))), some (.int (nI k)), some (.ref (sq k)), some (.int (nI 0 + (-1)))] [] T I J R
                have hz9n := (m1_le (a := 0) (b := (cDf m (J 13) f k).1) (by omega) (by omega)).mp hz9
                refine aw_iload hC dX10_defaultsOf_106 rfl ?_
                refine aw_iload hC dX10_defaultsOf_108 rfl ?_
                refine aw_icmp_ne (tgt := 123) hC dX10_defaultsOf_110 (by decide) (fun hz10 => ?_) (fun hz10 => ?_)
                · show AW X 0 0 123 [some (.ref 8), some (.int (nI f)), some (.long ((cDf m (J 13) f k).2)), none, some (.int (nI (cDf m (J 13) f k).1 + (-1))), some (.int (nI k)), some (.ref (sq k)), some (.int (nI 0 + (-1)))] [] T I J R
                  have hz10n : ¬ 0 = (cDf m (J 13) f k).1 := fun q => hz10 ((m1_eq (by omega) (by omega)).mpr q)
                  refine aw_iinc (v := nI (k + 1)) (L2 := [some (.ref 8), some (.int (nI f)), some (.long ((cDf m (J 13) f k).2)), none, some (.int (nI (cDf m (J 13) f k).1 + (-1))), some (.int (nI (k + 1))), some (.ref (sq k)), some (.int (nI 0 + (-1)))]) hC dX10_defaultsOf_123 rfl (nI_inc _) (by decide) rfl ?_
                  refine aw_goto (tgt := 8) hC dX10_defaultsOf_126 (by decide) ?_
                  refine aw_forget 6 (L2 := [some (.ref 8), some (.int (nI f)), some (.long ((cDf m (J 13) f k).2)), none, some (.int (nI (cDf m (J 13) f k).1 + (-1))), some (.int (nI (k + 1))), none, some (.int (nI 0 + (-1)))]) rfl ?_
                  refine aw_forget 7 (L2 := [some (.ref 8), some (.int (nI f)), some (.long ((cDf m (J 13) f k).2)), none, some (.int (nI (cDf m (J 13) f k).1 + (-1))), some (.int (nI (k + 1))), none, none]) rfl ?_
                  have hcd : cDf m (J 13) f (k + 1) = _ := cDf_y3 ⟨(hS.kq (by omega) (b := 4) (by omega)).mpr (by omega), by rw [(hS.fd k (by omega)).1, show iN m 46 k = f from by omega], hcn9⟩ (by rw [hla]; omega)
                  have hih := ih (by omega)
                  rw [hcd] at hih
                  exact hih
                · show AW X 0 0 113 [some (.ref 8), some (.int (nI f)), some (.long ((cDf m (J 13) f k).2)), none, some (.int (nI (cDf m (J 13) f k).1 + (-1))), some (.int (nI k)), some (.ref (sq k)), some (.int (nI 0 + (-1)))] [] T I J R
                  have hz10n := (m1_eq (a := 0) (b := (cDf m (J 13) f k).1) (by omega) (by omega)).mp hz10
                  refine aw_lload_n hC dX10_defaultsOf_113 rfl ?_
                  refine aw_lconst (v := 1) hC dX10_defaultsOf_114 (by decide) ?_
                  refine aw_aload hC dX10_defaultsOf_115 rfl ?_
                  refine aw_getI hC dX10_defaultsOf_117 aF_X10_137 rfl (hSt.at (by omega)).1 ?_
                  rw [(((hSt.at (show k < n by omega)).2.2.2.2.2.1).trans (hS.on k (by omega)).1)]
                  refine aw_lshl hC dX10_defaultsOf_120 ?_
                  rw [show 1 <<< ((nI (iN m 47 k)).toInt64 &&& 63) = sBit (iN m 47 k) from sBit_shl (by omega)]
                  refine aw_lor hC dX10_defaultsOf_121 ?_
                  refine aw_lstore_n (L2 := [some (.ref 8), some (.int (nI f)), some (.long (((cDf m (J 13) f k).2) ||| (sBit (iN m 47 k)))), none, some (.int (nI (cDf m (J 13) f k).1 + (-1))), some (.int (nI k)), some (.ref (sq k)), some (.int (nI 0 + (-1)))]) hC dX10_defaultsOf_122 rfl (by decide) rfl ?_
                  refine aw_iinc (v := nI (k + 1)) (L2 := [some (.ref 8), some (.int (nI f)), some (.long (((cDf m (J 13) f k).2) ||| (sBit (iN m 47 k)))), none, some (.int (nI (cDf m (J 13) f k).1 + (-1))), some (.int (nI (k + 1))), some (.ref (sq k)), some (.int (nI 0 + (-1)))]) hC dX10_defaultsOf_123 rfl (nI_inc _) (by decide) rfl ?_
                  refine aw_goto (tgt := 8) hC dX10_defaultsOf_126 (by decide) ?_
                  refine aw_forget 6 (L2 := [some (.ref 8), some (.int (nI f)), some (.long (((cDf m (J 13) f k).2) ||| (sBit (iN m 47 k)))), none, some (.int (nI (cDf m (J 13) f k).1 + (-1))), some (.int (nI (k + 1))), none, some (.int (nI 0 + (-1)))]) rfl ?_
                  refine aw_forget 7 (L2 := [some (.ref 8), some (.int (nI f)), some (.long (((cDf m (J 13) f k).2) ||| (sBit (iN m 47 k)))), none, some (.int (nI (cDf m (J 13) f k).1 + (-1))), some (.int (nI (k + 1))), none, none]) rfl ?_
                  have hcd : cDf m (J 13) f (k + 1) = _ := cDf_y2 ⟨(hS.kq (by omega) (b := 4) (by omega)).mpr (by omega), by rw [(hS.fd k (by omega)).1, show iN m 46 k = f from by omega], hcn9⟩ (by rw [hla]; omega)
                  have hih := ih (by omega)
                  rw [hcd] at hih
                  exact hih
              · show AW X 0 0 100 [some (.ref 8), some (.int (nI f)), some (.long ((cDf m (J 13) f k).2)), none, some (.int (nI (cDf m (J 13) f k).1 + (-1))), some (.int (nI k)), some (.ref (sq k)), some (.int (nI 0 + (-1)))] [] T I J R
                have hz9n : ¬ 0 ≤ (cDf m (J 13) f k).1 := fun q => hz9 ((m1_le (by omega) (by omega)).mpr q)
                refine aw_iload hC dX10_defaultsOf_100 rfl ?_
                refine aw_istore (L2 := [some (.ref 8), some (.int (nI f)), some (.long ((cDf m (J 13) f k).2)), none, some (.int (nI 0 + (-1))), some (.int (nI k)), some (.ref (sq k)), some (.int (nI 0 + (-1)))]) hC dX10_defaultsOf_102 (by decide) rfl ?_
                refine aw_lconst (v := 0) hC dX10_defaultsOf_104 (by decide) ?_
                refine aw_lstore_n (L2 := [some (.ref 8), some (.int (nI f)), some (.long 0), none, some (.int (nI 0 + (-1))), some (.int (nI k)), some (.ref (sq k)), some (.int (nI 0 + (-1)))]) hC dX10_defaultsOf_105 rfl (by decide) rfl ?_
                refine aw_iload hC dX10_defaultsOf_106 rfl ?_
                refine aw_iload hC dX10_defaultsOf_108 rfl ?_
                refine aw_icmp_ne (tgt := 123) hC dX10_defaultsOf_110 (by decide) (fun h => absurd rfl h) (fun _ => ?_)
                show AW X 0 0 113 [some (.ref 8), some (.int (nI f)), some (.long 0), none, some (.int (nI 0 + (-1))), some (.int (nI k)), some (.ref (sq k)), some (.int (nI 0 + (-1)))] [] T I J R
                refine aw_lload_n hC dX10_defaultsOf_113 rfl ?_
                refine aw_lconst (v := 1) hC dX10_defaultsOf_114 (by decide) ?_
                refine aw_aload hC dX10_defaultsOf_115 rfl ?_
                refine aw_getI hC dX10_defaultsOf_117 aF_X10_137 rfl (hSt.at (by omega)).1 ?_
                rw [(((hSt.at (show k < n by omega)).2.2.2.2.2.1).trans (hS.on k (by omega)).1)]
                refine aw_lshl hC dX10_defaultsOf_120 ?_
                rw [show 1 <<< ((nI (iN m 47 k)).toInt64 &&& 63) = sBit (iN m 47 k) from sBit_shl (by omega)]
                refine aw_lor hC dX10_defaultsOf_121 ?_
                refine aw_lstore_n (L2 := [some (.ref 8), some (.int (nI f)), some (.long (0 ||| (sBit (iN m 47 k)))), none, some (.int (nI 0 + (-1))), some (.int (nI k)), some (.ref (sq k)), some (.int (nI 0 + (-1)))]) hC dX10_defaultsOf_122 rfl (by decide) rfl ?_
                refine aw_iinc (v := nI (k + 1)) (L2 := [some (.ref 8), some (.int (nI f)), some (.long (0 ||| (sBit (iN m 47 k)))), none, some (.int (nI 0 + (-1))), some (.int (nI (k + 1))), some (.ref (sq k)), some (.int (nI 0 + (-1)))]) hC dX10_defaultsOf_123 rfl (nI_inc _) (by decide) rfl ?_
                refine aw_goto (tgt := 8) hC dX10_defaultsOf_126 (by decide) ?_
                refine aw_forget 6 (L2 := [some (.ref 8), some (.int (nI f)), some (.long (0 ||| (sBit (iN m 47 k)))), none, some (.int (nI 0 + (-1))), some (.int (nI (k + 1))), none, some (.int (nI 0 + (-1)))]) rfl ?_
                refine aw_forget 7 (L2 := [some (.ref 8), some (.int (nI f)), some (.long (0 ||| (sBit (iN m 47 k)))), none, some (.int (nI 0 + (-1))), some (.int (nI (k + 1))), none, none]) rfl ?_
                have hcd : cDf m (J 13) f (k + 1) = _ := cDf_y1 ⟨(hS.kq (by omega) (b := 4) (by omega)).mpr (by omega), by rw [(hS.fd k (by omega)).1, show iN m 46 k = f from by omega], hcn9⟩ (by rw [hla]; omega)
                have hih := ih (by omega)
                rw [hcd] at hih
                rw [hla] at hih
                exact hih
          · show AW X 0 0 62 [some (.ref 8), some (.int (nI f)), some (.long ((cDf m (J 13) f k).2)), none, some (.int (nI (cDf m (J 13) f k).1 + (-1))), some (.int (nI k)), some (.ref (sq k)), none] [] T I J R
            refine aw_goto (tgt := 123) hC dX10_defaultsOf_62 (by decide) ?_
            refine aw_iinc (v := nI (k + 1)) (L2 := [some (.ref 8), some (.int (nI f)), some (.long ((cDf m (J 13) f k).2)), none, some (.int (nI (cDf m (J 13) f k).1 + (-1))), some (.int (nI (k + 1))), some (.ref (sq k)), none]) hC dX10_defaultsOf_123 rfl (nI_inc _) (by decide) rfl ?_
            refine aw_goto (tgt := 8) hC dX10_defaultsOf_126 (by decide) ?_
            refine aw_forget 6 (L2 := [some (.ref 8), some (.int (nI f)), some (.long ((cDf m (J 13) f k).2)), none, some (.int (nI (cDf m (J 13) f k).1 + (-1))), some (.int (nI (k + 1))), none, none]) rfl ?_
            have hcd : cDf m (J 13) f (k + 1) = _ := cDf_n (fun q => by first | exact absurd ((hS.kq (by omega) (b := 4) (by omega)).mp q.1) (by omega) | (have z := q.2.1; rw [(hS.fd k (by omega)).1] at z; have := (nI_eq (by omega) (by omega)).mp z; omega) | exact absurd q.2.2 (bI_d0.mp (by assumption)))
            have hih := ih (by omega)
            rw [hcd] at hih
            exact hih
  exact loop 0 (Nat.zero_le _)
