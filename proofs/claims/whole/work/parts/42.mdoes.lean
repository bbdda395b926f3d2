theorem aw_setI {X : aX} {cells slots pc : Nat} {L : List (Option Value)} {st : List Value} {T : List aT} {I I2 : aI} {J : aJ} {R : aR} (h : I = I2) (k : AW X cells slots pc L st T I2 J R) : AW X cells slots pc L st T I J R := by rw [h]; exact k
theorem aw_setJ {X : aX} {cells slots pc : Nat} {L : List (Option Value)} {st : List Value} {T : List aT} {I : aI} {J J2 : aJ} {R : aR} (h : J = J2) (k : AW X cells slots pc L st T I J2 R) : AW X cells slots pc L st T I J R := by rw [h]; exact k
theorem sGives_cg3 {I I2 : aI} {J J2 : aJ} {x a : Nat} (hso : SO3 I) (hx : x < 64) (ha : a < 3) (h57 : I2 44 57 = I 44 57) (hJ : J2 88 = J 88) (h58 : I2 58 = I 58) (h61 : I2 61 = I 61) (h62 : I2 62 = I 62) (h65 : I2 65 = I 65) (h69 : ∀ y, y < 16 * (x / 16) → I2 69 y = I 69 y) (h70 : ∀ j, j < 48 * (x / 16) → I2 70 j = I 70 j) (h91 : ∀ y, y < 16 * (x / 16) → I2 91 y = I 91 y) : sGives I2 J2 x a = sGives I J x a := by
  have e : ∀ j, iN I2 65 j = iN I 65 j := fun j => by unfold iN; rw [h65]
  have e2 : ∀ j, iN I2 62 j = iN I 62 j := fun j => by unfold iN; rw [h62]
  have e3 : ∀ s, gvA I2 J2 x s = gvA I J x s := fun s => by unfold gvA iN; rw [sVal_cg h57 hJ, h61, h62]
  rw [sGives, sGives, e, h65, h58, e2, e3]
  by_cases c : I 65 (3 * (x / 16) + a) = -1 ∨ I 58 (3 * iN I 62 (x / 16) + a) &&& 2 ≠ 0
  · rw [if_pos c, if_pos c]
  · rw [if_neg c, if_neg c]
    by_cases d : iN I 65 (3 * (x / 16) + a) < 10
    · rw [if_pos d, if_pos d]
    · rw [if_neg d, if_neg d]
      rcases hso (3 * (x / 16) + a) (by omega) with q | q
      · exact absurd (Or.inl q) c
      · have hh := q.2.2 (by omega)
        generalize iN I 65 (3 * (x / 16) + a) = s at *
        have l1 : 16 * ((s - 10) / 3) + x % 16 < 16 * (x / 16) := by omega
        unfold gvB iN; rw [h61, h62, h69 _ l1, h91 _ l1, h70 _ (by omega)]
noncomputable def wOr (I : aI) (J : aJ) (x : Nat) : Nat → Int32
  | 0 => 0
  | k + 1 => wOr I J x k ||| (if sDf I J x k = true then iBit (nI k) else 0)
theorem wOr_y {I : aI} {J : aJ} {x k : Nat} (h : sDf I J x k = true) : wOr I J x k ||| (1 <<< ((nI k) &&& 31)) = wOr I J x (k + 1) := by rw [wOr, if_pos h]; rfl
theorem wOr_n {I : aI} {J : aJ} {x k : Nat} (h : sDf I J x k = false) : wOr I J x k ||| 0 = wOr I J x (k + 1) := by rw [wOr, if_neg (by rw [h]; simp)]
theorem wOr_bt {I : aI} {J : aJ} {x i : Nat} (hi : i < 32) : ∀ k, k ≤ 3 → bt (wOr I J x k) i = (decide (i < k) && sDf I J x i)
  | 0, _ => by rw [wOr, b_0]; simp
  | k + 1, hk => by
    rw [wOr, b_or, wOr_bt hi k (by omega)]
    by_cases c : sDf I J x k = true
    · rw [if_pos c, bt_bit (by omega) hi]
      by_cases e : i = k
      · subst e; simp [c]
      · have e2 : decide (i < k + 1) = decide (i < k) := by simp only [decide_eq_decide]; omega
        simp [e, e2]
    · rw [if_neg c, b_0, Bool.or_false]
      by_cases e : i = k
      · subst e; simp only [Bool.not_eq_true] at c; simp [c]
      · have e2 : decide (i < k + 1) = decide (i < k) := by simp only [decide_eq_decide]; omega
        rw [e2]
theorem wOr_t {I : aI} {J : aJ} {x k : Nat} (hk : k < 3) : ((wOr I J x 3 >>> ((nI k) &&& 31)) &&& 1 = 1) ↔ sDf I J x k = true := by
  rw [bt_sshr (by omega), wOr_bt (by omega) 3 (Nat.le_refl _)]; simp [hk]
noncomputable def ch67 (I : aI) (J : aJ) (x r m : Nat) : Nat → Int32 := fun j => if (3 * r ≤ j ∧ j < 3 * r + m) ∧ sDf I J x (j - 3 * r) = true ∧ I 68 r = 0 then sGives I J x (j - 3 * r) else I 67 j
noncomputable def ch70 (I : aI) (J : aJ) (x : Nat) (w : Bool) (m : Nat) : Nat → Int32 := fun j => if (3 * x ≤ j ∧ j < 3 * x + m) ∧ sDf I J x (j - 3 * x) = true ∧ w = true then sGives I J x (j - 3 * x) else I 70 j
noncomputable def chAd (I : aI) (J : aJ) (x : Nat) (w : Bool) : Nat → Int32
  | 0 => I 72 x
  | m + 1 => if sDf I J x m = true ∧ w = true then chAd I J x w m &&& ((1 <<< ((nI m) &&& 31)) ^^^ (-1)) else chAd I J x w m
noncomputable def ch72 (I : aI) (J : aJ) (x : Nat) (w : Bool) (m : Nat) : Nat → Int32 := fun j => if j = x then chAd I J x w m else I 72 j
noncomputable def chS (I : aI) (J : aJ) (x r : Nat) (w : Bool) (m : Nat) : aI := a_ur (a_ur (a_ur I 67 (ch67 I J x r m)) 70 (ch70 I J x w m)) 72 (ch72 I J x w m)
theorem ch67_n {I : aI} {J : aJ} {x r m : Nat} (h : sDf I J x m = false) (j : Nat) : ch67 I J x r m j = ch67 I J x r (m + 1) j := by
  unfold ch67
  by_cases e : j = 3 * r + m
  · subst e; rw [if_neg (by omega), if_neg (by rw [show 3 * r + m - 3 * r = m by omega, h]; simp)]
  · by_cases c : 3 * r ≤ j ∧ j < 3 * r + m
    · have c2 : 3 * r ≤ j ∧ j < 3 * r + (m + 1) := by omega
      simp only [c, c2]
    · have c2 : ¬ (3 * r ≤ j ∧ j < 3 * r + (m + 1)) := by omega
      simp only [c, c2, false_and, if_false]
theorem ch70_n {I : aI} {J : aJ} {x m : Nat} {w : Bool} (h : sDf I J x m = false ∨ w = false) (j : Nat) : ch70 I J x w m j = ch70 I J x w (m + 1) j := by
  unfold ch70
  by_cases e : j = 3 * x + m
  · subst e; rw [if_neg (by omega), if_neg (by rw [show 3 * x + m - 3 * x = m by omega]; rcases h with h | h <;> rw [h] <;> simp)]
  · by_cases c : 3 * x ≤ j ∧ j < 3 * x + m
    · have c2 : 3 * x ≤ j ∧ j < 3 * x + (m + 1) := by omega
      simp only [c, c2]
    · have c2 : ¬ (3 * x ≤ j ∧ j < 3 * x + (m + 1)) := by omega
      simp only [c, c2, false_and, if_false]
theorem ch72_n {I : aI} {J : aJ} {x m : Nat} {w : Bool} (h : sDf I J x m = false ∨ w = false) (j : Nat) : ch72 I J x w m j = ch72 I J x w (m + 1) j := by
  have e : chAd I J x w (m + 1) = chAd I J x w m := by rw [chAd, if_neg (by rcases h with h | h <;> rw [h] <;> simp)]
  unfold ch72; rw [e]
theorem ch67_y {I : aI} {J : aJ} {x r m : Nat} {v : Int32} (h : sDf I J x m = true) (hv : (I 68 r = 0 ∧ v = sGives I J x m) ∨ (I 68 r ≠ 0 ∧ v = ch67 I J x r m (3 * r + m))) (j : Nat) : (if j = 3 * r + m then v else ch67 I J x r m j) = ch67 I J x r (m + 1) j := by
  by_cases e : j = 3 * r + m
  · subst e; rw [if_pos rfl]
    rcases hv with ⟨h0, hv⟩ | ⟨h0, hv⟩
    · rw [hv]; unfold ch67; rw [if_pos ⟨by omega, by rw [show 3 * r + m - 3 * r = m by omega]; exact h, h0⟩, show 3 * r + m - 3 * r = m by omega]
    · rw [hv]; unfold ch67; rw [if_neg (fun q => h0 q.2.2), if_neg (fun q => h0 q.2.2)]
  · rw [if_neg e]; unfold ch67
    by_cases c : 3 * r ≤ j ∧ j < 3 * r + m
    · have c2 : 3 * r ≤ j ∧ j < 3 * r + (m + 1) := by omega
      simp only [c, c2]
    · have c2 : ¬ (3 * r ≤ j ∧ j < 3 * r + (m + 1)) := by omega
      simp only [c, c2, false_and, if_false]
theorem ch70_y {I : aI} {J : aJ} {x m : Nat} {w : Bool} (h : sDf I J x m = true) (hw : w = true) (j : Nat) : (if j = 3 * x + m then sGives I J x m else ch70 I J x w m j) = ch70 I J x w (m + 1) j := by
  by_cases e : j = 3 * x + m
  · subst e; rw [if_pos rfl]; unfold ch70; rw [if_pos ⟨by omega, by rw [show 3 * x + m - 3 * x = m by omega]; exact h, hw⟩, show 3 * x + m - 3 * x = m by omega]
  · rw [if_neg e]; unfold ch70
    by_cases c : 3 * x ≤ j ∧ j < 3 * x + m
    · have c2 : 3 * x ≤ j ∧ j < 3 * x + (m + 1) := by omega
      simp only [c, c2]
    · have c2 : ¬ (3 * x ≤ j ∧ j < 3 * x + (m + 1)) := by omega
      simp only [c, c2, false_and, if_false]
theorem ch72_y {I : aI} {J : aJ} {x m : Nat} {w : Bool} (h : sDf I J x m = true) (hw : w = true) (j : Nat) : (if j = x then ch72 I J x w m x &&& ((1 <<< ((nI m) &&& 31)) ^^^ (-1)) else ch72 I J x w m j) = ch72 I J x w (m + 1) j := by
  unfold ch72
  by_cases e : j = x
  · subst e; rw [if_pos rfl, if_pos rfl, if_pos rfl, chAd, if_pos ⟨h, hw⟩]
  · rw [if_neg e, if_neg e, if_neg e]
theorem chS_0 {I : aI} {J : aJ} {x r : Nat} {w : Bool} : I = chS I J x r w 0 := by
  unfold chS
  rw [a_ur_id (f := I) (o := 67) (fun j => by unfold ch67; rw [if_neg (by omega)]), a_ur_id (f := I) (o := 70) (fun j => by unfold ch70; rw [if_neg (by omega)]), a_ur_id (f := I) (o := 72) (fun j => by
    unfold ch72; split
    · next h => rw [h, chAd]
    · rfl)]
theorem chS_fr {I : aI} {J : aJ} {x r m o : Nat} {w : Bool} (h : o ≠ 67 ∧ o ≠ 70 ∧ o ≠ 72) : chS I J x r w m o = I o := by
  unfold chS; rw [a_ur_ne h.2.2, a_ur_ne h.2.1, a_ur_ne h.1]
theorem chS_gw {I : aI} {J : aJ} {x r m g : Nat} {w : Bool} (h : GW I g) : GW (chS I J x r w m) g :=
  GW_cg (by rw [chS_fr (by decide)]) (chS_fr (by decide)) (chS_fr (by decide)) (chS_fr (by decide)) (chS_fr (by decide)) (chS_fr (by decide)) h
theorem chS_gv {I : aI} {J : aJ} {x r m g k : Nat} {w : Bool} (h : GW I g) (hx : x < 64) (hk : k < 3) : sGives (chS I J x r w m) J x k = sGives I J x k :=
  sGives_cg3 h.so hx hk (by rw [chS_fr (by decide)]) rfl (chS_fr (by decide)) (chS_fr (by decide)) (chS_fr (by decide)) (chS_fr (by decide)) (fun y _ => by rw [chS_fr (by decide)]) (fun j hj => by unfold chS; rw [a_ur_ne (by decide), a_ur_self]; unfold ch70; rw [if_neg (by omega)]) (fun y _ => by rw [chS_fr (by decide)])
set_option maxRecDepth 100000 in
theorem m_X12_changesNow {T : List aT} {I : aI} {J : aJ} {R : aR} (hT : aPT T) (hR : aPR R) {g x r : Nat} (hg : GW I g) (hx : x < 64) (he : I 69 x = nI (r + 1)) (hr9 : r < 60) (w : Bool) : MX12_changesNow 0 0 [.ref 44, .int (nI x), .int (bI w)] T I J R (aPure none T (chS I J x r w 3) J R) := by
  refine a_met (by decide +kernel) a_le (fun X hC hq => ?_)
  show AW X 0 0 0 [some (.ref 44), some (.int (nI x)), some (.int (bI w)), none, none, none, none] [] T I J R
  refine aw_aload_n hC dX12_changesNow_0 rfl ?_
  refine aw_getR hC dX12_changesNow_1 aF_X12_83 rfl (tg_44 hT) (pr_44_29 hR) ?_
  refine aw_iload_n hC dX12_changesNow_4 rfl ?_
  refine aw_iaload_k (j := x) hC dX12_changesNow_5 (tg_69 hT) (nI_clamp (by omega)) (vp_in_nI (by omega) (by decide)) ?_
  rw [he]
  refine aw_iconst (v := 1) hC dX12_changesNow_6 (by decide) ?_
  refine aw_isub hC dX12_changesNow_7 ?_
  rw [show (nI (r + 1)) - 1 = nI ((r + 1) - 1) from pk_sub (a := (r + 1)) (b := 1) (by omega)]
  rw [show nI ((r + 1) - 1) = nI r from rfl]
  refine aw_istore_n (L2 := [some (.ref 44), some (.int (nI x)), some (.int (bI w)), some (.int (nI r)), none, none, none]) hC dX12_changesNow_8 rfl (by decide) rfl ?_
  refine aw_iconst (v := 0) hC dX12_changesNow_9 (by decide) ?_
  refine aw_istore (L2 := [some (.ref 44), some (.int (nI x)), some (.int (bI w)), some (.int (nI r)), some (.int 0), none, none]) hC dX12_changesNow_10 (by decide) rfl ?_
  refine aw_iconst (v := 0) hC dX12_changesNow_12 (by decide) ?_
  refine aw_istore (L2 := [some (.ref 44), some (.int (nI x)), some (.int (bI w)), some (.int (nI r)), some (.int 0), some (.int 0), none]) hC dX12_changesNow_13 (by decide) rfl ?_
  have loop1 : ∀ k, k ≤ 3 → AW X 0 0 15 [some (.ref 44), some (.int (nI x)), some (.int (bI w)), some (.int (nI r)), some (.int (wOr I J x k)), some (.int (nI k)), none] [] T I J R := by
    refine a_down 3 (fun k hk1 ih1 => ?_)
    refine aw_iload hC dX12_changesNow_15 rfl ?_
    refine aw_iconst (v := 3) hC dX12_changesNow_17 (by decide) ?_
    refine aw_icmp_ge (tgt := 50) hC dX12_changesNow_18 (by decide) (fun h1 => ?_) (fun h1 => ?_)
    · show AW X 0 0 50 [some (.ref 44), some (.int (nI x)), some (.int (bI w)), some (.int (nI r)), some (.int (wOr I J x k)), some (.int (nI k)), none] [] T I J R
      have h1n : 3 ≤ k := (nI_leI (a := 3) (b := k) (by omega) (by omega)).mp h1
      refine aw_iconst (v := 0) hC dX12_changesNow_50 (by decide) ?_
      refine aw_istore (L2 := [some (.ref 44), some (.int (nI x)), some (.int (bI w)), some (.int (nI r)), some (.int (wOr I J x k)), some (.int 0), none]) hC dX12_changesNow_51 (by decide) rfl ?_
      have e3 : k = 3 := by omega
      rw [e3]
      have loop2 : ∀ m, m ≤ 3 → AW X 0 0 53 [some (.ref 44), some (.int (nI x)), some (.int (bI w)), some (.int (nI r)), some (.int (wOr I J x 3)), some (.int (nI m)), none] [] T (a_ur (a_ur (a_ur I 67 (ch67 I J x r m)) 70 (ch70 I J x w m)) 72 (ch72 I J x w m)) J R := by
        refine a_down 3 (fun m hk2 ih2 => ?_)
        refine aw_iload hC dX12_changesNow_53 rfl ?_
        refine aw_iconst (v := 3) hC dX12_changesNow_55 (by decide) ?_
        refine aw_icmp_ge (tgt := 153) hC dX12_changesNow_56 (by decide) (fun h2 => ?_) (fun h2 => ?_)
        · show AW X 0 0 153 [some (.ref 44), some (.int (nI x)), some (.int (bI w)), some (.int (nI r)), some (.int (wOr I J x 3)), some (.int (nI m)), none] [] T (a_ur (a_ur (a_ur I 67 (ch67 I J x r m)) 70 (ch70 I J x w m)) 72 (ch72 I J x w m)) J R
          have h2n : 3 ≤ m := (nI_leI (a := 3) (b := m) (by omega) (by omega)).mp h2
          exact aw_return hC hq rfl dX12_changesNow_153 a_le a_le (aPure_ev (by rw [show m = 3 from by omega]; rfl) rfl rfl)
        · show AW X 0 0 59 [some (.ref 44), some (.int (nI x)), some (.int (bI w)), some (.int (nI r)), some (.int (wOr I J x 3)), some (.int (nI m)), none] [] T (a_ur (a_ur (a_ur I 67 (ch67 I J x r m)) 70 (ch70 I J x w m)) 72 (ch72 I J x w m)) J R
          have h2n : ¬ 3 ≤ m := fun q9 => h2 ((nI_leI (a := 3) (b := m) (by omega) (by omega)).mpr q9)
          refine aw_iload hC dX12_changesNow_59 rfl ?_
          refine aw_iload hC dX12_changesNow_61 rfl ?_
          refine aw_ishr hC dX12_changesNow_63 ?_
          refine aw_iconst (v := 1) hC dX12_changesNow_64 (by decide) ?_
          refine aw_iand hC dX12_changesNow_65 ?_
          refine aw_iconst (v := 1) hC dX12_changesNow_66 (by decide) ?_
          refine aw_icmp_ne (tgt := 147) hC dX12_changesNow_67 (by decide) (fun h3 => ?_) (fun h3 => ?_)
          · show AW X 0 0 147 [some (.ref 44), some (.int (nI x)), some (.int (bI w)), some (.int (nI r)), some (.int (wOr I J x 3)), some (.int (nI m)), none] [] T (a_ur (a_ur (a_ur I 67 (ch67 I J x r m)) 70 (ch70 I J x w m)) 72 (ch72 I J x w m)) J R
            refine aw_iinc (v := nI (m + 1)) (L2 := [some (.ref 44), some (.int (nI x)), some (.int (bI w)), some (.int (nI r)), some (.int (wOr I J x 3)), some (.int (nI (m + 1))), none]) hC dX12_changesNow_147 rfl (nI_inc _) (by decide) rfl ?_
            refine aw_goto (tgt := 53) hC dX12_changesNow_150 (by decide) ?_
            have hnd : sDf I J x m = false := by cases e9 : sDf I J x m with | false => rfl | true => exact absurd ((wOr_t (by omega)).mpr e9) (by assumption)
            rw [show a_ur (a_ur (a_ur I 67 (ch67 I J x r m)) 70 (ch70 I J x w m)) 72 (ch72 I J x w m) = a_ur (a_ur (a_ur I 67 (ch67 I J x r (m + 1))) 70 (ch70 I J x w (m + 1))) 72 (ch72 I J x w (m + 1)) from a_ur_cg (a_ur_cg (a_ur_ext (ch67_n hnd)) (ch70_n (Or.inl hnd))) (ch72_n (Or.inl hnd))]
            exact ih2 (by omega)
          · show AW X 0 0 70 [some (.ref 44), some (.int (nI x)), some (.int (bI w)), some (.int (nI r)), some (.int (wOr I J x 3)), some (.int (nI m)), none] [] T (a_ur (a_ur (a_ur I 67 (ch67 I J x r m)) 70 (ch70 I J x w m)) 72 (ch72 I J x w m)) J R
            refine aw_aload_n hC dX12_changesNow_70 rfl ?_
            refine aw_iload_n hC dX12_changesNow_71 rfl ?_
            refine aw_iload hC dX12_changesNow_72 rfl ?_
            refine kX12_346 hC rfl (m_X12_gives (I := a_ur (a_ur (a_ur I 67 (ch67 I J x r m)) 70 (ch70 I J x w m)) 72 (ch72 I J x w m)) (J := J) hT hR (x := x) (a := m) (by omega) (by omega) (chS_gw (m := m) hg).so.s2 (chS_gw (m := m) hg).ty (chS_gw (m := m) hg).up) dX12_changesNow_74 (tg_44 hT) rfl a_le a_le a_le a_le a_le rfl aPure_x (aPure_k ?_)
            show AW X 0 0 77 [some (.ref 44), some (.int (nI x)), some (.int (bI w)), some (.int (nI r)), some (.int (wOr I J x 3)), some (.int (nI m)), none] [.int (sGives (a_ur (a_ur (a_ur I 67 (ch67 I J x r m)) 70 (ch70 I J x w m)) 72 (ch72 I J x w m)) J x m)] T (a_ur (a_ur (a_ur I 67 (ch67 I J x r m)) 70 (ch70 I J x w m)) 72 (ch72 I J x w m)) J R
            rw [show sGives (a_ur (a_ur (a_ur I 67 (ch67 I J x r m)) 70 (ch70 I J x w m)) 72 (ch72 I J x w m)) J x m = sGives I J x m from chS_gv hg hx (by omega)]
            refine aw_istore (L2 := [some (.ref 44), some (.int (nI x)), some (.int (bI w)), some (.int (nI r)), some (.int (wOr I J x 3)), some (.int (nI m)), some (.int (sGives I J x m))]) hC dX12_changesNow_77 (by decide) rfl ?_
            refine aw_aload_n hC dX12_changesNow_79 rfl ?_
            refine aw_getR hC dX12_changesNow_80 aF_X12_77 rfl (tg_44 hT) (pr_44_27 hR) ?_
            refine aw_iconst (v := 3) hC dX12_changesNow_83 (by decide) ?_
            refine aw_iload_n hC dX12_changesNow_84 rfl ?_
            refine aw_imul hC dX12_changesNow_85 ?_
            rw [show 3 * (nI r) = nI (3 * r) from pk_mul 3 r]
            refine aw_iload hC dX12_changesNow_86 rfl ?_
            refine aw_iadd hC dX12_changesNow_88 ?_
            rw [show (nI (3 * r)) + (nI m) = nI ((3 * r) + m) from nI_add (3 * r) m]
            refine aw_aload_n hC dX12_changesNow_89 rfl ?_
            refine aw_getR hC dX12_changesNow_90 aF_X12_80 rfl (tg_44 hT) (pr_44_28 hR) ?_
            refine aw_iload_n hC dX12_changesNow_93 rfl ?_
            refine aw_baload_k (j := r) hC dX12_changesNow_94 (tg_68 hT) (nI_clamp (by omega)) (vp_in_nI (by omega) (by decide)) ?_
            rw [a_ur_ne (f := a_ur (a_ur I 67 (ch67 I J x r m)) 70 (ch70 I J x w m)) (o := 72) (a := 68) (g := ch72 I J x w m) (by decide)]
            rw [a_ur_ne (f := a_ur I 67 (ch67 I J x r m)) (o := 70) (a := 68) (g := ch70 I J x w m) (by decide)]
            rw [a_ur_ne (f := I) (o := 67) (a := 68) (g := ch67 I J x r m) (by decide)]
            refine aw_if_eq (tgt := 112) hC dX12_changesNow_95 (by decide) (fun h4 => ?_) (fun h4 => ?_)
            · show AW X 0 0 112 [some (.ref 44), some (.int (nI x)), some (.int (bI w)), some (.int (nI r)), some (.int (wOr I J x 3)), some (.int (nI m)), some (.int (sGives I J x m))] [.int (nI ((3 * r) + m)), .ref 67] T (a_ur (a_ur (a_ur I 67 (ch67 I J x r m)) 70 (ch70 I J x w m)) 72 (ch72 I J x w m)) J R
              refine aw_iload hC dX12_changesNow_112 rfl ?_
              refine aw_iastore_k (j := ((3 * r) + m)) hC dX12_changesNow_114 (tg_67 hT) (nI_clamp (by omega)) (vp_in_nI (by omega) (by decide)) ?_
              rw [show a_u (a_ur (a_ur (a_ur I 67 (ch67 I J x r m)) 70 (ch70 I J x w m)) 72 (ch72 I J x w m)) 67 ((3 * r) + m) (sGives I J x m) = a_ur (a_ur (a_ur I 67 (fun j => if j = ((3 * r) + m) then sGives I J x m else (ch67 I J x r m) j)) 70 (ch70 I J x w m)) 72 (ch72 I J x w m) from by rw [a_u_swap (by first | decide | omega), a_u_swap (by first | decide | omega), a_ur_put]]
              refine aw_iload_n hC dX12_changesNow_115 rfl ?_
              refine aw_if_eq (tgt := 147) hC dX12_changesNow_116 (by decide) (fun h5 => ?_) (fun h5 => ?_)
              · show AW X 0 0 147 [some (.ref 44), some (.int (nI x)), some (.int (bI w)), some (.int (nI r)), some (.int (wOr I J x 3)), some (.int (nI m)), some (.int (sGives I J x m))] [] T (a_ur (a_ur (a_ur I 67 (fun j => if j = ((3 * r) + m) then sGives I J x m else (ch67 I J x r m) j)) 70 (ch70 I J x w m)) 72 (ch72 I J x w m)) J R
                refine aw_iinc (v := nI (m + 1)) (L2 := [some (.ref 44), some (.int (nI x)), some (.int (bI w)), some (.int (nI r)), some (.int (wOr I J x 3)), some (.int (nI (m + 1))), some (.int (sGives I J x m))]) hC dX12_changesNow_147 rfl (nI_inc _) (by decide) rfl ?_
                refine aw_goto (tgt := 53) hC dX12_changesNow_150 (by decide) ?_
                refine aw_forget 6 (L2 := [some (.ref 44), some (.int (nI x)), some (.int (bI w)), some (.int (nI r)), some (.int (wOr I J x 3)), some (.int (nI (m + 1))), none]) rfl ?_
                rw [show a_ur (a_ur (a_ur I 67 (fun j => if j = ((3 * r) + m) then sGives I J x m else (ch67 I J x r m) j)) 70 (ch70 I J x w m)) 72 (ch72 I J x w m) = a_ur (a_ur (a_ur I 67 (ch67 I J x r (m + 1))) 70 (ch70 I J x w (m + 1))) 72 (ch72 I J x w (m + 1)) from a_ur_cg (a_ur_cg (a_ur_ext (ch67_y ((wOr_t (by omega)).mp (by assumption)) (by first | exact Or.inl ⟨by assumption, rfl⟩ | exact Or.inr ⟨by assumption, rfl⟩))) (ch70_n (Or.inr (bI_e0.mp (by assumption))))) (ch72_n (Or.inr (bI_e0.mp (by assumption))))]
                exact ih2 (by omega)
              · show AW X 0 0 119 [some (.ref 44), some (.int (nI x)), some (.int (bI w)), some (.int (nI r)), some (.int (wOr I J x 3)), some (.int (nI m)), some (.int (sGives I J x m))] [] T (a_ur (a_ur (a_ur I 67 (fun j => if j = ((3 * r) + m) then sGives I J x m else (ch67 I J x r m) j)) 70 (ch70 I J x w m)) 72 (ch72 I J x w m)) J R
                refine aw_aload_n hC dX12_changesNow_119 rfl ?_
                refine aw_getR hC dX12_changesNow_120 aF_X12_86 rfl (tg_44 hT) (pr_44_30 hR) ?_
                refine aw_iconst (v := 3) hC dX12_changesNow_123 (by decide) ?_
                refine aw_iload_n hC dX12_changesNow_124 rfl ?_
                refine aw_imul hC dX12_changesNow_125 ?_
                rw [show 3 * (nI x) = nI (3 * x) from pk_mul 3 x]
                refine aw_iload hC dX12_changesNow_126 rfl ?_
                refine aw_iadd hC dX12_changesNow_128 ?_
                rw [show (nI (3 * x)) + (nI m) = nI ((3 * x) + m) from nI_add (3 * x) m]
                refine aw_iload hC dX12_changesNow_129 rfl ?_
                refine aw_iastore_k (j := ((3 * x) + m)) hC dX12_changesNow_131 (tg_70 hT) (nI_clamp (by omega)) (vp_in_nI (by omega) (by decide)) ?_
                rw [show a_u (a_ur (a_ur (a_ur I 67 (fun j => if j = ((3 * r) + m) then sGives I J x m else (ch67 I J x r m) j)) 70 (ch70 I J x w m)) 72 (ch72 I J x w m)) 70 ((3 * x) + m) (sGives I J x m) = a_ur (a_ur (a_ur I 67 (fun j => if j = ((3 * r) + m) then sGives I J x m else (ch67 I J x r m) j)) 70 (fun j => if j = ((3 * x) + m) then sGives I J x m else (ch70 I J x w m) j)) 72 (ch72 I J x w m) from by rw [a_u_swap (by first | decide | omega), a_ur_put]]
                refine aw_aload_n hC dX12_changesNow_132 rfl ?_
                refine aw_getR hC dX12_changesNow_133 aF_X12_92 rfl (tg_44 hT) (pr_44_32 hR) ?_
                refine aw_iload_n hC dX12_changesNow_136 rfl ?_
                refine aw_dup2 hC dX12_changesNow_137 rfl rfl ?_
                refine aw_iaload_k (j := x) hC dX12_changesNow_138 (tg_72 hT) (nI_clamp (by omega)) (vp_in_nI (by omega) (by decide)) ?_
                rw [a_ur_self (f := a_ur (a_ur I 67 (fun j => if j = ((3 * r) + m) then sGives I J x m else (ch67 I J x r m) j)) 70 (fun j => if j = ((3 * x) + m) then sGives I J x m else (ch70 I J x w m) j)) (o := 72) (g := ch72 I J x w m)]
                refine aw_iconst (v := 1) hC dX12_changesNow_139 (by decide) ?_
                refine aw_iload hC dX12_changesNow_140 rfl ?_
                refine aw_ishl hC dX12_changesNow_142 ?_
                refine aw_iconst (v := (-1)) hC dX12_changesNow_143 (by decide) ?_
                refine aw_ixor hC dX12_changesNow_144 ?_
                refine aw_iand hC dX12_changesNow_145 ?_
                refine aw_iastore_k (j := x) hC dX12_changesNow_146 (tg_72 hT) (nI_clamp (by omega)) (vp_in_nI (by omega) (by decide)) ?_
                rw [show a_u (a_ur (a_ur (a_ur I 67 (fun j => if j = ((3 * r) + m) then sGives I J x m else (ch67 I J x r m) j)) 70 (fun j => if j = ((3 * x) + m) then sGives I J x m else (ch70 I J x w m) j)) 72 (ch72 I J x w m)) 72 x (((ch72 I J x w m) x) &&& ((1 <<< ((nI m) &&& 31)) ^^^ (-1))) = a_ur (a_ur (a_ur I 67 (fun j => if j = ((3 * r) + m) then sGives I J x m else (ch67 I J x r m) j)) 70 (fun j => if j = ((3 * x) + m) then sGives I J x m else (ch70 I J x w m) j)) 72 (fun j => if j = x then ((ch72 I J x w m) x) &&& ((1 <<< ((nI m) &&& 31)) ^^^ (-1)) else (ch72 I J x w m) j) from by rw [a_ur_put]]
                refine aw_iinc (v := nI (m + 1)) (L2 := [some (.ref 44), some (.int (nI x)), some (.int (bI w)), some (.int (nI r)), some (.int (wOr I J x 3)), some (.int (nI (m + 1))), some (.int (sGives I J x m))]) hC dX12_changesNow_147 rfl (nI_inc _) (by decide) rfl ?_
                refine aw_goto (tgt := 53) hC dX12_changesNow_150 (by decide) ?_
                refine aw_forget 6 (L2 := [some (.ref 44), some (.int (nI x)), some (.int (bI w)), some (.int (nI r)), some (.int (wOr I J x 3)), some (.int (nI (m + 1))), none]) rfl ?_
                rw [show a_ur (a_ur (a_ur I 67 (fun j => if j = ((3 * r) + m) then sGives I J x m else (ch67 I J x r m) j)) 70 (fun j => if j = ((3 * x) + m) then sGives I J x m else (ch70 I J x w m) j)) 72 (fun j => if j = x then ((ch72 I J x w m) x) &&& ((1 <<< ((nI m) &&& 31)) ^^^ (-1)) else (ch72 I J x w m) j) = a_ur (a_ur (a_ur I 67 (ch67 I J x r (m + 1))) 70 (ch70 I J x w (m + 1))) 72 (ch72 I J x w (m + 1)) from a_ur_cg (a_ur_cg (a_ur_ext (ch67_y ((wOr_t (by omega)).mp (by assumption)) (by first | exact Or.inl ⟨by assumption, rfl⟩ | exact Or.inr ⟨by assumption, rfl⟩))) (ch70_y ((wOr_t (by omega)).mp (by assumption)) (bI_n0.mp (by assumption)))) (ch72_y ((wOr_t (by omega)).mp (by assumption)) (bI_n0.mp (by assumption)))]
                exact ih2 (by omega)
            · show AW X 0 0 98 [some (.ref 44), some (.int (nI x)), some (.int (bI w)), some (.int (nI r)), some (.int (wOr I J x 3)), some (.int (nI m)), some (.int (sGives I J x m))] [.int (nI ((3 * r) + m)), .ref 67] T (a_ur (a_ur (a_ur I 67 (ch67 I J x r m)) 70 (ch70 I J x w m)) 72 (ch72 I J x w m)) J R
              refine aw_aload_n hC dX12_changesNow_98 rfl ?_
              refine aw_getR hC dX12_changesNow_99 aF_X12_77 rfl (tg_44 hT) (pr_44_27 hR) ?_
              refine aw_iconst (v := 3) hC dX12_changesNow_102 (by decide) ?_
              refine aw_iload_n hC dX12_changesNow_103 rfl ?_
              refine aw_imul hC dX12_changesNow_104 ?_
              rw [show 3 * (nI r) = nI (3 * r) from pk_mul 3 r]
              refine aw_iload hC dX12_changesNow_105 rfl ?_
              refine aw_iadd hC dX12_changesNow_107 ?_
              rw [show (nI (3 * r)) + (nI m) = nI ((3 * r) + m) from nI_add (3 * r) m]
              refine aw_iaload_k (j := ((3 * r) + m)) hC dX12_changesNow_108 (tg_67 hT) (nI_clamp (by omega)) (vp_in_nI (by omega) (by decide)) ?_
              rw [a_ur_ne (f := a_ur (a_ur I 67 (ch67 I J x r m)) 70 (ch70 I J x w m)) (o := 72) (a := 67) (g := ch72 I J x w m) (by decide)]
              rw [a_ur_ne (f := a_ur I 67 (ch67 I J x r m)) (o := 70) (a := 67) (g := ch70 I J x w m) (by decide)]
              rw [a_ur_self (f := I) (o := 67) (g := ch67 I J x r m)]
              refine aw_goto (tgt := 114) hC dX12_changesNow_109 (by decide) ?_
              refine aw_iastore_k (j := ((3 * r) + m)) hC dX12_changesNow_114 (tg_67 hT) (nI_clamp (by omega)) (vp_in_nI (by omega) (by decide)) ?_
              rw [show a_u (a_ur (a_ur (a_ur I 67 (ch67 I J x r m)) 70 (ch70 I J x w m)) 72 (ch72 I J x w m)) 67 ((3 * r) + m) ((ch67 I J x r m) ((3 * r) + m)) = a_ur (a_ur (a_ur I 67 (fun j => if j = ((3 * r) + m) then (ch67 I J x r m) ((3 * r) + m) else (ch67 I J x r m) j)) 70 (ch70 I J x w m)) 72 (ch72 I J x w m) from by rw [a_u_swap (by first | decide | omega), a_u_swap (by first | decide | omega), a_ur_put]]
              refine aw_iload_n hC dX12_changesNow_115 rfl ?_
              refine aw_if_eq (tgt := 147) hC dX12_changesNow_116 (by decide) (fun h6 => ?_) (fun h6 => ?_)
              · show AW X 0 0 147 [some (.ref 44), some (.int (nI x)), some (.int (bI w)), some (.int (nI r)), some (.int (wOr I J x 3)), some (.int (nI m)), some (.int (sGives I J x m))] [] T (a_ur (a_ur (a_ur I 67 (fun j => if j = ((3 * r) + m) then (ch67 I J x r m) ((3 * r) + m) else (ch67 I J x r m) j)) 70 (ch70 I J x w m)) 72 (ch72 I J x w m)) J R
                refine aw_iinc (v := nI (m + 1)) (L2 := [some (.ref 44), some (.int (nI x)), some (.int (bI w)), some (.int (nI r)), some (.int (wOr I J x 3)), some (.int (nI (m + 1))), some (.int (sGives I J x m))]) hC dX12_changesNow_147 rfl (nI_inc _) (by decide) rfl ?_
                refine aw_goto (tgt := 53) hC dX12_changesNow_150 (by decide) ?_
                refine aw_forget 6 (L2 := [some (.ref 44), some (.int (nI x)), some (.int (bI w)), some (.int (nI r)), some (.int (wOr I J x 3)), some (.int (nI (m + 1))), none]) rfl ?_
                rw [show a_ur (a_ur (a_ur I 67 (fun j => if j = ((3 * r) + m) then (ch67 I J x r m) ((3 * r) + m) else (ch67 I J x r m) j)) 70 (ch70 I J x w m)) 72 (ch72 I J x w m) = a_ur (a_ur (a_ur I 67 (ch67 I J x r (m + 1))) 70 (ch70 I J x w (m + 1))) 72 (ch72 I J x w (m + 1)) from a_ur_cg (a_ur_cg (a_ur_ext (ch67_y ((wOr_t (by omega)).mp (by assumption)) (by first | exact Or.inl ⟨by assumption, rfl⟩ | exact Or.inr ⟨by assumption, rfl⟩))) (ch70_n (Or.inr (bI_e0.mp (by assumption))))) (ch72_n (Or.inr (bI_e0.mp (by assumption))))]
                exact ih2 (by omega)
              · show AW X 0 0 119 [some (.ref 44), some (.int (nI x)), some (.int (bI w)), some (.int (nI r)), some (.int (wOr I J x 3)), some (.int (nI m)), some (.int (sGives I J x m))] [] T (a_ur (a_ur (a_ur I 67 (fun j => if j = ((3 * r) + m) then (ch67 I J x r m) ((3 * r) + m) else (ch67 I J x r m) j)) 70 (ch70 I J x w m)) 72 (ch72 I J x w m)) J R
                refine aw_aload_n hC dX12_changesNow_119 rfl ?_
                refine aw_getR hC dX12_changesNow_120 aF_X12_86 rfl (tg_44 hT) (pr_44_30 hR) ?_
                refine aw_iconst (v := 3) hC dX12_changesNow_123 (by decide) ?_
                refine aw_iload_n hC dX12_changesNow_124 rfl ?_
                refine aw_imul hC dX12_changesNow_125 ?_
                rw [show 3 * (nI x) = nI (3 * x) from pk_mul 3 x]
                refine aw_iload hC dX12_changesNow_126 rfl ?_
                refine aw_iadd hC dX12_changesNow_128 ?_
                rw [show (nI (3 * x)) + (nI m) = nI ((3 * x) + m) from nI_add (3 * x) m]
                refine aw_iload hC dX12_changesNow_129 rfl ?_
                refine aw_iastore_k (j := ((3 * x) + m)) hC dX12_changesNow_131 (tg_70 hT) (nI_clamp (by omega)) (vp_in_nI (by omega) (by decide)) ?_
                rw [show a_u (a_ur (a_ur (a_ur I 67 (fun j => if j = ((3 * r) + m) then (ch67 I J x r m) ((3 * r) + m) else (ch67 I J x r m) j)) 70 (ch70 I J x w m)) 72 (ch72 I J x w m)) 70 ((3 * x) + m) (sGives I J x m) = a_ur (a_ur (a_ur I 67 (fun j => if j = ((3 * r) + m) then (ch67 I J x r m) ((3 * r) + m) else (ch67 I J x r m) j)) 70 (fun j => if j = ((3 * x) + m) then sGives I J x m else (ch70 I J x w m) j)) 72 (ch72 I J x w m) from by rw [a_u_swap (by first | decide | omega), a_ur_put]]
                refine aw_aload_n hC dX12_changesNow_132 rfl ?_
                refine aw_getR hC dX12_changesNow_133 aF_X12_92 rfl (tg_44 hT) (pr_44_32 hR) ?_
                refine aw_iload_n hC dX12_changesNow_136 rfl ?_
                refine aw_dup2 hC dX12_changesNow_137 rfl rfl ?_
                refine aw_iaload_k (j := x) hC dX12_changesNow_138 (tg_72 hT) (nI_clamp (by omega)) (vp_in_nI (by omega) (by decide)) ?_
                rw [a_ur_self (f := a_ur (a_ur I 67 (fun j => if j = ((3 * r) + m) then (ch67 I J x r m) ((3 * r) + m) else (ch67 I J x r m) j)) 70 (fun j => if j = ((3 * x) + m) then sGives I J x m else (ch70 I J x w m) j)) (o := 72) (g := ch72 I J x w m)]
                refine aw_iconst (v := 1) hC dX12_changesNow_139 (by decide) ?_
                refine aw_iload hC dX12_changesNow_140 rfl ?_
                refine aw_ishl hC dX12_changesNow_142 ?_
                refine aw_iconst (v := (-1)) hC dX12_changesNow_143 (by decide) ?_
                refine aw_ixor hC dX12_changesNow_144 ?_
                refine aw_iand hC dX12_changesNow_145 ?_
                refine aw_iastore_k (j := x) hC dX12_changesNow_146 (tg_72 hT) (nI_clamp (by omega)) (vp_in_nI (by omega) (by decide)) ?_
                rw [show a_u (a_ur (a_ur (a_ur I 67 (fun j => if j = ((3 * r) + m) then (ch67 I J x r m) ((3 * r) + m) else (ch67 I J x r m) j)) 70 (fun j => if j = ((3 * x) + m) then sGives I J x m else (ch70 I J x w m) j)) 72 (ch72 I J x w m)) 72 x (((ch72 I J x w m) x) &&& ((1 <<< ((nI m) &&& 31)) ^^^ (-1))) = a_ur (a_ur (a_ur I 67 (fun j => if j = ((3 * r) + m) then (ch67 I J x r m) ((3 * r) + m) else (ch67 I J x r m) j)) 70 (fun j => if j = ((3 * x) + m) then sGives I J x m else (ch70 I J x w m) j)) 72 (fun j => if j = x then ((ch72 I J x w m) x) &&& ((1 <<< ((nI m) &&& 31)) ^^^ (-1)) else (ch72 I J x w m) j) from by rw [a_ur_put]]
                refine aw_iinc (v := nI (m + 1)) (L2 := [some (.ref 44), some (.int (nI x)), some (.int (bI w)), some (.int (nI r)), some (.int (wOr I J x 3)), some (.int (nI (m + 1))), some (.int (sGives I J x m))]) hC dX12_changesNow_147 rfl (nI_inc _) (by decide) rfl ?_
                refine aw_goto (tgt := 53) hC dX12_changesNow_150 (by decide) ?_
                refine aw_forget 6 (L2 := [some (.ref 44), some (.int (nI x)), some (.int (bI w)), some (.int (nI r)), some (.int (wOr I J x 3)), some (.int (nI (m + 1))), none]) rfl ?_
                rw [show a_ur (a_ur (a_ur I 67 (fun j => if j = ((3 * r) + m) then (ch67 I J x r m) ((3 * r) + m) else (ch67 I J x r m) j)) 70 (fun j => if j = ((3 * x) + m) then sGives I J x m else (ch70 I J x w m) j)) 72 (fun j => if j = x then ((ch72 I J x w m) x) &&& ((1 <<< ((nI m) &&& 31)) ^^^ (-1)) else (ch72 I J x w m) j) = a_ur (a_ur (a_ur I 67 (ch67 I J x r (m + 1))) 70 (ch70 I J x w (m + 1))) 72 (ch72 I J x w (m + 1)) from a_ur_cg (a_ur_cg (a_ur_ext (ch67_y ((wOr_t (by omega)).mp (by assumption)) (by first | exact Or.inl ⟨by assumption, rfl⟩ | exact Or.inr ⟨by assumption, rfl⟩))) (ch70_y ((wOr_t (by omega)).mp (by assumption)) (bI_n0.mp (by assumption)))) (ch72_y ((wOr_t (by omega)).mp (by assumption)) (bI_n0.mp (by assumption)))]
                exact ih2 (by omega)
      refine aw_setI (I2 := chS I J x r w 0) chS_0 ?_
      unfold chS
      exact loop2 0 (Nat.zero_le _)
    · show AW X 0 0 21 [some (.ref 44), some (.int (nI x)), some (.int (bI w)), some (.int (nI r)), some (.int (wOr I J x k)), some (.int (nI k)), none] [] T I J R
      have h1n : ¬ 3 ≤ k := fun q9 => h1 ((nI_leI (a := 3) (b := k) (by omega) (by omega)).mpr q9)
      refine aw_iload hC dX12_changesNow_21 rfl ?_
      refine aw_aload_n hC dX12_changesNow_23 rfl ?_
      refine aw_iload_n hC dX12_changesNow_24 rfl ?_
      refine aw_iload hC dX12_changesNow_25 rfl ?_
      refine kX12_352 hC rfl (m_X12_differs (I := I) (J := J) hT hR (x := x) (a := k) (by omega) (by omega) hg.so.s2 hg.ty hg.up) dX12_changesNow_27 (tg_44 hT) rfl a_le a_le a_le a_le a_le rfl aPure_x (aPure_k ?_)
      show AW X 0 0 30 [some (.ref 44), some (.int (nI x)), some (.int (bI w)), some (.int (nI r)), some (.int (wOr I J x k)), some (.int (nI k)), none] [.int (bI (sDf I J x k)), .int (wOr I J x k)] T I J R
      refine aw_if_eq (tgt := 40) hC dX12_changesNow_30 (by decide) (fun h7 => ?_) (fun h7 => ?_)
      · show AW X 0 0 40 [some (.ref 44), some (.int (nI x)), some (.int (bI w)), some (.int (nI r)), some (.int (wOr I J x k)), some (.int (nI k)), none] [.int (wOr I J x k)] T I J R
        refine aw_iconst (v := 0) hC dX12_changesNow_40 (by decide) ?_
        refine aw_ior hC dX12_changesNow_41 ?_
        refine aw_istore (L2 := [some (.ref 44), some (.int (nI x)), some (.int (bI w)), some (.int (nI r)), some (.int ((wOr I J x k) ||| 0)), some (.int (nI k)), none]) hC dX12_changesNow_42 (by decide) rfl ?_
        refine aw_iinc (v := nI (k + 1)) (L2 := [some (.ref 44), some (.int (nI x)), some (.int (bI w)), some (.int (nI r)), some (.int ((wOr I J x k) ||| 0)), some (.int (nI (k + 1))), none]) hC dX12_changesNow_44 rfl (nI_inc _) (by decide) rfl ?_
        refine aw_goto (tgt := 15) hC dX12_changesNow_47 (by decide) ?_
        rw [show (wOr I J x k) ||| 0 = wOr I J x (k + 1) from wOr_n (bI_e0.mp (by assumption))]
        exact ih1 (by omega)
      · show AW X 0 0 33 [some (.ref 44), some (.int (nI x)), some (.int (bI w)), some (.int (nI r)), some (.int (wOr I J x k)), some (.int (nI k)), none] [.int (wOr I J x k)] T I J R
        refine aw_iconst (v := 1) hC dX12_changesNow_33 (by decide) ?_
        refine aw_iload hC dX12_changesNow_34 rfl ?_
        refine aw_ishl hC dX12_changesNow_36 ?_
        refine aw_goto (tgt := 41) hC dX12_changesNow_37 (by decide) ?_
        refine aw_ior hC dX12_changesNow_41 ?_
        refine aw_istore (L2 := [some (.ref 44), some (.int (nI x)), some (.int (bI w)), some (.int (nI r)), some (.int ((wOr I J x k) ||| (1 <<< ((nI k) &&& 31)))), some (.int (nI k)), none]) hC dX12_changesNow_42 (by decide) rfl ?_
        refine aw_iinc (v := nI (k + 1)) (L2 := [some (.ref 44), some (.int (nI x)), some (.int (bI w)), some (.int (nI r)), some (.int ((wOr I J x k) ||| (1 <<< ((nI k) &&& 31)))), some (.int (nI (k + 1))), none]) hC dX12_changesNow_44 rfl (nI_inc _) (by decide) rfl ?_
        refine aw_goto (tgt := 15) hC dX12_changesNow_47 (by decide) ?_
        rw [show (wOr I J x k) ||| (1 <<< ((nI k) &&& 31)) = wOr I J x (k + 1) from wOr_y (bI_n0.mp (by assumption))]
        exact ih1 (by omega)
  exact loop1 0 (Nat.zero_le _)
/-- what an action does: whether it is done, and the store -/
noncomputable def doS (I : aI) (J : aJ) (x wh hw r : Nat) : Bool × aI :=
  if wh = 1 then (if r = 60 ∨ allB (cgS I J x true) 3 = false then (false, I) else (!decide (hw = 1), a_u (mkS I J x r (!decide (hw = 2)) (decide (hw = 1))) 44 35 (I 44 35 + (if hw = 2 then 0 else 1))))
  else if hw = 1 ∨ (wh = 2 ∧ allB (cgS I J x false) 3 = false) then (false, I)
  else (true, a_u (if wh = 2 then chS I J x (iN I 69 x - 1) (!decide (hw = 2)) 3 else if wh = 3 then a_u (a_u I 68 (iN I 69 x - 1) 1) 69 x (if hw = 2 then I 69 x else 0) else if 0 < iN I 82 x then a_u I 68 (iN I 82 x - 1) 1 else I) 44 35 (I 44 35 + (if hw = 2 then 0 else 1)))
theorem mkS_35 {I : aI} {J : aJ} {x r : Nat} {w t : Bool} : mkS I J x r w t 44 35 = I 44 35 := by
  have h1 : mkB I J x r 44 35 = I 44 35 := by
    show a_u (a_ur (a_u (a_u (a_u I 66 r _) 68 r 0) 44 25 _) 67 _) 74 x _ 44 35 = _
    rw [a_u_row (by decide), a_ur_ne (by decide), a_u_ne (fun q => absurd q.2 (by decide)), a_u_row (by decide), a_u_row (by decide)]
  unfold mkS; split
  · show a_u (a_ur (a_u (a_u (a_u (a_u (mkB I J x r) 82 x _) 69 x _) 71 x 0) 72 x 0) 70 _) 71 x _ 44 35 = _
    rw [a_u_row (by decide), a_ur_ne (by decide), a_u_row (by decide), a_u_row (by decide), a_u_row (by decide), a_u_row (by decide)]; exact h1
  · exact h1
theorem ds_1 {I : aI} {J : aJ} {x hw r : Nat} (h : r = 60 ∨ allB (cgS I J x true) 3 = false) : doS I J x 1 hw r = (false, I) := by unfold doS; rw [if_pos rfl, if_pos h]
theorem ds_2 {I : aI} {J : aJ} {x hw r : Nat} (h : r ≠ 60) (h2 : allB (cgS I J x true) 3 = true) : doS I J x 1 hw r = (!decide (hw = 1), a_u (mkS I J x r (!decide (hw = 2)) (decide (hw = 1))) 44 35 (I 44 35 + (if hw = 2 then 0 else 1))) := by
  unfold doS; rw [if_pos rfl, if_neg (fun q => q.elim h (fun q => by rw [h2] at q; cases q))]
theorem ds_3 {I : aI} {J : aJ} {x wh hw r : Nat} (h1 : wh ≠ 1) (h : hw = 1 ∨ (wh = 2 ∧ allB (cgS I J x false) 3 = false)) : doS I J x wh hw r = (false, I) := by unfold doS; rw [if_neg h1, if_pos h]
theorem ds_4 {I : aI} {J : aJ} {x wh hw r : Nat} (h1 : wh ≠ 1) (h : hw ≠ 1) (h2 : wh ≠ 2 ∨ allB (cgS I J x false) 3 = true) : doS I J x wh hw r = (true, a_u (if wh = 2 then chS I J x (iN I 69 x - 1) (!decide (hw = 2)) 3 else if wh = 3 then a_u (a_u I 68 (iN I 69 x - 1) 1) 69 x (if hw = 2 then I 69 x else 0) else if 0 < iN I 82 x then a_u I 68 (iN I 82 x - 1) 1 else I) 44 35 (I 44 35 + (if hw = 2 then 0 else 1))) := by
  unfold doS; rw [if_neg h1, if_neg (fun q => q.elim h (fun q => by rcases h2 with h2 | h2; exact h2 q.1; rw [h2] at q; cases q.2))]
set_option maxRecDepth 100000 in
theorem m_X12_does {T : List aT} {I : aI} {J : aJ} {R : aR} (hT : aPT T) (hR : aPR R) {n g : Nat} (hS : SW I n) (hZ : Zr J) (hg : GW I g) {x wh hw r : Nat} (hx : x < 64) (hwh : wh < 5) (hhw : hw < 3) (hr : I 44 25 = nI r) (hr9 : r ≤ 60) (hmd : NR I 74 64 61) (hE : NR I 69 64 61) (hO : NR I 82 64 61) (hne : (wh = 2 ∨ wh = 3) → 0 < iN I 69 x) : MX12_does 0 0 [.ref 44, .int (nI wh), .int (nI x), .int (nI hw)] T I J R (aRelV (fun v I3 J2 => ∃ I2, CmR I I2 J J2 n g ∧ v = some (.int (bI (doS I2 J2 x wh hw r).1)) ∧ I3 = (doS I2 J2 x wh hw r).2) T R) := by
  refine a_met (by decide +kernel) a_le (fun X hC hq => ?_)
  show AW X 0 0 0 [some (.ref 44), some (.int (nI wh)), some (.int (nI x)), some (.int (nI hw)), none] [] T I J R
  refine aw_aload_n hC dX12_does_0 rfl ?_
  refine kX12_364 hC rfl (m_X12_comparesAll (I := I) (J := J) (n := n) (g := g) hT hR hS hZ hg) dX12_does_1 (tg_44 hT) rfl a_le a_le a_le a_le a_le rfl aRel_x (aRel_k (fun I2 J2 hQ => ?_))
  have hCm : CmR _ _ _ _ n g := hQ
  have hg2 := hCm.gw hg
  have hr2 : I2 44 25 = nI r := (hCm.f44 (by decide) (by decide)).trans hr
  have hmd2 : NR I2 74 64 61 := NR_cg (hCm.fr 74 (by decide)) hmd
  have hE2 : NR I2 69 64 61 := NR_cg (hCm.fr 69 (by decide)) hE
  have hO2 : NR I2 82 64 61 := NR_cg (hCm.fr 82 (by decide)) hO
  have hxe := hE2 x hx
  have hxo := hO2 x hx
  have hne2 : (wh = 2 ∨ wh = 3) → 0 < iN I2 69 x := fun q => by unfold iN; rw [hCm.fr 69 (by decide)]; exact hne q
  show AW X 0 0 4 [some (.ref 44), some (.int (nI wh)), some (.int (nI x)), some (.int (nI hw)), none] [] T I2 J2 R
  refine aw_iload_n hC dX12_does_4 rfl ?_
  refine aw_iconst (v := 2) hC dX12_does_5 (by decide) ?_
  refine aw_icmp_eq (tgt := 13) hC dX12_does_6 (by decide) (fun h1 => ?_) (fun h1 => ?_)
  · show AW X 0 0 13 [some (.ref 44), some (.int (nI wh)), some (.int (nI x)), some (.int (nI hw)), none] [] T I2 J2 R
    have h1n : hw = 2 := (nI_eq (a := hw) (b := 2) (by omega) (by omega)).mp h1
    refine aw_iconst (v := 0) hC dX12_does_13 (by decide) ?_
    refine aw_istore (L2 := [some (.ref 44), some (.int (nI wh)), some (.int (nI x)), some (.int (nI hw)), some (.int 0)]) hC dX12_does_14 (by decide) rfl ?_
    refine aw_iload_n hC dX12_does_16 rfl ?_
    refine aw_iconst (v := 1) hC dX12_does_17 (by decide) ?_
    refine aw_icmp_ne (tgt := 88) hC dX12_does_18 (by decide) (fun h2 => ?_) (fun h2 => ?_)
    · show AW X 0 0 88 [some (.ref 44), some (.int (nI wh)), some (.int (nI x)), some (.int (nI hw)), some (.int 0)] [] T I2 J2 R
      have h2n : ¬ wh = 1 := fun q9 => h2 ((nI_eq (a := wh) (b := 1) (by omega) (by omega)).mpr q9)
      refine aw_iload_n hC dX12_does_88 rfl ?_
      refine aw_iconst (v := 1) hC dX12_does_89 (by decide) ?_
      refine aw_icmp_eq (tgt := 107) hC dX12_does_90 (by decide) (fun h3 => ?_) (fun h3 => ?_)
      · show AW X 0 0 107 [some (.ref 44), some (.int (nI wh)), some (.int (nI x)), some (.int (nI hw)), some (.int 0)] [] T I2 J2 R
        have h3n : hw = 1 := (nI_eq (a := hw) (b := 1) (by omega) (by omega)).mp h3
        refine aw_iconst (v := 0) hC dX12_does_107 (by decide) ?_
        exact aw_zreturn hC hq rfl (Or.inl rfl) dX12_does_108 a_le a_le ⟨_, rfl, rfl, rfl, I2, hCm, by rw [ds_3 (by omega) (by first | exact Or.inl (by omega) | exact Or.inr ⟨by omega, bI_e0.mp (by assumption)⟩)]; rfl, by rw [ds_3 (by omega) (by first | exact Or.inl (by omega) | exact Or.inr ⟨by omega, bI_e0.mp (by assumption)⟩)]⟩
      · show AW X 0 0 93 [some (.ref 44), some (.int (nI wh)), some (.int (nI x)), some (.int (nI hw)), some (.int 0)] [] T I2 J2 R
        have h3n : ¬ hw = 1 := fun q9 => h3 ((nI_eq (a := hw) (b := 1) (by omega) (by omega)).mpr q9)
        refine aw_iload_n hC dX12_does_93 rfl ?_
        refine aw_iconst (v := 2) hC dX12_does_94 (by decide) ?_
        refine aw_icmp_ne (tgt := 109) hC dX12_does_95 (by decide) (fun h4 => ?_) (fun h4 => ?_)
        · show AW X 0 0 109 [some (.ref 44), some (.int (nI wh)), some (.int (nI x)), some (.int (nI hw)), some (.int 0)] [] T I2 J2 R
          have h4n : ¬ wh = 2 := fun q9 => h4 ((nI_eq (a := wh) (b := 2) (by omega) (by omega)).mpr q9)
          refine aw_iload_n hC dX12_does_109 rfl ?_
          refine aw_iconst (v := 2) hC dX12_does_110 (by decide) ?_
          refine aw_icmp_ne (tgt := 124) hC dX12_does_111 (by decide) (fun h5 => ?_) (fun h5 => ?_)
          · show AW X 0 0 124 [some (.ref 44), some (.int (nI wh)), some (.int (nI x)), some (.int (nI hw)), some (.int 0)] [] T I2 J2 R
            have h5n : ¬ wh = 2 := fun q9 => h5 ((nI_eq (a := wh) (b := 2) (by omega) (by omega)).mpr q9)
            refine aw_iload_n hC dX12_does_124 rfl ?_
            refine aw_iconst (v := 3) hC dX12_does_125 (by decide) ?_
            refine aw_icmp_ne (tgt := 167) hC dX12_does_126 (by decide) (fun h6 => ?_) (fun h6 => ?_)
            · show AW X 0 0 167 [some (.ref 44), some (.int (nI wh)), some (.int (nI x)), some (.int (nI hw)), some (.int 0)] [] T I2 J2 R
              have h6n : ¬ wh = 3 := fun q9 => h6 ((nI_eq (a := wh) (b := 3) (by omega) (by omega)).mpr q9)
              refine aw_aload_n hC dX12_does_167 rfl ?_
              refine aw_getR hC dX12_does_168 aF_X12_129 rfl (tg_44 hT) (pr_44_47 hR) ?_
              refine aw_iload_n hC dX12_does_171 rfl ?_
              refine aw_iaload_k (j := x) hC dX12_does_172 (tg_82 hT) (nI_clamp (by omega)) (vp_in_nI (by omega) (by decide)) ?_
              have hb7 := hO2 x (by omega)
              rw [hb7.1]
              refine aw_if_le (tgt := 190) hC dX12_does_173 (by decide) (fun h8 => ?_) (fun h8 => ?_)
              · show AW X 0 0 190 [some (.ref 44), some (.int (nI wh)), some (.int (nI x)), some (.int (nI hw)), some (.int 0)] [] T I2 J2 R
                have h8n : (iN I2 82 x) ≤ 0 := (nI_leI (a := (iN I2 82 x)) (b := 0) (by omega) (by omega)).mp h8
                refine aw_aload_n hC dX12_does_190 rfl ?_
                refine aw_dup hC dX12_does_191 rfl ?_
                refine aw_getI hC dX12_does_192 aF_X12_343 rfl (tg_44 hT) ?_
                refine aw_iload hC dX12_does_195 rfl ?_
                refine aw_if_eq (tgt := 204) hC dX12_does_197 (by decide) (fun _ => ?_) (fun h9 => absurd h9 (by decide))
                show AW X 0 0 204 [some (.ref 44), some (.int (nI wh)), some (.int (nI x)), some (.int (nI hw)), some (.int 0)] [.int (I2 44 35), .ref 44] T I2 J2 R
                refine aw_iconst (v := 0) hC dX12_does_204 (by decide) ?_
                refine aw_iadd hC dX12_does_205 ?_
                refine aw_putI hC dX12_does_206 aF_X12_343 rfl rfl (tg_44 hT) ?_
                refine aw_iconst (v := 1) hC dX12_does_209 (by decide) ?_
                exact aw_zreturn hC hq rfl (Or.inr rfl) dX12_does_210 a_le a_le (by first | (exfalso; omega) | exact ⟨_, rfl, rfl, rfl, I2, hCm, by rw [ds_4 (by omega) (by omega) (by first | exact Or.inl (by omega) | exact Or.inr (bI_n0.mp (by assumption)))]; rfl, by rw [ds_4 (by omega) (by omega) (by first | exact Or.inl (by omega) | exact Or.inr (bI_n0.mp (by assumption)))]; rw [if_neg (show ¬ wh = 2 by omega), if_neg (show ¬ wh = 3 by omega), if_neg (by omega)]; (try rw [show decide (hw = 2) = false from decide_eq_false (by omega)]); (try rw [show decide (hw = 2) = true from decide_eq_true (by omega)]); (try rw [if_neg (show ¬ hw = 2 by omega)]); (try rw [if_neg (show ¬ hw = 2 by omega)]); (try rw [if_pos (show hw = 2 by omega)]); (try rw [if_pos (show hw = 2 by omega)]); (try rw [← hxe.1]); (first | done | rfl)⟩)
              · show AW X 0 0 176 [some (.ref 44), some (.int (nI wh)), some (.int (nI x)), some (.int (nI hw)), some (.int 0)] [] T I2 J2 R
                have h8n : ¬ (iN I2 82 x) ≤ 0 := fun q9 => h8 ((nI_leI (a := (iN I2 82 x)) (b := 0) (by omega) (by omega)).mpr q9)
                refine aw_aload_n hC dX12_does_176 rfl ?_
                refine aw_getR hC dX12_does_177 aF_X12_80 rfl (tg_44 hT) (pr_44_28 hR) ?_
                refine aw_aload_n hC dX12_does_180 rfl ?_
                refine aw_getR hC dX12_does_181 aF_X12_129 rfl (tg_44 hT) (pr_44_47 hR) ?_
                refine aw_iload_n hC dX12_does_184 rfl ?_
                refine aw_iaload_k (j := x) hC dX12_does_185 (tg_82 hT) (nI_clamp (by omega)) (vp_in_nI (by omega) (by decide)) ?_
                have hb10 := hO2 x (by omega)
                rw [hb10.1]
                refine aw_iconst (v := 1) hC dX12_does_186 (by decide) ?_
                refine aw_isub hC dX12_does_187 ?_
                rw [show (nI (iN I2 82 x)) - 1 = nI ((iN I2 82 x) - 1) from pk_sub (a := (iN I2 82 x)) (b := 1) (by omega)]
                refine aw_iconst (v := 1) hC dX12_does_188 (by decide) ?_
                refine aw_bastore_k (j := ((iN I2 82 x) - 1)) hC dX12_does_189 (tg_68 hT) (nI_clamp (by omega)) (vp_in_nI (by omega) (by decide)) (Or.inr rfl) ?_
                refine aw_aload_n hC dX12_does_190 rfl ?_
                refine aw_dup hC dX12_does_191 rfl ?_
                refine aw_getI hC dX12_does_192 aF_X12_343 rfl (tg_44 hT) ?_
                rw [a_u_ne (f := I2) (o := 68) (k := ((iN I2 82 x) - 1)) (a := 44) (b := 35) (v := 1) (fun q => absurd q.1 (by decide))]
                refine aw_iload hC dX12_does_195 rfl ?_
                refine aw_if_eq (tgt := 204) hC dX12_does_197 (by decide) (fun _ => ?_) (fun h11 => absurd h11 (by decide))
                show AW X 0 0 204 [some (.ref 44), some (.int (nI wh)), some (.int (nI x)), some (.int (nI hw)), some (.int 0)] [.int (I2 44 35), .ref 44] T (a_u I2 68 ((iN I2 82 x) - 1) 1) J2 R
                refine aw_iconst (v := 0) hC dX12_does_204 (by decide) ?_
                refine aw_iadd hC dX12_does_205 ?_
                refine aw_putI hC dX12_does_206 aF_X12_343 rfl rfl (tg_44 hT) ?_
                refine aw_iconst (v := 1) hC dX12_does_209 (by decide) ?_
                exact aw_zreturn hC hq rfl (Or.inr rfl) dX12_does_210 a_le a_le (by first | (exfalso; omega) | exact ⟨_, rfl, rfl, rfl, I2, hCm, by rw [ds_4 (by omega) (by omega) (by first | exact Or.inl (by omega) | exact Or.inr (bI_n0.mp (by assumption)))]; rfl, by rw [ds_4 (by omega) (by omega) (by first | exact Or.inl (by omega) | exact Or.inr (bI_n0.mp (by assumption)))]; rw [if_neg (show ¬ wh = 2 by omega), if_neg (show ¬ wh = 3 by omega), if_pos (by omega)]; (try rw [show decide (hw = 2) = false from decide_eq_false (by omega)]); (try rw [show decide (hw = 2) = true from decide_eq_true (by omega)]); (try rw [if_neg (show ¬ hw = 2 by omega)]); (try rw [if_neg (show ¬ hw = 2 by omega)]); (try rw [if_pos (show hw = 2 by omega)]); (try rw [if_pos (show hw = 2 by omega)]); (try rw [← hxe.1]); (first | done | rfl)⟩)
            · show AW X 0 0 129 [some (.ref 44), some (.int (nI wh)), some (.int (nI x)), some (.int (nI hw)), some (.int 0)] [] T I2 J2 R
              have h6n : wh = 3 := (nI_eq (a := wh) (b := 3) (by omega) (by omega)).mp h6
              refine aw_aload_n hC dX12_does_129 rfl ?_
              refine aw_getR hC dX12_does_130 aF_X12_80 rfl (tg_44 hT) (pr_44_28 hR) ?_
              refine aw_aload_n hC dX12_does_133 rfl ?_
              refine aw_getR hC dX12_does_134 aF_X12_83 rfl (tg_44 hT) (pr_44_29 hR) ?_
              refine aw_iload_n hC dX12_does_137 rfl ?_
              refine aw_iaload_k (j := x) hC dX12_does_138 (tg_69 hT) (nI_clamp (by omega)) (vp_in_nI (by omega) (by decide)) ?_
              have hb12 := hE2 x (by omega)
              rw [hb12.1]
              refine aw_iconst (v := 1) hC dX12_does_139 (by decide) ?_
              refine aw_isub hC dX12_does_140 ?_
              rw [show (nI (iN I2 69 x)) - 1 = nI ((iN I2 69 x) - 1) from pk_sub (a := (iN I2 69 x)) (b := 1) (by omega)]
              refine aw_iconst (v := 1) hC dX12_does_141 (by decide) ?_
              refine aw_bastore_k (j := ((iN I2 69 x) - 1)) hC dX12_does_142 (tg_68 hT) (nI_clamp (by omega)) (vp_in_nI (by omega) (by decide)) (Or.inr rfl) ?_
              refine aw_aload_n hC dX12_does_143 rfl ?_
              refine aw_getR hC dX12_does_144 aF_X12_83 rfl (tg_44 hT) (pr_44_29 hR) ?_
              refine aw_iload_n hC dX12_does_147 rfl ?_
              refine aw_iload hC dX12_does_148 rfl ?_
              refine aw_if_eq (tgt := 157) hC dX12_does_150 (by decide) (fun _ => ?_) (fun h13 => absurd h13 (by decide))
              show AW X 0 0 157 [some (.ref 44), some (.int (nI wh)), some (.int (nI x)), some (.int (nI hw)), some (.int 0)] [.int (nI x), .ref 69] T (a_u I2 68 ((iN I2 69 x) - 1) 1) J2 R
              refine aw_aload_n hC dX12_does_157 rfl ?_
              refine aw_getR hC dX12_does_158 aF_X12_83 rfl (tg_44 hT) (pr_44_29 hR) ?_
              refine aw_iload_n hC dX12_does_161 rfl ?_
              refine aw_iaload_k (j := x) hC dX12_does_162 (tg_69 hT) (nI_clamp (by omega)) (vp_in_nI (by omega) (by decide)) ?_
              rw [a_u_ne (f := I2) (o := 68) (k := ((iN I2 69 x) - 1)) (a := 69) (b := x) (v := 1) (fun q => absurd q.1 (by decide))]
              have hb14 := hE2 x (by omega)
              rw [hb14.1]
              refine aw_iastore_k (j := x) hC dX12_does_163 (tg_69 hT) (nI_clamp (by omega)) (vp_in_nI (by omega) (by decide)) ?_
              refine aw_goto (tgt := 190) hC dX12_does_164 (by decide) ?_
              refine aw_aload_n hC dX12_does_190 rfl ?_
              refine aw_dup hC dX12_does_191 rfl ?_
              refine aw_getI hC dX12_does_192 aF_X12_343 rfl (tg_44 hT) ?_
              rw [a_u_ne (f := a_u I2 68 ((iN I2 69 x) - 1) 1) (o := 69) (k := x) (a := 44) (b := 35) (v := nI (iN I2 69 x)) (fun q => absurd q.1 (by decide))]
              rw [a_u_ne (f := I2) (o := 68) (k := ((iN I2 69 x) - 1)) (a := 44) (b := 35) (v := 1) (fun q => absurd q.1 (by decide))]
              refine aw_iload hC dX12_does_195 rfl ?_
              refine aw_if_eq (tgt := 204) hC dX12_does_197 (by decide) (fun _ => ?_) (fun h15 => absurd h15 (by decide))
              show AW X 0 0 204 [some (.ref 44), some (.int (nI wh)), some (.int (nI x)), some (.int (nI hw)), some (.int 0)] [.int (I2 44 35), .ref 44] T (a_u (a_u I2 68 ((iN I2 69 x) - 1) 1) 69 x (nI (iN I2 69 x))) J2 R
              refine aw_iconst (v := 0) hC dX12_does_204 (by decide) ?_
              refine aw_iadd hC dX12_does_205 ?_
              refine aw_putI hC dX12_does_206 aF_X12_343 rfl rfl (tg_44 hT) ?_
              refine aw_iconst (v := 1) hC dX12_does_209 (by decide) ?_
              exact aw_zreturn hC hq rfl (Or.inr rfl) dX12_does_210 a_le a_le (by first | (exfalso; omega) | exact ⟨_, rfl, rfl, rfl, I2, hCm, by rw [ds_4 (by omega) (by omega) (by first | exact Or.inl (by omega) | exact Or.inr (bI_n0.mp (by assumption)))]; rfl, by rw [ds_4 (by omega) (by omega) (by first | exact Or.inl (by omega) | exact Or.inr (bI_n0.mp (by assumption)))]; rw [if_neg (show ¬ wh = 2 by omega), if_pos (show wh = 3 by omega)]; (try rw [show decide (hw = 2) = false from decide_eq_false (by omega)]); (try rw [show decide (hw = 2) = true from decide_eq_true (by omega)]); (try rw [if_neg (show ¬ hw = 2 by omega)]); (try rw [if_neg (show ¬ hw = 2 by omega)]); (try rw [if_pos (show hw = 2 by omega)]); (try rw [if_pos (show hw = 2 by omega)]); (try rw [← hxe.1]); (first | done | rfl)⟩)
          · show AW X 0 0 114 [some (.ref 44), some (.int (nI wh)), some (.int (nI x)), some (.int (nI hw)), some (.int 0)] [] T I2 J2 R
            have h5n : wh = 2 := (nI_eq (a := wh) (b := 2) (by omega) (by omega)).mp h5
            refine aw_aload_n hC dX12_does_114 rfl ?_
            refine aw_iload_n hC dX12_does_115 rfl ?_
            refine aw_iload hC dX12_does_116 rfl ?_
            refine kX12_409 hC rfl (m_X12_changesNow (I := I2) (J := J2) hT hR (g := g) (x := x) (r := iN I2 69 x - 1) hg2 hx (by rw [hxe.1]; congr 1; have := hne2 (Or.inl (by omega)); omega) (by omega) false) dX12_does_118 (tg_44 hT) rfl a_le a_le a_le a_le a_le rfl aPure_x (aPure_k ?_)
            obtain ⟨I4, hI4⟩ : ∃ I4, I4 = chS I2 J2 x (iN I2 69 x - 1) false 3 := ⟨_, rfl⟩
            rw [← hI4]
            have h435 : I4 44 35 = I2 44 35 := by rw [hI4, chS_fr (by decide)]
            show AW X 0 0 121 [some (.ref 44), some (.int (nI wh)), some (.int (nI x)), some (.int (nI hw)), some (.int 0)] [] T I4 J2 R
            refine aw_goto (tgt := 190) hC dX12_does_121 (by decide) ?_
            refine aw_aload_n hC dX12_does_190 rfl ?_
            refine aw_dup hC dX12_does_191 rfl ?_
            refine aw_getI hC dX12_does_192 aF_X12_343 rfl (tg_44 hT) ?_
            rw [h435]
            refine aw_iload hC dX12_does_195 rfl ?_
            refine aw_if_eq (tgt := 204) hC dX12_does_197 (by decide) (fun _ => ?_) (fun h16 => absurd h16 (by decide))
            show AW X 0 0 204 [some (.ref 44), some (.int (nI wh)), some (.int (nI x)), some (.int (nI hw)), some (.int 0)] [.int (I2 44 35), .ref 44] T I4 J2 R
            refine aw_iconst (v := 0) hC dX12_does_204 (by decide) ?_
            refine aw_iadd hC dX12_does_205 ?_
            refine aw_putI hC dX12_does_206 aF_X12_343 rfl rfl (tg_44 hT) ?_
            refine aw_iconst (v := 1) hC dX12_does_209 (by decide) ?_
            exact aw_zreturn hC hq rfl (Or.inr rfl) dX12_does_210 a_le a_le (by first | (exfalso; omega) | exact ⟨_, rfl, rfl, rfl, I2, hCm, by rw [ds_4 (by omega) (by omega) (by first | exact Or.inl (by omega) | exact Or.inr (bI_n0.mp (by assumption)))]; rfl, by rw [ds_4 (by omega) (by omega) (by first | exact Or.inl (by omega) | exact Or.inr (bI_n0.mp (by assumption)))]; rw [if_pos (show wh = 2 by omega), hI4]; (try rw [show decide (hw = 2) = false from decide_eq_false (by omega)]); (try rw [show decide (hw = 2) = true from decide_eq_true (by omega)]); (try rw [if_neg (show ¬ hw = 2 by omega)]); (try rw [if_neg (show ¬ hw = 2 by omega)]); (try rw [if_pos (show hw = 2 by omega)]); (try rw [if_pos (show hw = 2 by omega)]); (try rw [← hxe.1]); (first | done | rfl)⟩)
        · show AW X 0 0 98 [some (.ref 44), some (.int (nI wh)), some (.int (nI x)), some (.int (nI hw)), some (.int 0)] [] T I2 J2 R
          have h4n : wh = 2 := (nI_eq (a := wh) (b := 2) (by omega) (by omega)).mp h4
          refine aw_aload_n hC dX12_does_98 rfl ?_
          refine aw_iload_n hC dX12_does_99 rfl ?_
          refine aw_iconst (v := 0) hC dX12_does_100 (by decide) ?_
          refine kX12_401 hC rfl (m_X12_canGive (I := I2) (J := J2) hT hR (g := g) (x := x) hg2 hx false) dX12_does_101 (tg_44 hT) rfl a_le a_le a_le a_le a_le rfl aPure_x (aPure_k ?_)
          show AW X 0 0 104 [some (.ref 44), some (.int (nI wh)), some (.int (nI x)), some (.int (nI hw)), some (.int 0)] [.int (bI (allB (cgS I2 J2 x false) 3))] T I2 J2 R
          refine aw_if_ne (tgt := 109) hC dX12_does_104 (by decide) (fun h17 => ?_) (fun h17 => ?_)
          · show AW X 0 0 109 [some (.ref 44), some (.int (nI wh)), some (.int (nI x)), some (.int (nI hw)), some (.int 0)] [] T I2 J2 R
            refine aw_iload_n hC dX12_does_109 rfl ?_
            refine aw_iconst (v := 2) hC dX12_does_110 (by decide) ?_
            refine aw_icmp_ne (tgt := 124) hC dX12_does_111 (by decide) (fun h18 => ?_) (fun h18 => ?_)
            · show AW X 0 0 124 [some (.ref 44), some (.int (nI wh)), some (.int (nI x)), some (.int (nI hw)), some (.int 0)] [] T I2 J2 R
              have h18n : ¬ wh = 2 := fun q9 => h18 ((nI_eq (a := wh) (b := 2) (by omega) (by omega)).mpr q9)
              refine aw_iload_n hC dX12_does_124 rfl ?_
              refine aw_iconst (v := 3) hC dX12_does_125 (by decide) ?_
              refine aw_icmp_ne (tgt := 167) hC dX12_does_126 (by decide) (fun h19 => ?_) (fun h19 => ?_)
              · show AW X 0 0 167 [some (.ref 44), some (.int (nI wh)), some (.int (nI x)), some (.int (nI hw)), some (.int 0)] [] T I2 J2 R
                have h19n : ¬ wh = 3 := fun q9 => h19 ((nI_eq (a := wh) (b := 3) (by omega) (by omega)).mpr q9)
                refine aw_aload_n hC dX12_does_167 rfl ?_
                refine aw_getR hC dX12_does_168 aF_X12_129 rfl (tg_44 hT) (pr_44_47 hR) ?_
                refine aw_iload_n hC dX12_does_171 rfl ?_
                refine aw_iaload_k (j := x) hC dX12_does_172 (tg_82 hT) (nI_clamp (by omega)) (vp_in_nI (by omega) (by decide)) ?_
                have hb20 := hO2 x (by omega)
                rw [hb20.1]
                refine aw_if_le (tgt := 190) hC dX12_does_173 (by decide) (fun h21 => ?_) (fun h21 => ?_)
                · show AW X 0 0 190 [some (.ref 44), some (.int (nI wh)), some (.int (nI x)), some (.int (nI hw)), some (.int 0)] [] T I2 J2 R
                  have h21n : (iN I2 82 x) ≤ 0 := (nI_leI (a := (iN I2 82 x)) (b := 0) (by omega) (by omega)).mp h21
                  refine aw_aload_n hC dX12_does_190 rfl ?_
                  refine aw_dup hC dX12_does_191 rfl ?_
                  refine aw_getI hC dX12_does_192 aF_X12_343 rfl (tg_44 hT) ?_
                  refine aw_iload hC dX12_does_195 rfl ?_
                  refine aw_if_eq (tgt := 204) hC dX12_does_197 (by decide) (fun _ => ?_) (fun h22 => absurd h22 (by decide))
                  show AW X 0 0 204 [some (.ref 44), some (.int (nI wh)), some (.int (nI x)), some (.int (nI hw)), some (.int 0)] [.int (I2 44 35), .ref 44] T I2 J2 R
                  refine aw_iconst (v := 0) hC dX12_does_204 (by decide) ?_
                  refine aw_iadd hC dX12_does_205 ?_
                  refine aw_putI hC dX12_does_206 aF_X12_343 rfl rfl (tg_44 hT) ?_
                  refine aw_iconst (v := 1) hC dX12_does_209 (by decide) ?_
                  exact aw_zreturn hC hq rfl (Or.inr rfl) dX12_does_210 a_le a_le (by first | (exfalso; omega) | exact ⟨_, rfl, rfl, rfl, I2, hCm, by rw [ds_4 (by omega) (by omega) (by first | exact Or.inl (by omega) | exact Or.inr (bI_n0.mp (by assumption)))]; rfl, by rw [ds_4 (by omega) (by omega) (by first | exact Or.inl (by omega) | exact Or.inr (bI_n0.mp (by assumption)))]; rw [if_neg (show ¬ wh = 2 by omega), if_neg (show ¬ wh = 3 by omega), if_neg (by omega)]; (try rw [show decide (hw = 2) = false from decide_eq_false (by omega)]); (try rw [show decide (hw = 2) = true from decide_eq_true (by omega)]); (try rw [if_neg (show ¬ hw = 2 by omega)]); (try rw [if_neg (show ¬ hw = 2 by omega)]); (try rw [if_pos (show hw = 2 by omega)]); (try rw [if_pos (show hw = 2 by omega)]); (try rw [← hxe.1]); (first | done | rfl)⟩)
                · show AW X 0 0 176 [some (.ref 44), some (.int (nI wh)), some (.int (nI x)), some (.int (nI hw)), some (.int 0)] [] T I2 J2 R
                  have h21n : ¬ (iN I2 82 x) ≤ 0 := fun q9 => h21 ((nI_leI (a := (iN I2 82 x)) (b := 0) (by omega) (by omega)).mpr q9)
                  refine aw_aload_n hC dX12_does_176 rfl ?_
                  refine aw_getR hC dX12_does_177 aF_X12_80 rfl (tg_44 hT) (pr_44_28 hR) ?_
                  refine aw_aload_n hC dX12_does_180 rfl ?_
                  refine aw_getR hC dX12_does_181 aF_X12_129 rfl (tg_44 hT) (pr_44_47 hR) ?_
                  refine aw_iload_n hC dX12_does_184 rfl ?_
                  refine aw_iaload_k (j := x) hC dX12_does_185 (tg_82 hT) (nI_clamp (by omega)) (vp_in_nI (by omega) (by decide)) ?_
                  have hb23 := hO2 x (by omega)
                  rw [hb23.1]
                  refine aw_iconst (v := 1) hC dX12_does_186 (by decide) ?_
                  refine aw_isub hC dX12_does_187 ?_
                  rw [show (nI (iN I2 82 x)) - 1 = nI ((iN I2 82 x) - 1) from pk_sub (a := (iN I2 82 x)) (b := 1) (by omega)]
                  refine aw_iconst (v := 1) hC dX12_does_188 (by decide) ?_
                  refine aw_bastore_k (j := ((iN I2 82 x) - 1)) hC dX12_does_189 (tg_68 hT) (nI_clamp (by omega)) (vp_in_nI (by omega) (by decide)) (Or.inr rfl) ?_
                  refine aw_aload_n hC dX12_does_190 rfl ?_
                  refine aw_dup hC dX12_does_191 rfl ?_
                  refine aw_getI hC dX12_does_192 aF_X12_343 rfl (tg_44 hT) ?_
                  rw [a_u_ne (f := I2) (o := 68) (k := ((iN I2 82 x) - 1)) (a := 44) (b := 35) (v := 1) (fun q => absurd q.1 (by decide))]
                  refine aw_iload hC dX12_does_195 rfl ?_
                  refine aw_if_eq (tgt := 204) hC dX12_does_197 (by decide) (fun _ => ?_) (fun h24 => absurd h24 (by decide))
                  show AW X 0 0 204 [some (.ref 44), some (.int (nI wh)), some (.int (nI x)), some (.int (nI hw)), some (.int 0)] [.int (I2 44 35), .ref 44] T (a_u I2 68 ((iN I2 82 x) - 1) 1) J2 R
                  refine aw_iconst (v := 0) hC dX12_does_204 (by decide) ?_
                  refine aw_iadd hC dX12_does_205 ?_
                  refine aw_putI hC dX12_does_206 aF_X12_343 rfl rfl (tg_44 hT) ?_
                  refine aw_iconst (v := 1) hC dX12_does_209 (by decide) ?_
                  exact aw_zreturn hC hq rfl (Or.inr rfl) dX12_does_210 a_le a_le (by first | (exfalso; omega) | exact ⟨_, rfl, rfl, rfl, I2, hCm, by rw [ds_4 (by omega) (by omega) (by first | exact Or.inl (by omega) | exact Or.inr (bI_n0.mp (by assumption)))]; rfl, by rw [ds_4 (by omega) (by omega) (by first | exact Or.inl (by omega) | exact Or.inr (bI_n0.mp (by assumption)))]; rw [if_neg (show ¬ wh = 2 by omega), if_neg (show ¬ wh = 3 by omega), if_pos (by omega)]; (try rw [show decide (hw = 2) = false from decide_eq_false (by omega)]); (try rw [show decide (hw = 2) = true from decide_eq_true (by omega)]); (try rw [if_neg (show ¬ hw = 2 by omega)]); (try rw [if_neg (show ¬ hw = 2 by omega)]); (try rw [if_pos (show hw = 2 by omega)]); (try rw [if_pos (show hw = 2 by omega)]); (try rw [← hxe.1]); (first | done | rfl)⟩)
              · show AW X 0 0 129 [some (.ref 44), some (.int (nI wh)), some (.int (nI x)), some (.int (nI hw)), some (.int 0)] [] T I2 J2 R
                have h19n : wh = 3 := (nI_eq (a := wh) (b := 3) (by omega) (by omega)).mp h19
                refine aw_aload_n hC dX12_does_129 rfl ?_
                refine aw_getR hC dX12_does_130 aF_X12_80 rfl (tg_44 hT) (pr_44_28 hR) ?_
                refine aw_aload_n hC dX12_does_133 rfl ?_
                refine aw_getR hC dX12_does_134 aF_X12_83 rfl (tg_44 hT) (pr_44_29 hR) ?_
                refine aw_iload_n hC dX12_does_137 rfl ?_
                refine aw_iaload_k (j := x) hC dX12_does_138 (tg_69 hT) (nI_clamp (by omega)) (vp_in_nI (by omega) (by decide)) ?_
                have hb25 := hE2 x (by omega)
                rw [hb25.1]
                refine aw_iconst (v := 1) hC dX12_does_139 (by decide) ?_
                refine aw_isub hC dX12_does_140 ?_
                rw [show (nI (iN I2 69 x)) - 1 = nI ((iN I2 69 x) - 1) from pk_sub (a := (iN I2 69 x)) (b := 1) (by omega)]
                refine aw_iconst (v := 1) hC dX12_does_141 (by decide) ?_
                refine aw_bastore_k (j := ((iN I2 69 x) - 1)) hC dX12_does_142 (tg_68 hT) (nI_clamp (by omega)) (vp_in_nI (by omega) (by decide)) (Or.inr rfl) ?_
                refine aw_aload_n hC dX12_does_143 rfl ?_
                refine aw_getR hC dX12_does_144 aF_X12_83 rfl (tg_44 hT) (pr_44_29 hR) ?_
                refine aw_iload_n hC dX12_does_147 rfl ?_
                refine aw_iload hC dX12_does_148 rfl ?_
                refine aw_if_eq (tgt := 157) hC dX12_does_150 (by decide) (fun _ => ?_) (fun h26 => absurd h26 (by decide))
                show AW X 0 0 157 [some (.ref 44), some (.int (nI wh)), some (.int (nI x)), some (.int (nI hw)), some (.int 0)] [.int (nI x), .ref 69] T (a_u I2 68 ((iN I2 69 x) - 1) 1) J2 R
                refine aw_aload_n hC dX12_does_157 rfl ?_
                refine aw_getR hC dX12_does_158 aF_X12_83 rfl (tg_44 hT) (pr_44_29 hR) ?_
                refine aw_iload_n hC dX12_does_161 rfl ?_
                refine aw_iaload_k (j := x) hC dX12_does_162 (tg_69 hT) (nI_clamp (by omega)) (vp_in_nI (by omega) (by decide)) ?_
                rw [a_u_ne (f := I2) (o := 68) (k := ((iN I2 69 x) - 1)) (a := 69) (b := x) (v := 1) (fun q => absurd q.1 (by decide))]
                have hb27 := hE2 x (by omega)
                rw [hb27.1]
                refine aw_iastore_k (j := x) hC dX12_does_163 (tg_69 hT) (nI_clamp (by omega)) (vp_in_nI (by omega) (by decide)) ?_
                refine aw_goto (tgt := 190) hC dX12_does_164 (by decide) ?_
                refine aw_aload_n hC dX12_does_190 rfl ?_
                refine aw_dup hC dX12_does_191 rfl ?_
                refine aw_getI hC dX12_does_192 aF_X12_343 rfl (tg_44 hT) ?_
                rw [a_u_ne (f := a_u I2 68 ((iN I2 69 x) - 1) 1) (o := 69) (k := x) (a := 44) (b := 35) (v := nI (iN I2 69 x)) (fun q => absurd q.1 (by decide))]
                rw [a_u_ne (f := I2) (o := 68) (k := ((iN I2 69 x) - 1)) (a := 44) (b := 35) (v := 1) (fun q => absurd q.1 (by decide))]
                refine aw_iload hC dX12_does_195 rfl ?_
                refine aw_if_eq (tgt := 204) hC dX12_does_197 (by decide) (fun _ => ?_) (fun h28 => absurd h28 (by decide))
                show AW X 0 0 204 [some (.ref 44), some (.int (nI wh)), some (.int (nI x)), some (.int (nI hw)), some (.int 0)] [.int (I2 44 35), .ref 44] T (a_u (a_u I2 68 ((iN I2 69 x) - 1) 1) 69 x (nI (iN I2 69 x))) J2 R
                refine aw_iconst (v := 0) hC dX12_does_204 (by decide) ?_
                refine aw_iadd hC dX12_does_205 ?_
                refine aw_putI hC dX12_does_206 aF_X12_343 rfl rfl (tg_44 hT) ?_
                refine aw_iconst (v := 1) hC dX12_does_209 (by decide) ?_
                exact aw_zreturn hC hq rfl (Or.inr rfl) dX12_does_210 a_le a_le (by first | (exfalso; omega) | exact ⟨_, rfl, rfl, rfl, I2, hCm, by rw [ds_4 (by omega) (by omega) (by first | exact Or.inl (by omega) | exact Or.inr (bI_n0.mp (by assumption)))]; rfl, by rw [ds_4 (by omega) (by omega) (by first | exact Or.inl (by omega) | exact Or.inr (bI_n0.mp (by assumption)))]; rw [if_neg (show ¬ wh = 2 by omega), if_pos (show wh = 3 by omega)]; (try rw [show decide (hw = 2) = false from decide_eq_false (by omega)]); (try rw [show decide (hw = 2) = true from decide_eq_true (by omega)]); (try rw [if_neg (show ¬ hw = 2 by omega)]); (try rw [if_neg (show ¬ hw = 2 by omega)]); (try rw [if_pos (show hw = 2 by omega)]); (try rw [if_pos (show hw = 2 by omega)]); (try rw [← hxe.1]); (first | done | rfl)⟩)
            · show AW X 0 0 114 [some (.ref 44), some (.int (nI wh)), some (.int (nI x)), some (.int (nI hw)), some (.int 0)] [] T I2 J2 R
              have h18n : wh = 2 := (nI_eq (a := wh) (b := 2) (by omega) (by omega)).mp h18
              refine aw_aload_n hC dX12_does_114 rfl ?_
              refine aw_iload_n hC dX12_does_115 rfl ?_
              refine aw_iload hC dX12_does_116 rfl ?_
              refine kX12_409 hC rfl (m_X12_changesNow (I := I2) (J := J2) hT hR (g := g) (x := x) (r := iN I2 69 x - 1) hg2 hx (by rw [hxe.1]; congr 1; have := hne2 (Or.inl (by omega)); omega) (by omega) false) dX12_does_118 (tg_44 hT) rfl a_le a_le a_le a_le a_le rfl aPure_x (aPure_k ?_)
              obtain ⟨I4, hI4⟩ : ∃ I4, I4 = chS I2 J2 x (iN I2 69 x - 1) false 3 := ⟨_, rfl⟩
              rw [← hI4]
              have h435 : I4 44 35 = I2 44 35 := by rw [hI4, chS_fr (by decide)]
              show AW X 0 0 121 [some (.ref 44), some (.int (nI wh)), some (.int (nI x)), some (.int (nI hw)), some (.int 0)] [] T I4 J2 R
              refine aw_goto (tgt := 190) hC dX12_does_121 (by decide) ?_
              refine aw_aload_n hC dX12_does_190 rfl ?_
              refine aw_dup hC dX12_does_191 rfl ?_
              refine aw_getI hC dX12_does_192 aF_X12_343 rfl (tg_44 hT) ?_
              rw [h435]
              refine aw_iload hC dX12_does_195 rfl ?_
              refine aw_if_eq (tgt := 204) hC dX12_does_197 (by decide) (fun _ => ?_) (fun h29 => absurd h29 (by decide))
              show AW X 0 0 204 [some (.ref 44), some (.int (nI wh)), some (.int (nI x)), some (.int (nI hw)), some (.int 0)] [.int (I2 44 35), .ref 44] T I4 J2 R
              refine aw_iconst (v := 0) hC dX12_does_204 (by decide) ?_
              refine aw_iadd hC dX12_does_205 ?_
              refine aw_putI hC dX12_does_206 aF_X12_343 rfl rfl (tg_44 hT) ?_
              refine aw_iconst (v := 1) hC dX12_does_209 (by decide) ?_
              exact aw_zreturn hC hq rfl (Or.inr rfl) dX12_does_210 a_le a_le (by first | (exfalso; omega) | exact ⟨_, rfl, rfl, rfl, I2, hCm, by rw [ds_4 (by omega) (by omega) (by first | exact Or.inl (by omega) | exact Or.inr (bI_n0.mp (by assumption)))]; rfl, by rw [ds_4 (by omega) (by omega) (by first | exact Or.inl (by omega) | exact Or.inr (bI_n0.mp (by assumption)))]; rw [if_pos (show wh = 2 by omega), hI4]; (try rw [show decide (hw = 2) = false from decide_eq_false (by omega)]); (try rw [show decide (hw = 2) = true from decide_eq_true (by omega)]); (try rw [if_neg (show ¬ hw = 2 by omega)]); (try rw [if_neg (show ¬ hw = 2 by omega)]); (try rw [if_pos (show hw = 2 by omega)]); (try rw [if_pos (show hw = 2 by omega)]); (try rw [← hxe.1]); (first | done | rfl)⟩)
          · show AW X 0 0 107 [some (.ref 44), some (.int (nI wh)), some (.int (nI x)), some (.int (nI hw)), some (.int 0)] [] T I2 J2 R
            refine aw_iconst (v := 0) hC dX12_does_107 (by decide) ?_
            exact aw_zreturn hC hq rfl (Or.inl rfl) dX12_does_108 a_le a_le ⟨_, rfl, rfl, rfl, I2, hCm, by rw [ds_3 (by omega) (by first | exact Or.inl (by omega) | exact Or.inr ⟨by omega, bI_e0.mp (by assumption)⟩)]; rfl, by rw [ds_3 (by omega) (by first | exact Or.inl (by omega) | exact Or.inr ⟨by omega, bI_e0.mp (by assumption)⟩)]⟩
    · show AW X 0 0 21 [some (.ref 44), some (.int (nI wh)), some (.int (nI x)), some (.int (nI hw)), some (.int 0)] [] T I2 J2 R
      have h2n : wh = 1 := (nI_eq (a := wh) (b := 1) (by omega) (by omega)).mp h2
      refine aw_aload_n hC dX12_does_21 rfl ?_
      refine aw_getI hC dX12_does_22 aF_X12_315 rfl (tg_44 hT) ?_
      rw [hr2]
      refine aw_bipush (v := 60) hC dX12_does_25 (by decide) ?_
      refine aw_icmp_eq (tgt := 39) hC dX12_does_27 (by decide) (fun h30 => ?_) (fun h30 => ?_)
      · show AW X 0 0 39 [some (.ref 44), some (.int (nI wh)), some (.int (nI x)), some (.int (nI hw)), some (.int 0)] [] T I2 J2 R
        have h30n : r = 60 := (nI_eq (a := r) (b := 60) (by omega) (by omega)).mp h30
        refine aw_iconst (v := 0) hC dX12_does_39 (by decide) ?_
        exact aw_zreturn hC hq rfl (Or.inl rfl) dX12_does_40 a_le a_le ⟨_, rfl, rfl, rfl, I2, hCm, by rw [show wh = 1 from by omega, ds_1 (by first | exact Or.inl (by omega) | exact Or.inr (bI_e0.mp (by assumption)))]; rfl, by rw [show wh = 1 from by omega, ds_1 (by first | exact Or.inl (by omega) | exact Or.inr (bI_e0.mp (by assumption)))]⟩
      · show AW X 0 0 30 [some (.ref 44), some (.int (nI wh)), some (.int (nI x)), some (.int (nI hw)), some (.int 0)] [] T I2 J2 R
        have h30n : ¬ r = 60 := fun q9 => h30 ((nI_eq (a := r) (b := 60) (by omega) (by omega)).mpr q9)
        refine aw_aload_n hC dX12_does_30 rfl ?_
        refine aw_iload_n hC dX12_does_31 rfl ?_
        refine aw_iconst (v := 1) hC dX12_does_32 (by decide) ?_
        refine kX12_401 hC rfl (m_X12_canGive (I := I2) (J := J2) hT hR (g := g) (x := x) hg2 hx true) dX12_does_33 (tg_44 hT) rfl a_le a_le a_le a_le a_le rfl aPure_x (aPure_k ?_)
        show AW X 0 0 36 [some (.ref 44), some (.int (nI wh)), some (.int (nI x)), some (.int (nI hw)), some (.int 0)] [.int (bI (allB (cgS I2 J2 x true) 3))] T I2 J2 R
        refine aw_if_ne (tgt := 41) hC dX12_does_36 (by decide) (fun h31 => ?_) (fun h31 => ?_)
        · show AW X 0 0 41 [some (.ref 44), some (.int (nI wh)), some (.int (nI x)), some (.int (nI hw)), some (.int 0)] [] T I2 J2 R
          refine aw_aload_n hC dX12_does_41 rfl ?_
          refine aw_iload_n hC dX12_does_42 rfl ?_
          refine aw_iload hC dX12_does_43 rfl ?_
          refine aw_iload_n hC dX12_does_45 rfl ?_
          refine aw_iconst (v := 1) hC dX12_does_46 (by decide) ?_
          refine aw_icmp_ne (tgt := 54) hC dX12_does_47 (by decide) (fun h32 => ?_) (fun h32 => ?_)
          · show AW X 0 0 54 [some (.ref 44), some (.int (nI wh)), some (.int (nI x)), some (.int (nI hw)), some (.int 0)] [.int 0, .int (nI x), .ref 44] T I2 J2 R
            have h32n : ¬ hw = 1 := fun q9 => h32 ((nI_eq (a := hw) (b := 1) (by omega) (by omega)).mpr q9)
            refine aw_iconst (v := 0) hC dX12_does_54 (by decide) ?_
            refine kX12_405 hC rfl (m_X12_makes (I := I2) (J := J2) hT hR (g := g) (x := x) (r := r) hg2 hx hr2 (by omega) hmd2 false false) dX12_does_55 (tg_44 hT) rfl a_le a_le a_le a_le a_le rfl aPure_x (aPure_k ?_)
            obtain ⟨I4, hI4⟩ : ∃ I4, I4 = mkS I2 J2 x r false false := ⟨_, rfl⟩
            rw [← hI4]
            have h435 : I4 44 35 = I2 44 35 := by rw [hI4]; exact mkS_35
            show AW X 0 0 58 [some (.ref 44), some (.int (nI wh)), some (.int (nI x)), some (.int (nI hw)), some (.int 0)] [] T I4 J2 R
            refine aw_aload_n hC dX12_does_58 rfl ?_
            refine aw_dup hC dX12_does_59 rfl ?_
            refine aw_getI hC dX12_does_60 aF_X12_343 rfl (tg_44 hT) ?_
            rw [h435]
            refine aw_iload hC dX12_does_63 rfl ?_
            refine aw_if_eq (tgt := 72) hC dX12_does_65 (by decide) (fun _ => ?_) (fun h33 => absurd h33 (by decide))
            show AW X 0 0 72 [some (.ref 44), some (.int (nI wh)), some (.int (nI x)), some (.int (nI hw)), some (.int 0)] [.int (I2 44 35), .ref 44] T I4 J2 R
            refine aw_iconst (v := 0) hC dX12_does_72 (by decide) ?_
            refine aw_iadd hC dX12_does_73 ?_
            refine aw_putI hC dX12_does_74 aF_X12_343 rfl rfl (tg_44 hT) ?_
            refine aw_iload_n hC dX12_does_77 rfl ?_
            refine aw_iconst (v := 1) hC dX12_does_78 (by decide) ?_
            refine aw_icmp_eq (tgt := 86) hC dX12_does_79 (by decide) (fun h34 => ?_) (fun h34 => ?_)
            · show AW X 0 0 86 [some (.ref 44), some (.int (nI wh)), some (.int (nI x)), some (.int (nI hw)), some (.int 0)] [] T (a_u I4 44 35 ((I2 44 35) + 0)) J2 R
              have h34n : hw = 1 := (nI_eq (a := hw) (b := 1) (by omega) (by omega)).mp h34
              refine aw_iconst (v := 0) hC dX12_does_86 (by decide) ?_
              exact aw_zreturn hC hq rfl (Or.inl rfl) dX12_does_87 a_le a_le (by first | (exfalso; omega) | exact ⟨_, rfl, rfl, rfl, I2, hCm, by rw [show wh = 1 from by omega, ds_2 (by omega) (bI_n0.mp (by assumption))]; first | (rw [show decide (hw = 1) = true from decide_eq_true (by omega)]; rfl) | (rw [show decide (hw = 1) = false from decide_eq_false (by omega)]; rfl), by rw [show wh = 1 from by omega, ds_2 (by omega) (bI_n0.mp (by assumption)), hI4]; (first | rw [show decide (hw = 1) = true from decide_eq_true (by omega), show decide (hw = 2) = false from decide_eq_false (by omega), if_neg (show ¬ hw = 2 by omega)] | rw [show decide (hw = 1) = false from decide_eq_false (by omega), show decide (hw = 2) = false from decide_eq_false (by omega), if_neg (show ¬ hw = 2 by omega)] | rw [show decide (hw = 1) = false from decide_eq_false (by omega), show decide (hw = 2) = true from decide_eq_true (by omega), if_pos (show hw = 2 by omega)]); (first | done | rfl)⟩)
            · show AW X 0 0 82 [some (.ref 44), some (.int (nI wh)), some (.int (nI x)), some (.int (nI hw)), some (.int 0)] [] T (a_u I4 44 35 ((I2 44 35) + 0)) J2 R
              have h34n : ¬ hw = 1 := fun q9 => h34 ((nI_eq (a := hw) (b := 1) (by omega) (by omega)).mpr q9)
              refine aw_iconst (v := 1) hC dX12_does_82 (by decide) ?_
              refine aw_goto (tgt := 87) hC dX12_does_83 (by decide) ?_
              exact aw_zreturn hC hq rfl (Or.inr rfl) dX12_does_87 a_le a_le (by first | (exfalso; omega) | exact ⟨_, rfl, rfl, rfl, I2, hCm, by rw [show wh = 1 from by omega, ds_2 (by omega) (bI_n0.mp (by assumption))]; first | (rw [show decide (hw = 1) = true from decide_eq_true (by omega)]; rfl) | (rw [show decide (hw = 1) = false from decide_eq_false (by omega)]; rfl), by rw [show wh = 1 from by omega, ds_2 (by omega) (bI_n0.mp (by assumption)), hI4]; (first | rw [show decide (hw = 1) = true from decide_eq_true (by omega), show decide (hw = 2) = false from decide_eq_false (by omega), if_neg (show ¬ hw = 2 by omega)] | rw [show decide (hw = 1) = false from decide_eq_false (by omega), show decide (hw = 2) = false from decide_eq_false (by omega), if_neg (show ¬ hw = 2 by omega)] | rw [show decide (hw = 1) = false from decide_eq_false (by omega), show decide (hw = 2) = true from decide_eq_true (by omega), if_pos (show hw = 2 by omega)]); (first | done | rfl)⟩)
          · show AW X 0 0 50 [some (.ref 44), some (.int (nI wh)), some (.int (nI x)), some (.int (nI hw)), some (.int 0)] [.int 0, .int (nI x), .ref 44] T I2 J2 R
            have h32n : hw = 1 := (nI_eq (a := hw) (b := 1) (by omega) (by omega)).mp h32
            refine aw_iconst (v := 1) hC dX12_does_50 (by decide) ?_
            refine aw_goto (tgt := 55) hC dX12_does_51 (by decide) ?_
            refine kX12_405 hC rfl (m_X12_makes (I := I2) (J := J2) hT hR (g := g) (x := x) (r := r) hg2 hx hr2 (by omega) hmd2 false true) dX12_does_55 (tg_44 hT) rfl a_le a_le a_le a_le a_le rfl aPure_x (aPure_k ?_)
            obtain ⟨I4, hI4⟩ : ∃ I4, I4 = mkS I2 J2 x r false true := ⟨_, rfl⟩
            rw [← hI4]
            have h435 : I4 44 35 = I2 44 35 := by rw [hI4]; exact mkS_35
            show AW X 0 0 58 [some (.ref 44), some (.int (nI wh)), some (.int (nI x)), some (.int (nI hw)), some (.int 0)] [] T I4 J2 R
            refine aw_aload_n hC dX12_does_58 rfl ?_
            refine aw_dup hC dX12_does_59 rfl ?_
            refine aw_getI hC dX12_does_60 aF_X12_343 rfl (tg_44 hT) ?_
            rw [h435]
            refine aw_iload hC dX12_does_63 rfl ?_
            refine aw_if_eq (tgt := 72) hC dX12_does_65 (by decide) (fun _ => ?_) (fun h35 => absurd h35 (by decide))
            show AW X 0 0 72 [some (.ref 44), some (.int (nI wh)), some (.int (nI x)), some (.int (nI hw)), some (.int 0)] [.int (I2 44 35), .ref 44] T I4 J2 R
            refine aw_iconst (v := 0) hC dX12_does_72 (by decide) ?_
            refine aw_iadd hC dX12_does_73 ?_
            refine aw_putI hC dX12_does_74 aF_X12_343 rfl rfl (tg_44 hT) ?_
            refine aw_iload_n hC dX12_does_77 rfl ?_
            refine aw_iconst (v := 1) hC dX12_does_78 (by decide) ?_
            refine aw_icmp_eq (tgt := 86) hC dX12_does_79 (by decide) (fun h36 => ?_) (fun h36 => ?_)
            · show AW X 0 0 86 [some (.ref 44), some (.int (nI wh)), some (.int (nI x)), some (.int (nI hw)), some (.int 0)] [] T (a_u I4 44 35 ((I2 44 35) + 0)) J2 R
              have h36n : hw = 1 := (nI_eq (a := hw) (b := 1) (by omega) (by omega)).mp h36
              refine aw_iconst (v := 0) hC dX12_does_86 (by decide) ?_
              exact aw_zreturn hC hq rfl (Or.inl rfl) dX12_does_87 a_le a_le (by first | (exfalso; omega) | exact ⟨_, rfl, rfl, rfl, I2, hCm, by rw [show wh = 1 from by omega, ds_2 (by omega) (bI_n0.mp (by assumption))]; first | (rw [show decide (hw = 1) = true from decide_eq_true (by omega)]; rfl) | (rw [show decide (hw = 1) = false from decide_eq_false (by omega)]; rfl), by rw [show wh = 1 from by omega, ds_2 (by omega) (bI_n0.mp (by assumption)), hI4]; (first | rw [show decide (hw = 1) = true from decide_eq_true (by omega), show decide (hw = 2) = false from decide_eq_false (by omega), if_neg (show ¬ hw = 2 by omega)] | rw [show decide (hw = 1) = false from decide_eq_false (by omega), show decide (hw = 2) = false from decide_eq_false (by omega), if_neg (show ¬ hw = 2 by omega)] | rw [show decide (hw = 1) = false from decide_eq_false (by omega), show decide (hw = 2) = true from decide_eq_true (by omega), if_pos (show hw = 2 by omega)]); (first | done | rfl)⟩)
            · show AW X 0 0 82 [some (.ref 44), some (.int (nI wh)), some (.int (nI x)), some (.int (nI hw)), some (.int 0)] [] T (a_u I4 44 35 ((I2 44 35) + 0)) J2 R
              have h36n : ¬ hw = 1 := fun q9 => h36 ((nI_eq (a := hw) (b := 1) (by omega) (by omega)).mpr q9)
              refine aw_iconst (v := 1) hC dX12_does_82 (by decide) ?_
              refine aw_goto (tgt := 87) hC dX12_does_83 (by decide) ?_
              exact aw_zreturn hC hq rfl (Or.inr rfl) dX12_does_87 a_le a_le (by first | (exfalso; omega) | exact ⟨_, rfl, rfl, rfl, I2, hCm, by rw [show wh = 1 from by omega, ds_2 (by omega) (bI_n0.mp (by assumption))]; first | (rw [show decide (hw = 1) = true from decide_eq_true (by omega)]; rfl) | (rw [show decide (hw = 1) = false from decide_eq_false (by omega)]; rfl), by rw [show wh = 1 from by omega, ds_2 (by omega) (bI_n0.mp (by assumption)), hI4]; (first | rw [show decide (hw = 1) = true from decide_eq_true (by omega), show decide (hw = 2) = false from decide_eq_false (by omega), if_neg (show ¬ hw = 2 by omega)] | rw [show decide (hw = 1) = false from decide_eq_false (by omega), show decide (hw = 2) = false from decide_eq_false (by omega), if_neg (show ¬ hw = 2 by omega)] | rw [show decide (hw = 1) = false from decide_eq_false (by omega), show decide (hw = 2) = true from decide_eq_true (by omega), if_pos (show hw = 2 by omega)]); (first | done | rfl)⟩)
        · show AW X 0 0 39 [some (.ref 44), some (.int (nI wh)), some (.int (nI x)), some (.int (nI hw)), some (.int 0)] [] T I2 J2 R
          refine aw_iconst (v := 0) hC dX12_does_39 (by decide) ?_
          exact aw_zreturn hC hq rfl (Or.inl rfl) dX12_does_40 a_le a_le ⟨_, rfl, rfl, rfl, I2, hCm, by rw [show wh = 1 from by omega, ds_1 (by first | exact Or.inl (by omega) | exact Or.inr (bI_e0.mp (by assumption)))]; rfl, by rw [show wh = 1 from by omega, ds_1 (by first | exact Or.inl (by omega) | exact Or.inr (bI_e0.mp (by assumption)))]⟩
  · show AW X 0 0 9 [some (.ref 44), some (.int (nI wh)), some (.int (nI x)), some (.int (nI hw)), none] [] T I2 J2 R
    have h1n : ¬ hw = 2 := fun q9 => h1 ((nI_eq (a := hw) (b := 2) (by omega) (by omega)).mpr q9)
    refine aw_iconst (v := 1) hC dX12_does_9 (by decide) ?_
    refine aw_goto (tgt := 14) hC dX12_does_10 (by decide) ?_
    refine aw_istore (L2 := [some (.ref 44), some (.int (nI wh)), some (.int (nI x)), some (.int (nI hw)), some (.int 1)]) hC dX12_does_14 (by decide) rfl ?_
    refine aw_iload_n hC dX12_does_16 rfl ?_
    refine aw_iconst (v := 1) hC dX12_does_17 (by decide) ?_
    refine aw_icmp_ne (tgt := 88) hC dX12_does_18 (by decide) (fun h37 => ?_) (fun h37 => ?_)
    · show AW X 0 0 88 [some (.ref 44), some (.int (nI wh)), some (.int (nI x)), some (.int (nI hw)), some (.int 1)] [] T I2 J2 R
      have h37n : ¬ wh = 1 := fun q9 => h37 ((nI_eq (a := wh) (b := 1) (by omega) (by omega)).mpr q9)
      refine aw_iload_n hC dX12_does_88 rfl ?_
      refine aw_iconst (v := 1) hC dX12_does_89 (by decide) ?_
      refine aw_icmp_eq (tgt := 107) hC dX12_does_90 (by decide) (fun h38 => ?_) (fun h38 => ?_)
      · show AW X 0 0 107 [some (.ref 44), some (.int (nI wh)), some (.int (nI x)), some (.int (nI hw)), some (.int 1)] [] T I2 J2 R
        have h38n : hw = 1 := (nI_eq (a := hw) (b := 1) (by omega) (by omega)).mp h38
        refine aw_iconst (v := 0) hC dX12_does_107 (by decide) ?_
        exact aw_zreturn hC hq rfl (Or.inl rfl) dX12_does_108 a_le a_le ⟨_, rfl, rfl, rfl, I2, hCm, by rw [ds_3 (by omega) (by first | exact Or.inl (by omega) | exact Or.inr ⟨by omega, bI_e0.mp (by assumption)⟩)]; rfl, by rw [ds_3 (by omega) (by first | exact Or.inl (by omega) | exact Or.inr ⟨by omega, bI_e0.mp (by assumption)⟩)]⟩
      · show AW X 0 0 93 [some (.ref 44), some (.int (nI wh)), some (.int (nI x)), some (.int (nI hw)), some (.int 1)] [] T I2 J2 R
        have h38n : ¬ hw = 1 := fun q9 => h38 ((nI_eq (a := hw) (b := 1) (by omega) (by omega)).mpr q9)
        refine aw_iload_n hC dX12_does_93 rfl ?_
        refine aw_iconst (v := 2) hC dX12_does_94 (by decide) ?_
        refine aw_icmp_ne (tgt := 109) hC dX12_does_95 (by decide) (fun h39 => ?_) (fun h39 => ?_)
        · show AW X 0 0 109 [some (.ref 44), some (.int (nI wh)), some (.int (nI x)), some (.int (nI hw)), some (.int 1)] [] T I2 J2 R
          have h39n : ¬ wh = 2 := fun q9 => h39 ((nI_eq (a := wh) (b := 2) (by omega) (by omega)).mpr q9)
          refine aw_iload_n hC dX12_does_109 rfl ?_
          refine aw_iconst (v := 2) hC dX12_does_110 (by decide) ?_
          refine aw_icmp_ne (tgt := 124) hC dX12_does_111 (by decide) (fun h40 => ?_) (fun h40 => ?_)
          · show AW X 0 0 124 [some (.ref 44), some (.int (nI wh)), some (.int (nI x)), some (.int (nI hw)), some (.int 1)] [] T I2 J2 R
            have h40n : ¬ wh = 2 := fun q9 => h40 ((nI_eq (a := wh) (b := 2) (by omega) (by omega)).mpr q9)
            refine aw_iload_n hC dX12_does_124 rfl ?_
            refine aw_iconst (v := 3) hC dX12_does_125 (by decide) ?_
            refine aw_icmp_ne (tgt := 167) hC dX12_does_126 (by decide) (fun h41 => ?_) (fun h41 => ?_)
            · show AW X 0 0 167 [some (.ref 44), some (.int (nI wh)), some (.int (nI x)), some (.int (nI hw)), some (.int 1)] [] T I2 J2 R
              have h41n : ¬ wh = 3 := fun q9 => h41 ((nI_eq (a := wh) (b := 3) (by omega) (by omega)).mpr q9)
              refine aw_aload_n hC dX12_does_167 rfl ?_
              refine aw_getR hC dX12_does_168 aF_X12_129 rfl (tg_44 hT) (pr_44_47 hR) ?_
              refine aw_iload_n hC dX12_does_171 rfl ?_
              refine aw_iaload_k (j := x) hC dX12_does_172 (tg_82 hT) (nI_clamp (by omega)) (vp_in_nI (by omega) (by decide)) ?_
              have hb42 := hO2 x (by omega)
              rw [hb42.1]
              refine aw_if_le (tgt := 190) hC dX12_does_173 (by decide) (fun h43 => ?_) (fun h43 => ?_)
              · show AW X 0 0 190 [some (.ref 44), some (.int (nI wh)), some (.int (nI x)), some (.int (nI hw)), some (.int 1)] [] T I2 J2 R
                have h43n : (iN I2 82 x) ≤ 0 := (nI_leI (a := (iN I2 82 x)) (b := 0) (by omega) (by omega)).mp h43
                refine aw_aload_n hC dX12_does_190 rfl ?_
                refine aw_dup hC dX12_does_191 rfl ?_
                refine aw_getI hC dX12_does_192 aF_X12_343 rfl (tg_44 hT) ?_
                refine aw_iload hC dX12_does_195 rfl ?_
                refine aw_if_eq (tgt := 204) hC dX12_does_197 (by decide) (fun h44 => absurd h44 (by decide)) (fun _ => ?_)
                show AW X 0 0 200 [some (.ref 44), some (.int (nI wh)), some (.int (nI x)), some (.int (nI hw)), some (.int 1)] [.int (I2 44 35), .ref 44] T I2 J2 R
                refine aw_iconst (v := 1) hC dX12_does_200 (by decide) ?_
                refine aw_goto (tgt := 205) hC dX12_does_201 (by decide) ?_
                refine aw_iadd hC dX12_does_205 ?_
                refine aw_putI hC dX12_does_206 aF_X12_343 rfl rfl (tg_44 hT) ?_
                refine aw_iconst (v := 1) hC dX12_does_209 (by decide) ?_
                exact aw_zreturn hC hq rfl (Or.inr rfl) dX12_does_210 a_le a_le (by first | (exfalso; omega) | exact ⟨_, rfl, rfl, rfl, I2, hCm, by rw [ds_4 (by omega) (by omega) (by first | exact Or.inl (by omega) | exact Or.inr (bI_n0.mp (by assumption)))]; rfl, by rw [ds_4 (by omega) (by omega) (by first | exact Or.inl (by omega) | exact Or.inr (bI_n0.mp (by assumption)))]; rw [if_neg (show ¬ wh = 2 by omega), if_neg (show ¬ wh = 3 by omega), if_neg (by omega)]; (try rw [show decide (hw = 2) = false from decide_eq_false (by omega)]); (try rw [show decide (hw = 2) = true from decide_eq_true (by omega)]); (try rw [if_neg (show ¬ hw = 2 by omega)]); (try rw [if_neg (show ¬ hw = 2 by omega)]); (try rw [if_pos (show hw = 2 by omega)]); (try rw [if_pos (show hw = 2 by omega)]); (try rw [← hxe.1]); (first | done | rfl)⟩)
              · show AW X 0 0 176 [some (.ref 44), some (.int (nI wh)), some (.int (nI x)), some (.int (nI hw)), some (.int 1)] [] T I2 J2 R
                have h43n : ¬ (iN I2 82 x) ≤ 0 := fun q9 => h43 ((nI_leI (a := (iN I2 82 x)) (b := 0) (by omega) (by omega)).mpr q9)
                refine aw_aload_n hC dX12_does_176 rfl ?_
                refine aw_getR hC dX12_does_177 aF_X12_80 rfl (tg_44 hT) (pr_44_28 hR) ?_
                refine aw_aload_n hC dX12_does_180 rfl ?_
                refine aw_getR hC dX12_does_181 aF_X12_129 rfl (tg_44 hT) (pr_44_47 hR) ?_
                refine aw_iload_n hC dX12_does_184 rfl ?_
                refine aw_iaload_k (j := x) hC dX12_does_185 (tg_82 hT) (nI_clamp (by omega)) (vp_in_nI (by omega) (by decide)) ?_
                have hb45 := hO2 x (by omega)
                rw [hb45.1]
                refine aw_iconst (v := 1) hC dX12_does_186 (by decide) ?_
                refine aw_isub hC dX12_does_187 ?_
                rw [show (nI (iN I2 82 x)) - 1 = nI ((iN I2 82 x) - 1) from pk_sub (a := (iN I2 82 x)) (b := 1) (by omega)]
                refine aw_iconst (v := 1) hC dX12_does_188 (by decide) ?_
                refine aw_bastore_k (j := ((iN I2 82 x) - 1)) hC dX12_does_189 (tg_68 hT) (nI_clamp (by omega)) (vp_in_nI (by omega) (by decide)) (Or.inr rfl) ?_
                refine aw_aload_n hC dX12_does_190 rfl ?_
                refine aw_dup hC dX12_does_191 rfl ?_
                refine aw_getI hC dX12_does_192 aF_X12_343 rfl (tg_44 hT) ?_
                rw [a_u_ne (f := I2) (o := 68) (k := ((iN I2 82 x) - 1)) (a := 44) (b := 35) (v := 1) (fun q => absurd q.1 (by decide))]
                refine aw_iload hC dX12_does_195 rfl ?_
                refine aw_if_eq (tgt := 204) hC dX12_does_197 (by decide) (fun h46 => absurd h46 (by decide)) (fun _ => ?_)
                show AW X 0 0 200 [some (.ref 44), some (.int (nI wh)), some (.int (nI x)), some (.int (nI hw)), some (.int 1)] [.int (I2 44 35), .ref 44] T (a_u I2 68 ((iN I2 82 x) - 1) 1) J2 R
                refine aw_iconst (v := 1) hC dX12_does_200 (by decide) ?_
                refine aw_goto (tgt := 205) hC dX12_does_201 (by decide) ?_
                refine aw_iadd hC dX12_does_205 ?_
                refine aw_putI hC dX12_does_206 aF_X12_343 rfl rfl (tg_44 hT) ?_
                refine aw_iconst (v := 1) hC dX12_does_209 (by decide) ?_
                exact aw_zreturn hC hq rfl (Or.inr rfl) dX12_does_210 a_le a_le (by first | (exfalso; omega) | exact ⟨_, rfl, rfl, rfl, I2, hCm, by rw [ds_4 (by omega) (by omega) (by first | exact Or.inl (by omega) | exact Or.inr (bI_n0.mp (by assumption)))]; rfl, by rw [ds_4 (by omega) (by omega) (by first | exact Or.inl (by omega) | exact Or.inr (bI_n0.mp (by assumption)))]; rw [if_neg (show ¬ wh = 2 by omega), if_neg (show ¬ wh = 3 by omega), if_pos (by omega)]; (try rw [show decide (hw = 2) = false from decide_eq_false (by omega)]); (try rw [show decide (hw = 2) = true from decide_eq_true (by omega)]); (try rw [if_neg (show ¬ hw = 2 by omega)]); (try rw [if_neg (show ¬ hw = 2 by omega)]); (try rw [if_pos (show hw = 2 by omega)]); (try rw [if_pos (show hw = 2 by omega)]); (try rw [← hxe.1]); (first | done | rfl)⟩)
            · show AW X 0 0 129 [some (.ref 44), some (.int (nI wh)), some (.int (nI x)), some (.int (nI hw)), some (.int 1)] [] T I2 J2 R
              have h41n : wh = 3 := (nI_eq (a := wh) (b := 3) (by omega) (by omega)).mp h41
              refine aw_aload_n hC dX12_does_129 rfl ?_
              refine aw_getR hC dX12_does_130 aF_X12_80 rfl (tg_44 hT) (pr_44_28 hR) ?_
              refine aw_aload_n hC dX12_does_133 rfl ?_
              refine aw_getR hC dX12_does_134 aF_X12_83 rfl (tg_44 hT) (pr_44_29 hR) ?_
              refine aw_iload_n hC dX12_does_137 rfl ?_
              refine aw_iaload_k (j := x) hC dX12_does_138 (tg_69 hT) (nI_clamp (by omega)) (vp_in_nI (by omega) (by decide)) ?_
              have hb47 := hE2 x (by omega)
              rw [hb47.1]
              refine aw_iconst (v := 1) hC dX12_does_139 (by decide) ?_
              refine aw_isub hC dX12_does_140 ?_
              rw [show (nI (iN I2 69 x)) - 1 = nI ((iN I2 69 x) - 1) from pk_sub (a := (iN I2 69 x)) (b := 1) (by omega)]
              refine aw_iconst (v := 1) hC dX12_does_141 (by decide) ?_
              refine aw_bastore_k (j := ((iN I2 69 x) - 1)) hC dX12_does_142 (tg_68 hT) (nI_clamp (by omega)) (vp_in_nI (by omega) (by decide)) (Or.inr rfl) ?_
              refine aw_aload_n hC dX12_does_143 rfl ?_
              refine aw_getR hC dX12_does_144 aF_X12_83 rfl (tg_44 hT) (pr_44_29 hR) ?_
              refine aw_iload_n hC dX12_does_147 rfl ?_
              refine aw_iload hC dX12_does_148 rfl ?_
              refine aw_if_eq (tgt := 157) hC dX12_does_150 (by decide) (fun h48 => absurd h48 (by decide)) (fun _ => ?_)
              show AW X 0 0 153 [some (.ref 44), some (.int (nI wh)), some (.int (nI x)), some (.int (nI hw)), some (.int 1)] [.int (nI x), .ref 69] T (a_u I2 68 ((iN I2 69 x) - 1) 1) J2 R
              refine aw_iconst (v := 0) hC dX12_does_153 (by decide) ?_
              refine aw_goto (tgt := 163) hC dX12_does_154 (by decide) ?_
              refine aw_iastore_k (j := x) hC dX12_does_163 (tg_69 hT) (nI_clamp (by omega)) (vp_in_nI (by omega) (by decide)) ?_
              refine aw_goto (tgt := 190) hC dX12_does_164 (by decide) ?_
              refine aw_aload_n hC dX12_does_190 rfl ?_
              refine aw_dup hC dX12_does_191 rfl ?_
              refine aw_getI hC dX12_does_192 aF_X12_343 rfl (tg_44 hT) ?_
              rw [a_u_ne (f := a_u I2 68 ((iN I2 69 x) - 1) 1) (o := 69) (k := x) (a := 44) (b := 35) (v := 0) (fun q => absurd q.1 (by decide))]
              rw [a_u_ne (f := I2) (o := 68) (k := ((iN I2 69 x) - 1)) (a := 44) (b := 35) (v := 1) (fun q => absurd q.1 (by decide))]
              refine aw_iload hC dX12_does_195 rfl ?_
              refine aw_if_eq (tgt := 204) hC dX12_does_197 (by decide) (fun h49 => absurd h49 (by decide)) (fun _ => ?_)
              show AW X 0 0 200 [some (.ref 44), some (.int (nI wh)), some (.int (nI x)), some (.int (nI hw)), some (.int 1)] [.int (I2 44 35), .ref 44] T (a_u (a_u I2 68 ((iN I2 69 x) - 1) 1) 69 x 0) J2 R
              refine aw_iconst (v := 1) hC dX12_does_200 (by decide) ?_
              refine aw_goto (tgt := 205) hC dX12_does_201 (by decide) ?_
              refine aw_iadd hC dX12_does_205 ?_
              refine aw_putI hC dX12_does_206 aF_X12_343 rfl rfl (tg_44 hT) ?_
              refine aw_iconst (v := 1) hC dX12_does_209 (by decide) ?_
              exact aw_zreturn hC hq rfl (Or.inr rfl) dX12_does_210 a_le a_le (by first | (exfalso; omega) | exact ⟨_, rfl, rfl, rfl, I2, hCm, by rw [ds_4 (by omega) (by omega) (by first | exact Or.inl (by omega) | exact Or.inr (bI_n0.mp (by assumption)))]; rfl, by rw [ds_4 (by omega) (by omega) (by first | exact Or.inl (by omega) | exact Or.inr (bI_n0.mp (by assumption)))]; rw [if_neg (show ¬ wh = 2 by omega), if_pos (show wh = 3 by omega)]; (try rw [show decide (hw = 2) = false from decide_eq_false (by omega)]); (try rw [show decide (hw = 2) = true from decide_eq_true (by omega)]); (try rw [if_neg (show ¬ hw = 2 by omega)]); (try rw [if_neg (show ¬ hw = 2 by omega)]); (try rw [if_pos (show hw = 2 by omega)]); (try rw [if_pos (show hw = 2 by omega)]); (try rw [← hxe.1]); (first | done | rfl)⟩)
          · show AW X 0 0 114 [some (.ref 44), some (.int (nI wh)), some (.int (nI x)), some (.int (nI hw)), some (.int 1)] [] T I2 J2 R
            have h40n : wh = 2 := (nI_eq (a := wh) (b := 2) (by omega) (by omega)).mp h40
            refine aw_aload_n hC dX12_does_114 rfl ?_
            refine aw_iload_n hC dX12_does_115 rfl ?_
            refine aw_iload hC dX12_does_116 rfl ?_
            refine kX12_409 hC rfl (m_X12_changesNow (I := I2) (J := J2) hT hR (g := g) (x := x) (r := iN I2 69 x - 1) hg2 hx (by rw [hxe.1]; congr 1; have := hne2 (Or.inl (by omega)); omega) (by omega) true) dX12_does_118 (tg_44 hT) rfl a_le a_le a_le a_le a_le rfl aPure_x (aPure_k ?_)
            obtain ⟨I4, hI4⟩ : ∃ I4, I4 = chS I2 J2 x (iN I2 69 x - 1) true 3 := ⟨_, rfl⟩
            rw [← hI4]
            have h435 : I4 44 35 = I2 44 35 := by rw [hI4, chS_fr (by decide)]
            show AW X 0 0 121 [some (.ref 44), some (.int (nI wh)), some (.int (nI x)), some (.int (nI hw)), some (.int 1)] [] T I4 J2 R
            refine aw_goto (tgt := 190) hC dX12_does_121 (by decide) ?_
            refine aw_aload_n hC dX12_does_190 rfl ?_
            refine aw_dup hC dX12_does_191 rfl ?_
            refine aw_getI hC dX12_does_192 aF_X12_343 rfl (tg_44 hT) ?_
            rw [h435]
            refine aw_iload hC dX12_does_195 rfl ?_
            refine aw_if_eq (tgt := 204) hC dX12_does_197 (by decide) (fun h50 => absurd h50 (by decide)) (fun _ => ?_)
            show AW X 0 0 200 [some (.ref 44), some (.int (nI wh)), some (.int (nI x)), some (.int (nI hw)), some (.int 1)] [.int (I2 44 35), .ref 44] T I4 J2 R
            refine aw_iconst (v := 1) hC dX12_does_200 (by decide) ?_
            refine aw_goto (tgt := 205) hC dX12_does_201 (by decide) ?_
            refine aw_iadd hC dX12_does_205 ?_
            refine aw_putI hC dX12_does_206 aF_X12_343 rfl rfl (tg_44 hT) ?_
            refine aw_iconst (v := 1) hC dX12_does_209 (by decide) ?_
            exact aw_zreturn hC hq rfl (Or.inr rfl) dX12_does_210 a_le a_le (by first | (exfalso; omega) | exact ⟨_, rfl, rfl, rfl, I2, hCm, by rw [ds_4 (by omega) (by omega) (by first | exact Or.inl (by omega) | exact Or.inr (bI_n0.mp (by assumption)))]; rfl, by rw [ds_4 (by omega) (by omega) (by first | exact Or.inl (by omega) | exact Or.inr (bI_n0.mp (by assumption)))]; rw [if_pos (show wh = 2 by omega), hI4]; (try rw [show decide (hw = 2) = false from decide_eq_false (by omega)]); (try rw [show decide (hw = 2) = true from decide_eq_true (by omega)]); (try rw [if_neg (show ¬ hw = 2 by omega)]); (try rw [if_neg (show ¬ hw = 2 by omega)]); (try rw [if_pos (show hw = 2 by omega)]); (try rw [if_pos (show hw = 2 by omega)]); (try rw [← hxe.1]); (first | done | rfl)⟩)
        · show AW X 0 0 98 [some (.ref 44), some (.int (nI wh)), some (.int (nI x)), some (.int (nI hw)), some (.int 1)] [] T I2 J2 R
          have h39n : wh = 2 := (nI_eq (a := wh) (b := 2) (by omega) (by omega)).mp h39
          refine aw_aload_n hC dX12_does_98 rfl ?_
          refine aw_iload_n hC dX12_does_99 rfl ?_
          refine aw_iconst (v := 0) hC dX12_does_100 (by decide) ?_
          refine kX12_401 hC rfl (m_X12_canGive (I := I2) (J := J2) hT hR (g := g) (x := x) hg2 hx false) dX12_does_101 (tg_44 hT) rfl a_le a_le a_le a_le a_le rfl aPure_x (aPure_k ?_)
          show AW X 0 0 104 [some (.ref 44), some (.int (nI wh)), some (.int (nI x)), some (.int (nI hw)), some (.int 1)] [.int (bI (allB (cgS I2 J2 x false) 3))] T I2 J2 R
          refine aw_if_ne (tgt := 109) hC dX12_does_104 (by decide) (fun h51 => ?_) (fun h51 => ?_)
          · show AW X 0 0 109 [some (.ref 44), some (.int (nI wh)), some (.int (nI x)), some (.int (nI hw)), some (.int 1)] [] T I2 J2 R
            refine aw_iload_n hC dX12_does_109 rfl ?_
            refine aw_iconst (v := 2) hC dX12_does_110 (by decide) ?_
            refine aw_icmp_ne (tgt := 124) hC dX12_does_111 (by decide) (fun h52 => ?_) (fun h52 => ?_)
            · show AW X 0 0 124 [some (.ref 44), some (.int (nI wh)), some (.int (nI x)), some (.int (nI hw)), some (.int 1)] [] T I2 J2 R
              have h52n : ¬ wh = 2 := fun q9 => h52 ((nI_eq (a := wh) (b := 2) (by omega) (by omega)).mpr q9)
              refine aw_iload_n hC dX12_does_124 rfl ?_
              refine aw_iconst (v := 3) hC dX12_does_125 (by decide) ?_
              refine aw_icmp_ne (tgt := 167) hC dX12_does_126 (by decide) (fun h53 => ?_) (fun h53 => ?_)
              · show AW X 0 0 167 [some (.ref 44), some (.int (nI wh)), some (.int (nI x)), some (.int (nI hw)), some (.int 1)] [] T I2 J2 R
                have h53n : ¬ wh = 3 := fun q9 => h53 ((nI_eq (a := wh) (b := 3) (by omega) (by omega)).mpr q9)
                refine aw_aload_n hC dX12_does_167 rfl ?_
                refine aw_getR hC dX12_does_168 aF_X12_129 rfl (tg_44 hT) (pr_44_47 hR) ?_
                refine aw_iload_n hC dX12_does_171 rfl ?_
                refine aw_iaload_k (j := x) hC dX12_does_172 (tg_82 hT) (nI_clamp (by omega)) (vp_in_nI (by omega) (by decide)) ?_
                have hb54 := hO2 x (by omega)
                rw [hb54.1]
                refine aw_if_le (tgt := 190) hC dX12_does_173 (by decide) (fun h55 => ?_) (fun h55 => ?_)
                · show AW X 0 0 190 [some (.ref 44), some (.int (nI wh)), some (.int (nI x)), some (.int (nI hw)), some (.int 1)] [] T I2 J2 R
                  have h55n : (iN I2 82 x) ≤ 0 := (nI_leI (a := (iN I2 82 x)) (b := 0) (by omega) (by omega)).mp h55
                  refine aw_aload_n hC dX12_does_190 rfl ?_
                  refine aw_dup hC dX12_does_191 rfl ?_
                  refine aw_getI hC dX12_does_192 aF_X12_343 rfl (tg_44 hT) ?_
                  refine aw_iload hC dX12_does_195 rfl ?_
                  refine aw_if_eq (tgt := 204) hC dX12_does_197 (by decide) (fun h56 => absurd h56 (by decide)) (fun _ => ?_)
                  show AW X 0 0 200 [some (.ref 44), some (.int (nI wh)), some (.int (nI x)), some (.int (nI hw)), some (.int 1)] [.int (I2 44 35), .ref 44] T I2 J2 R
                  refine aw_iconst (v := 1) hC dX12_does_200 (by decide) ?_
                  refine aw_goto (tgt := 205) hC dX12_does_201 (by decide) ?_
                  refine aw_iadd hC dX12_does_205 ?_
                  refine aw_putI hC dX12_does_206 aF_X12_343 rfl rfl (tg_44 hT) ?_
                  refine aw_iconst (v := 1) hC dX12_does_209 (by decide) ?_
                  exact aw_zreturn hC hq rfl (Or.inr rfl) dX12_does_210 a_le a_le (by first | (exfalso; omega) | exact ⟨_, rfl, rfl, rfl, I2, hCm, by rw [ds_4 (by omega) (by omega) (by first | exact Or.inl (by omega) | exact Or.inr (bI_n0.mp (by assumption)))]; rfl, by rw [ds_4 (by omega) (by omega) (by first | exact Or.inl (by omega) | exact Or.inr (bI_n0.mp (by assumption)))]; rw [if_neg (show ¬ wh = 2 by omega), if_neg (show ¬ wh = 3 by omega), if_neg (by omega)]; (try rw [show decide (hw = 2) = false from decide_eq_false (by omega)]); (try rw [show decide (hw = 2) = true from decide_eq_true (by omega)]); (try rw [if_neg (show ¬ hw = 2 by omega)]); (try rw [if_neg (show ¬ hw = 2 by omega)]); (try rw [if_pos (show hw = 2 by omega)]); (try rw [if_pos (show hw = 2 by omega)]); (try rw [← hxe.1]); (first | done | rfl)⟩)
                · show AW X 0 0 176 [some (.ref 44), some (.int (nI wh)), some (.int (nI x)), some (.int (nI hw)), some (.int 1)] [] T I2 J2 R
                  have h55n : ¬ (iN I2 82 x) ≤ 0 := fun q9 => h55 ((nI_leI (a := (iN I2 82 x)) (b := 0) (by omega) (by omega)).mpr q9)
                  refine aw_aload_n hC dX12_does_176 rfl ?_
                  refine aw_getR hC dX12_does_177 aF_X12_80 rfl (tg_44 hT) (pr_44_28 hR) ?_
                  refine aw_aload_n hC dX12_does_180 rfl ?_
                  refine aw_getR hC dX12_does_181 aF_X12_129 rfl (tg_44 hT) (pr_44_47 hR) ?_
                  refine aw_iload_n hC dX12_does_184 rfl ?_
                  refine aw_iaload_k (j := x) hC dX12_does_185 (tg_82 hT) (nI_clamp (by omega)) (vp_in_nI (by omega) (by decide)) ?_
                  have hb57 := hO2 x (by omega)
                  rw [hb57.1]
                  refine aw_iconst (v := 1) hC dX12_does_186 (by decide) ?_
                  refine aw_isub hC dX12_does_187 ?_
                  rw [show (nI (iN I2 82 x)) - 1 = nI ((iN I2 82 x) - 1) from pk_sub (a := (iN I2 82 x)) (b := 1) (by omega)]
                  refine aw_iconst (v := 1) hC dX12_does_188 (by decide) ?_
                  refine aw_bastore_k (j := ((iN I2 82 x) - 1)) hC dX12_does_189 (tg_68 hT) (nI_clamp (by omega)) (vp_in_nI (by omega) (by decide)) (Or.inr rfl) ?_
                  refine aw_aload_n hC dX12_does_190 rfl ?_
                  refine aw_dup hC dX12_does_191 rfl ?_
                  refine aw_getI hC dX12_does_192 aF_X12_343 rfl (tg_44 hT) ?_
                  rw [a_u_ne (f := I2) (o := 68) (k := ((iN I2 82 x) - 1)) (a := 44) (b := 35) (v := 1) (fun q => absurd q.1 (by decide))]
                  refine aw_iload hC dX12_does_195 rfl ?_
                  refine aw_if_eq (tgt := 204) hC dX12_does_197 (by decide) (fun h58 => absurd h58 (by decide)) (fun _ => ?_)
                  show AW X 0 0 200 [some (.ref 44), some (.int (nI wh)), some (.int (nI x)), some (.int (nI hw)), some (.int 1)] [.int (I2 44 35), .ref 44] T (a_u I2 68 ((iN I2 82 x) - 1) 1) J2 R
                  refine aw_iconst (v := 1) hC dX12_does_200 (by decide) ?_
                  refine aw_goto (tgt := 205) hC dX12_does_201 (by decide) ?_
                  refine aw_iadd hC dX12_does_205 ?_
                  refine aw_putI hC dX12_does_206 aF_X12_343 rfl rfl (tg_44 hT) ?_
                  refine aw_iconst (v := 1) hC dX12_does_209 (by decide) ?_
                  exact aw_zreturn hC hq rfl (Or.inr rfl) dX12_does_210 a_le a_le (by first | (exfalso; omega) | exact ⟨_, rfl, rfl, rfl, I2, hCm, by rw [ds_4 (by omega) (by omega) (by first | exact Or.inl (by omega) | exact Or.inr (bI_n0.mp (by assumption)))]; rfl, by rw [ds_4 (by omega) (by omega) (by first | exact Or.inl (by omega) | exact Or.inr (bI_n0.mp (by assumption)))]; rw [if_neg (show ¬ wh = 2 by omega), if_neg (show ¬ wh = 3 by omega), if_pos (by omega)]; (try rw [show decide (hw = 2) = false from decide_eq_false (by omega)]); (try rw [show decide (hw = 2) = true from decide_eq_true (by omega)]); (try rw [if_neg (show ¬ hw = 2 by omega)]); (try rw [if_neg (show ¬ hw = 2 by omega)]); (try rw [if_pos (show hw = 2 by omega)]); (try rw [if_pos (show hw = 2 by omega)]); (try rw [← hxe.1]); (first | done | rfl)⟩)
              · show AW X 0 0 129 [some (.ref 44), some (.int (nI wh)), some (.int (nI x)), some (.int (nI hw)), some (.int 1)] [] T I2 J2 R
                have h53n : wh = 3 := (nI_eq (a := wh) (b := 3) (by omega) (by omega)).mp h53
                refine aw_aload_n hC dX12_does_129 rfl ?_
                refine aw_getR hC dX12_does_130 aF_X12_80 rfl (tg_44 hT) (pr_44_28 hR) ?_
                refine aw_aload_n hC dX12_does_133 rfl ?_
                refine aw_getR hC dX12_does_134 aF_X12_83 rfl (tg_44 hT) (pr_44_29 hR) ?_
                refine aw_iload_n hC dX12_does_137 rfl ?_
                refine aw_iaload_k (j := x) hC dX12_does_138 (tg_69 hT) (nI_clamp (by omega)) (vp_in_nI (by omega) (by decide)) ?_
                have hb59 := hE2 x (by omega)
                rw [hb59.1]
                refine aw_iconst (v := 1) hC dX12_does_139 (by decide) ?_
                refine aw_isub hC dX12_does_140 ?_
                rw [show (nI (iN I2 69 x)) - 1 = nI ((iN I2 69 x) - 1) from pk_sub (a := (iN I2 69 x)) (b := 1) (by omega)]
                refine aw_iconst (v := 1) hC dX12_does_141 (by decide) ?_
                refine aw_bastore_k (j := ((iN I2 69 x) - 1)) hC dX12_does_142 (tg_68 hT) (nI_clamp (by omega)) (vp_in_nI (by omega) (by decide)) (Or.inr rfl) ?_
                refine aw_aload_n hC dX12_does_143 rfl ?_
                refine aw_getR hC dX12_does_144 aF_X12_83 rfl (tg_44 hT) (pr_44_29 hR) ?_
                refine aw_iload_n hC dX12_does_147 rfl ?_
                refine aw_iload hC dX12_does_148 rfl ?_
                refine aw_if_eq (tgt := 157) hC dX12_does_150 (by decide) (fun h60 => absurd h60 (by decide)) (fun _ => ?_)
                show AW X 0 0 153 [some (.ref 44), some (.int (nI wh)), some (.int (nI x)), some (.int (nI hw)), some (.int 1)] [.int (nI x), .ref 69] T (a_u I2 68 ((iN I2 69 x) - 1) 1) J2 R
                refine aw_iconst (v := 0) hC dX12_does_153 (by decide) ?_
                refine aw_goto (tgt := 163) hC dX12_does_154 (by decide) ?_
                refine aw_iastore_k (j := x) hC dX12_does_163 (tg_69 hT) (nI_clamp (by omega)) (vp_in_nI (by omega) (by decide)) ?_
                refine aw_goto (tgt := 190) hC dX12_does_164 (by decide) ?_
                refine aw_aload_n hC dX12_does_190 rfl ?_
                refine aw_dup hC dX12_does_191 rfl ?_
                refine aw_getI hC dX12_does_192 aF_X12_343 rfl (tg_44 hT) ?_
                rw [a_u_ne (f := a_u I2 68 ((iN I2 69 x) - 1) 1) (o := 69) (k := x) (a := 44) (b := 35) (v := 0) (fun q => absurd q.1 (by decide))]
                rw [a_u_ne (f := I2) (o := 68) (k := ((iN I2 69 x) - 1)) (a := 44) (b := 35) (v := 1) (fun q => absurd q.1 (by decide))]
                refine aw_iload hC dX12_does_195 rfl ?_
                refine aw_if_eq (tgt := 204) hC dX12_does_197 (by decide) (fun h61 => absurd h61 (by decide)) (fun _ => ?_)
                show AW X 0 0 200 [some (.ref 44), some (.int (nI wh)), some (.int (nI x)), some (.int (nI hw)), some (.int 1)] [.int (I2 44 35), .ref 44] T (a_u (a_u I2 68 ((iN I2 69 x) - 1) 1) 69 x 0) J2 R
                refine aw_iconst (v := 1) hC dX12_does_200 (by decide) ?_
                refine aw_goto (tgt := 205) hC dX12_does_201 (by decide) ?_
                refine aw_iadd hC dX12_does_205 ?_
                refine aw_putI hC dX12_does_206 aF_X12_343 rfl rfl (tg_44 hT) ?_
                refine aw_iconst (v := 1) hC dX12_does_209 (by decide) ?_
                exact aw_zreturn hC hq rfl (Or.inr rfl) dX12_does_210 a_le a_le (by first | (exfalso; omega) | exact ⟨_, rfl, rfl, rfl, I2, hCm, by rw [ds_4 (by omega) (by omega) (by first | exact Or.inl (by omega) | exact Or.inr (bI_n0.mp (by assumption)))]; rfl, by rw [ds_4 (by omega) (by omega) (by first | exact Or.inl (by omega) | exact Or.inr (bI_n0.mp (by assumption)))]; rw [if_neg (show ¬ wh = 2 by omega), if_pos (show wh = 3 by omega)]; (try rw [show decide (hw = 2) = false from decide_eq_false (by omega)]); (try rw [show decide (hw = 2) = true from decide_eq_true (by omega)]); (try rw [if_neg (show ¬ hw = 2 by omega)]); (try rw [if_neg (show ¬ hw = 2 by omega)]); (try rw [if_pos (show hw = 2 by omega)]); (try rw [if_pos (show hw = 2 by omega)]); (try rw [← hxe.1]); (first | done | rfl)⟩)
            · show AW X 0 0 114 [some (.ref 44), some (.int (nI wh)), some (.int (nI x)), some (.int (nI hw)), some (.int 1)] [] T I2 J2 R
              have h52n : wh = 2 := (nI_eq (a := wh) (b := 2) (by omega) (by omega)).mp h52
              refine aw_aload_n hC dX12_does_114 rfl ?_
              refine aw_iload_n hC dX12_does_115 rfl ?_
              refine aw_iload hC dX12_does_116 rfl ?_
              refine kX12_409 hC rfl (m_X12_changesNow (I := I2) (J := J2) hT hR (g := g) (x := x) (r := iN I2 69 x - 1) hg2 hx (by rw [hxe.1]; congr 1; have := hne2 (Or.inl (by omega)); omega) (by omega) true) dX12_does_118 (tg_44 hT) rfl a_le a_le a_le a_le a_le rfl aPure_x (aPure_k ?_)
              obtain ⟨I4, hI4⟩ : ∃ I4, I4 = chS I2 J2 x (iN I2 69 x - 1) true 3 := ⟨_, rfl⟩
              rw [← hI4]
              have h435 : I4 44 35 = I2 44 35 := by rw [hI4, chS_fr (by decide)]
              show AW X 0 0 121 [some (.ref 44), some (.int (nI wh)), some (.int (nI x)), some (.int (nI hw)), some (.int 1)] [] T I4 J2 R
              refine aw_goto (tgt := 190) hC dX12_does_121 (by decide) ?_
              refine aw_aload_n hC dX12_does_190 rfl ?_
              refine aw_dup hC dX12_does_191 rfl ?_
              refine aw_getI hC dX12_does_192 aF_X12_343 rfl (tg_44 hT) ?_
              rw [h435]
              refine aw_iload hC dX12_does_195 rfl ?_
              refine aw_if_eq (tgt := 204) hC dX12_does_197 (by decide) (fun h62 => absurd h62 (by decide)) (fun _ => ?_)
              show AW X 0 0 200 [some (.ref 44), some (.int (nI wh)), some (.int (nI x)), some (.int (nI hw)), some (.int 1)] [.int (I2 44 35), .ref 44] T I4 J2 R
              refine aw_iconst (v := 1) hC dX12_does_200 (by decide) ?_
              refine aw_goto (tgt := 205) hC dX12_does_201 (by decide) ?_
              refine aw_iadd hC dX12_does_205 ?_
              refine aw_putI hC dX12_does_206 aF_X12_343 rfl rfl (tg_44 hT) ?_
              refine aw_iconst (v := 1) hC dX12_does_209 (by decide) ?_
              exact aw_zreturn hC hq rfl (Or.inr rfl) dX12_does_210 a_le a_le (by first | (exfalso; omega) | exact ⟨_, rfl, rfl, rfl, I2, hCm, by rw [ds_4 (by omega) (by omega) (by first | exact Or.inl (by omega) | exact Or.inr (bI_n0.mp (by assumption)))]; rfl, by rw [ds_4 (by omega) (by omega) (by first | exact Or.inl (by omega) | exact Or.inr (bI_n0.mp (by assumption)))]; rw [if_pos (show wh = 2 by omega), hI4]; (try rw [show decide (hw = 2) = false from decide_eq_false (by omega)]); (try rw [show decide (hw = 2) = true from decide_eq_true (by omega)]); (try rw [if_neg (show ¬ hw = 2 by omega)]); (try rw [if_neg (show ¬ hw = 2 by omega)]); (try rw [if_pos (show hw = 2 by omega)]); (try rw [if_pos (show hw = 2 by omega)]); (try rw [← hxe.1]); (first | done | rfl)⟩)
          · show AW X 0 0 107 [some (.ref 44), some (.int (nI wh)), some (.int (nI x)), some (.int (nI hw)), some (.int 1)] [] T I2 J2 R
            refine aw_iconst (v := 0) hC dX12_does_107 (by decide) ?_
            exact aw_zreturn hC hq rfl (Or.inl rfl) dX12_does_108 a_le a_le ⟨_, rfl, rfl, rfl, I2, hCm, by rw [ds_3 (by omega) (by first | exact Or.inl (by omega) | exact Or.inr ⟨by omega, bI_e0.mp (by assumption)⟩)]; rfl, by rw [ds_3 (by omega) (by first | exact Or.inl (by omega) | exact Or.inr ⟨by omega, bI_e0.mp (by assumption)⟩)]⟩
    · show AW X 0 0 21 [some (.ref 44), some (.int (nI wh)), some (.int (nI x)), some (.int (nI hw)), some (.int 1)] [] T I2 J2 R
      have h37n : wh = 1 := (nI_eq (a := wh) (b := 1) (by omega) (by omega)).mp h37
      refine aw_aload_n hC dX12_does_21 rfl ?_
      refine aw_getI hC dX12_does_22 aF_X12_315 rfl (tg_44 hT) ?_
      rw [hr2]
      refine aw_bipush (v := 60) hC dX12_does_25 (by decide) ?_
      refine aw_icmp_eq (tgt := 39) hC dX12_does_27 (by decide) (fun h63 => ?_) (fun h63 => ?_)
      · show AW X 0 0 39 [some (.ref 44), some (.int (nI wh)), some (.int (nI x)), some (.int (nI hw)), some (.int 1)] [] T I2 J2 R
        have h63n : r = 60 := (nI_eq (a := r) (b := 60) (by omega) (by omega)).mp h63
        refine aw_iconst (v := 0) hC dX12_does_39 (by decide) ?_
        exact aw_zreturn hC hq rfl (Or.inl rfl) dX12_does_40 a_le a_le ⟨_, rfl, rfl, rfl, I2, hCm, by rw [show wh = 1 from by omega, ds_1 (by first | exact Or.inl (by omega) | exact Or.inr (bI_e0.mp (by assumption)))]; rfl, by rw [show wh = 1 from by omega, ds_1 (by first | exact Or.inl (by omega) | exact Or.inr (bI_e0.mp (by assumption)))]⟩
      · show AW X 0 0 30 [some (.ref 44), some (.int (nI wh)), some (.int (nI x)), some (.int (nI hw)), some (.int 1)] [] T I2 J2 R
        have h63n : ¬ r = 60 := fun q9 => h63 ((nI_eq (a := r) (b := 60) (by omega) (by omega)).mpr q9)
        refine aw_aload_n hC dX12_does_30 rfl ?_
        refine aw_iload_n hC dX12_does_31 rfl ?_
        refine aw_iconst (v := 1) hC dX12_does_32 (by decide) ?_
        refine kX12_401 hC rfl (m_X12_canGive (I := I2) (J := J2) hT hR (g := g) (x := x) hg2 hx true) dX12_does_33 (tg_44 hT) rfl a_le a_le a_le a_le a_le rfl aPure_x (aPure_k ?_)
        show AW X 0 0 36 [some (.ref 44), some (.int (nI wh)), some (.int (nI x)), some (.int (nI hw)), some (.int 1)] [.int (bI (allB (cgS I2 J2 x true) 3))] T I2 J2 R
        refine aw_if_ne (tgt := 41) hC dX12_does_36 (by decide) (fun h64 => ?_) (fun h64 => ?_)
        · show AW X 0 0 41 [some (.ref 44), some (.int (nI wh)), some (.int (nI x)), some (.int (nI hw)), some (.int 1)] [] T I2 J2 R
          refine aw_aload_n hC dX12_does_41 rfl ?_
          refine aw_iload_n hC dX12_does_42 rfl ?_
          refine aw_iload hC dX12_does_43 rfl ?_
          refine aw_iload_n hC dX12_does_45 rfl ?_
          refine aw_iconst (v := 1) hC dX12_does_46 (by decide) ?_
          refine aw_icmp_ne (tgt := 54) hC dX12_does_47 (by decide) (fun h65 => ?_) (fun h65 => ?_)
          · show AW X 0 0 54 [some (.ref 44), some (.int (nI wh)), some (.int (nI x)), some (.int (nI hw)), some (.int 1)] [.int 1, .int (nI x), .ref 44] T I2 J2 R
            have h65n : ¬ hw = 1 := fun q9 => h65 ((nI_eq (a := hw) (b := 1) (by omega) (by omega)).mpr q9)
            refine aw_iconst (v := 0) hC dX12_does_54 (by decide) ?_
            refine kX12_405 hC rfl (m_X12_makes (I := I2) (J := J2) hT hR (g := g) (x := x) (r := r) hg2 hx hr2 (by omega) hmd2 true false) dX12_does_55 (tg_44 hT) rfl a_le a_le a_le a_le a_le rfl aPure_x (aPure_k ?_)
            obtain ⟨I4, hI4⟩ : ∃ I4, I4 = mkS I2 J2 x r true false := ⟨_, rfl⟩
            rw [← hI4]
            have h435 : I4 44 35 = I2 44 35 := by rw [hI4]; exact mkS_35
            show AW X 0 0 58 [some (.ref 44), some (.int (nI wh)), some (.int (nI x)), some (.int (nI hw)), some (.int 1)] [] T I4 J2 R
            refine aw_aload_n hC dX12_does_58 rfl ?_
            refine aw_dup hC dX12_does_59 rfl ?_
            refine aw_getI hC dX12_does_60 aF_X12_343 rfl (tg_44 hT) ?_
            rw [h435]
            refine aw_iload hC dX12_does_63 rfl ?_
            refine aw_if_eq (tgt := 72) hC dX12_does_65 (by decide) (fun h66 => absurd h66 (by decide)) (fun _ => ?_)
            show AW X 0 0 68 [some (.ref 44), some (.int (nI wh)), some (.int (nI x)), some (.int (nI hw)), some (.int 1)] [.int (I2 44 35), .ref 44] T I4 J2 R
            refine aw_iconst (v := 1) hC dX12_does_68 (by decide) ?_
            refine aw_goto (tgt := 73) hC dX12_does_69 (by decide) ?_
            refine aw_iadd hC dX12_does_73 ?_
            refine aw_putI hC dX12_does_74 aF_X12_343 rfl rfl (tg_44 hT) ?_
            refine aw_iload_n hC dX12_does_77 rfl ?_
            refine aw_iconst (v := 1) hC dX12_does_78 (by decide) ?_
            refine aw_icmp_eq (tgt := 86) hC dX12_does_79 (by decide) (fun h67 => ?_) (fun h67 => ?_)
            · show AW X 0 0 86 [some (.ref 44), some (.int (nI wh)), some (.int (nI x)), some (.int (nI hw)), some (.int 1)] [] T (a_u I4 44 35 ((I2 44 35) + 1)) J2 R
              have h67n : hw = 1 := (nI_eq (a := hw) (b := 1) (by omega) (by omega)).mp h67
              refine aw_iconst (v := 0) hC dX12_does_86 (by decide) ?_
              exact aw_zreturn hC hq rfl (Or.inl rfl) dX12_does_87 a_le a_le (by first | (exfalso; omega) | exact ⟨_, rfl, rfl, rfl, I2, hCm, by rw [show wh = 1 from by omega, ds_2 (by omega) (bI_n0.mp (by assumption))]; first | (rw [show decide (hw = 1) = true from decide_eq_true (by omega)]; rfl) | (rw [show decide (hw = 1) = false from decide_eq_false (by omega)]; rfl), by rw [show wh = 1 from by omega, ds_2 (by omega) (bI_n0.mp (by assumption)), hI4]; (first | rw [show decide (hw = 1) = true from decide_eq_true (by omega), show decide (hw = 2) = false from decide_eq_false (by omega), if_neg (show ¬ hw = 2 by omega)] | rw [show decide (hw = 1) = false from decide_eq_false (by omega), show decide (hw = 2) = false from decide_eq_false (by omega), if_neg (show ¬ hw = 2 by omega)] | rw [show decide (hw = 1) = false from decide_eq_false (by omega), show decide (hw = 2) = true from decide_eq_true (by omega), if_pos (show hw = 2 by omega)]); (first | done | rfl)⟩)
            · show AW X 0 0 82 [some (.ref 44), some (.int (nI wh)), some (.int (nI x)), some (.int (nI hw)), some (.int 1)] [] T (a_u I4 44 35 ((I2 44 35) + 1)) J2 R
              have h67n : ¬ hw = 1 := fun q9 => h67 ((nI_eq (a := hw) (b := 1) (by omega) (by omega)).mpr q9)
              refine aw_iconst (v := 1) hC dX12_does_82 (by decide) ?_
              refine aw_goto (tgt := 87) hC dX12_does_83 (by decide) ?_
              exact aw_zreturn hC hq rfl (Or.inr rfl) dX12_does_87 a_le a_le (by first | (exfalso; omega) | exact ⟨_, rfl, rfl, rfl, I2, hCm, by rw [show wh = 1 from by omega, ds_2 (by omega) (bI_n0.mp (by assumption))]; first | (rw [show decide (hw = 1) = true from decide_eq_true (by omega)]; rfl) | (rw [show decide (hw = 1) = false from decide_eq_false (by omega)]; rfl), by rw [show wh = 1 from by omega, ds_2 (by omega) (bI_n0.mp (by assumption)), hI4]; (first | rw [show decide (hw = 1) = true from decide_eq_true (by omega), show decide (hw = 2) = false from decide_eq_false (by omega), if_neg (show ¬ hw = 2 by omega)] | rw [show decide (hw = 1) = false from decide_eq_false (by omega), show decide (hw = 2) = false from decide_eq_false (by omega), if_neg (show ¬ hw = 2 by omega)] | rw [show decide (hw = 1) = false from decide_eq_false (by omega), show decide (hw = 2) = true from decide_eq_true (by omega), if_pos (show hw = 2 by omega)]); (first | done | rfl)⟩)
          · show AW X 0 0 50 [some (.ref 44), some (.int (nI wh)), some (.int (nI x)), some (.int (nI hw)), some (.int 1)] [.int 1, .int (nI x), .ref 44] T I2 J2 R
            have h65n : hw = 1 := (nI_eq (a := hw) (b := 1) (by omega) (by omega)).mp h65
            refine aw_iconst (v := 1) hC dX12_does_50 (by decide) ?_
            refine aw_goto (tgt := 55) hC dX12_does_51 (by decide) ?_
            refine kX12_405 hC rfl (m_X12_makes (I := I2) (J := J2) hT hR (g := g) (x := x) (r := r) hg2 hx hr2 (by omega) hmd2 true true) dX12_does_55 (tg_44 hT) rfl a_le a_le a_le a_le a_le rfl aPure_x (aPure_k ?_)
            obtain ⟨I4, hI4⟩ : ∃ I4, I4 = mkS I2 J2 x r true true := ⟨_, rfl⟩
            rw [← hI4]
            have h435 : I4 44 35 = I2 44 35 := by rw [hI4]; exact mkS_35
            show AW X 0 0 58 [some (.ref 44), some (.int (nI wh)), some (.int (nI x)), some (.int (nI hw)), some (.int 1)] [] T I4 J2 R
            refine aw_aload_n hC dX12_does_58 rfl ?_
            refine aw_dup hC dX12_does_59 rfl ?_
            refine aw_getI hC dX12_does_60 aF_X12_343 rfl (tg_44 hT) ?_
            rw [h435]
            refine aw_iload hC dX12_does_63 rfl ?_
            refine aw_if_eq (tgt := 72) hC dX12_does_65 (by decide) (fun h68 => absurd h68 (by decide)) (fun _ => ?_)
            show AW X 0 0 68 [some (.ref 44), some (.int (nI wh)), some (.int (nI x)), some (.int (nI hw)), some (.int 1)] [.int (I2 44 35), .ref 44] T I4 J2 R
            refine aw_iconst (v := 1) hC dX12_does_68 (by decide) ?_
            refine aw_goto (tgt := 73) hC dX12_does_69 (by decide) ?_
            refine aw_iadd hC dX12_does_73 ?_
            refine aw_putI hC dX12_does_74 aF_X12_343 rfl rfl (tg_44 hT) ?_
            refine aw_iload_n hC dX12_does_77 rfl ?_
            refine aw_iconst (v := 1) hC dX12_does_78 (by decide) ?_
            refine aw_icmp_eq (tgt := 86) hC dX12_does_79 (by decide) (fun h69 => ?_) (fun h69 => ?_)
            · show AW X 0 0 86 [some (.ref 44), some (.int (nI wh)), some (.int (nI x)), some (.int (nI hw)), some (.int 1)] [] T (a_u I4 44 35 ((I2 44 35) + 1)) J2 R
              have h69n : hw = 1 := (nI_eq (a := hw) (b := 1) (by omega) (by omega)).mp h69
              refine aw_iconst (v := 0) hC dX12_does_86 (by decide) ?_
              exact aw_zreturn hC hq rfl (Or.inl rfl) dX12_does_87 a_le a_le (by first | (exfalso; omega) | exact ⟨_, rfl, rfl, rfl, I2, hCm, by rw [show wh = 1 from by omega, ds_2 (by omega) (bI_n0.mp (by assumption))]; first | (rw [show decide (hw = 1) = true from decide_eq_true (by omega)]; rfl) | (rw [show decide (hw = 1) = false from decide_eq_false (by omega)]; rfl), by rw [show wh = 1 from by omega, ds_2 (by omega) (bI_n0.mp (by assumption)), hI4]; (first | rw [show decide (hw = 1) = true from decide_eq_true (by omega), show decide (hw = 2) = false from decide_eq_false (by omega), if_neg (show ¬ hw = 2 by omega)] | rw [show decide (hw = 1) = false from decide_eq_false (by omega), show decide (hw = 2) = false from decide_eq_false (by omega), if_neg (show ¬ hw = 2 by omega)] | rw [show decide (hw = 1) = false from decide_eq_false (by omega), show decide (hw = 2) = true from decide_eq_true (by omega), if_pos (show hw = 2 by omega)]); (first | done | rfl)⟩)
            · show AW X 0 0 82 [some (.ref 44), some (.int (nI wh)), some (.int (nI x)), some (.int (nI hw)), some (.int 1)] [] T (a_u I4 44 35 ((I2 44 35) + 1)) J2 R
              have h69n : ¬ hw = 1 := fun q9 => h69 ((nI_eq (a := hw) (b := 1) (by omega) (by omega)).mpr q9)
              refine aw_iconst (v := 1) hC dX12_does_82 (by decide) ?_
              refine aw_goto (tgt := 87) hC dX12_does_83 (by decide) ?_
              exact aw_zreturn hC hq rfl (Or.inr rfl) dX12_does_87 a_le a_le (by first | (exfalso; omega) | exact ⟨_, rfl, rfl, rfl, I2, hCm, by rw [show wh = 1 from by omega, ds_2 (by omega) (bI_n0.mp (by assumption))]; first | (rw [show decide (hw = 1) = true from decide_eq_true (by omega)]; rfl) | (rw [show decide (hw = 1) = false from decide_eq_false (by omega)]; rfl), by rw [show wh = 1 from by omega, ds_2 (by omega) (bI_n0.mp (by assumption)), hI4]; (first | rw [show decide (hw = 1) = true from decide_eq_true (by omega), show decide (hw = 2) = false from decide_eq_false (by omega), if_neg (show ¬ hw = 2 by omega)] | rw [show decide (hw = 1) = false from decide_eq_false (by omega), show decide (hw = 2) = false from decide_eq_false (by omega), if_neg (show ¬ hw = 2 by omega)] | rw [show decide (hw = 1) = false from decide_eq_false (by omega), show decide (hw = 2) = true from decide_eq_true (by omega), if_pos (show hw = 2 by omega)]); (first | done | rfl)⟩)
        · show AW X 0 0 39 [some (.ref 44), some (.int (nI wh)), some (.int (nI x)), some (.int (nI hw)), some (.int 1)] [] T I2 J2 R
          refine aw_iconst (v := 0) hC dX12_does_39 (by decide) ?_
          exact aw_zreturn hC hq rfl (Or.inl rfl) dX12_does_40 a_le a_le ⟨_, rfl, rfl, rfl, I2, hCm, by rw [show wh = 1 from by omega, ds_1 (by first | exact Or.inl (by omega) | exact Or.inr (bI_e0.mp (by assumption)))]; rfl, by rw [show wh = 1 from by omega, ds_1 (by first | exact Or.inl (by omega) | exact Or.inr (bI_e0.mp (by assumption)))]⟩
theorem mkS_fr {I : aI} {J : aJ} {x r o : Nat} {w t : Bool} (h : o ≠ 44 ∧ o ≠ 66 ∧ o ≠ 67 ∧ o ≠ 68 ∧ o ≠ 69 ∧ o ≠ 70 ∧ o ≠ 71 ∧ o ≠ 72 ∧ o ≠ 74 ∧ o ≠ 82) : mkS I J x r w t o = I o := by
  obtain ⟨h44, h66, h67, h68, h69, h70, h71, h72, h74, h82⟩ := h
  have h1 : mkB I J x r o = I o := by
    show a_u (a_ur (a_u (a_u (a_u I 66 r _) 68 r 0) 44 25 _) 67 _) 74 x _ o = _
    rw [a_u_row h74, a_ur_ne h67, a_u_row h44, a_u_row h68, a_u_row h66]
  unfold mkS; split
  · show a_u (a_ur (a_u (a_u (a_u (a_u (mkB I J x r) 82 x _) 69 x _) 71 x 0) 72 x 0) 70 _) 71 x _ o = _
    rw [a_u_row h71, a_ur_ne h70, a_u_row h72, a_u_row h71, a_u_row h69, a_u_row h82]; exact h1
  · exact h1
theorem mkS_44 {I : aI} {J : aJ} {x r k : Nat} {w t : Bool} (h : k ≠ 25) : mkS I J x r w t 44 k = I 44 k := by
  have h1 : mkB I J x r 44 k = I 44 k := by
    show a_u (a_ur (a_u (a_u (a_u I 66 r _) 68 r 0) 44 25 _) 67 _) 74 x _ 44 k = _
    rw [a_u_row (by decide), a_ur_ne (by decide), a_u_ne (fun q => h q.2), a_u_row (by decide), a_u_row (by decide)]
  unfold mkS; split
  · show a_u (a_ur (a_u (a_u (a_u (a_u (mkB I J x r) 82 x _) 69 x _) 71 x 0) 72 x 0) 70 _) 71 x _ 44 k = _
    rw [a_u_row (by decide), a_ur_ne (by decide), a_u_row (by decide), a_u_row (by decide), a_u_row (by decide), a_u_row (by decide)]; exact h1
  · exact h1
theorem doS_fr {I : aI} {J : aJ} {x wh hw r o : Nat} (h : o ≠ 44 ∧ o ≠ 66 ∧ o ≠ 67 ∧ o ≠ 68 ∧ o ≠ 69 ∧ o ≠ 70 ∧ o ≠ 71 ∧ o ≠ 72 ∧ o ≠ 74 ∧ o ≠ 82) : (doS I J x wh hw r).2 o = I o := by
  have h' := h
  obtain ⟨h44, h66, h67, h68, h69, h70, h71, h72, h74, h82⟩ := h
  unfold doS
  split
  · split
    · rfl
    · show a_u (mkS _ _ _ _ _ _) 44 35 _ o = _
      rw [a_u_row h44]; exact mkS_fr h'
  · split
    · rfl
    · show a_u (ite _ _ _) 44 35 _ o = _
      rw [a_u_row h44]
      split
      · exact chS_fr ⟨h67, h70, h72⟩
      · split
        · rw [a_u_row h69, a_u_row h68]
        · split
          · rw [a_u_row h68]
          · rfl
theorem doS_44 {I : aI} {J : aJ} {x wh hw r k : Nat} (h1 : k ≠ 25) (h2 : k ≠ 35) : (doS I J x wh hw r).2 44 k = I 44 k := by
  unfold doS
  split
  · split
    · rfl
    · show a_u (mkS _ _ _ _ _ _) 44 35 _ 44 k = _
      rw [a_u_ne (fun q => h2 q.2)]; exact mkS_44 h1
  · split
    · rfl
    · show a_u (ite _ _ _) 44 35 _ 44 k = _
      rw [a_u_ne (fun q => h2 q.2)]
      split
      · rw [chS_fr (by decide)]
      · split
        · rw [a_u_row (by decide), a_u_row (by decide)]
        · split
          · rw [a_u_row (by decide)]
          · rfl
/-- a step: the failed names, the next action -/
noncomputable abbrev stF (I : aI) (J : aJ) (x wh hw r a : Nat) : aI := a_u (a_u (doS I J x wh hw r).2 81 x (bI (decide (I 81 x ≠ 0) || !(doS I J x wh hw r).1))) 44 44 (nI (a + 1))
noncomputable def stS (I : aI) (J : aJ) (x wh hw r p a : Nat) : aI := if hw = 2 then a_u (stF I J x wh hw r a) 44 43 (-1) else psS (stF I J x wh hw r a) p (a + 1)
theorem AcW_cg {I I2 : aI} {p : Nat} (h79 : I2 79 = I 79) (h80 : I2 80 = I 80) (h : AcW I p) : AcW I2 p := by unfold AcW acN iN at *; rw [h79, h80]; exact h
theorem AcW.ok {I : aI} {p : Nat} (h : AcW I p) {k : Nat} (hk : k < iN I 79 p) : I 80 (128 * p + k) = nI (iN I 80 (128 * p + k)) ∧ iN I 80 (128 * p + k) < 500 ∧ acN I p k < 64 := h.2.2 k hk
theorem stF_fr {I : aI} {J : aJ} {x wh hw r a o : Nat} (h : o ≠ 44 ∧ o ≠ 66 ∧ o ≠ 67 ∧ o ≠ 68 ∧ o ≠ 69 ∧ o ≠ 70 ∧ o ≠ 71 ∧ o ≠ 72 ∧ o ≠ 74 ∧ o ≠ 82) (h81 : o ≠ 81) : stF I J x wh hw r a o = I o := by
  show a_u (a_u _ 81 x _) 44 44 _ o = _
  rw [a_u_row h.1, a_u_row h81]; exact doS_fr h
theorem stF_81 {I : aI} {J : aJ} {x wh hw r a : Nat} (h : B01 I 81) : B01 (stF I J x wh hw r a) 81 := fun j => by
  show a_u (a_u _ 81 x _) 44 44 _ 81 j = 0 ∨ a_u (a_u _ 81 x _) 44 44 _ 81 j = 1
  rw [a_u_row (show 81 ≠ 44 by decide)]
  by_cases e : j = x
  · subst e; rw [a_u_self]; exact bI_01 _
  · rw [a_u_ne (fun q => e q.2), doS_fr (by decide)]; exact h j
theorem stF_44 {I : aI} {J : aJ} {x wh hw r a k : Nat} (h1 : k ≠ 25) (h2 : k ≠ 35) (h3 : k ≠ 44) : stF I J x wh hw r a 44 k = I 44 k := by
  show a_u (a_u _ 81 x _) 44 44 _ 44 k = _
  rw [a_u_ne (fun q => h3 q.2), a_u_row (by decide)]; exact doS_44 h1 h2
set_option maxRecDepth 100000 in
theorem m_X12_stepT {T : List aT} {I : aI} {J : aJ} {R : aR} (hT : aPT T) (hR : aPR R) {n g : Nat} (hS : SW I n) (hZ : Zr J) (hg : GW I g) {p a hw x wh r : Nat} (hp : I 44 43 = nI p) (hp9 : p < 40) (ha : I 44 44 = nI a) (hle : a + 1 ≤ iN I 79 p) (hac : AcW I p) (hso : SOK I) (h81 : B01 I 81) (hhw : hw < 3) (hx9 : x = acN I p a) (hw9 : wh = iN I 80 (128 * p + a) / 100) (hr : I 44 25 = nI r) (hr9 : r ≤ 60) (hmd : NR I 74 64 61) (hE : NR I 69 64 61) (hO : NR I 82 64 61) (hne : (wh = 2 ∨ wh = 3) → 0 < iN I 69 x) : MX12_step 0 0 [.ref 44, .int (nI hw)] T I J R (aRelV (fun v I3 J2 => ∃ I2, CmR (a_u I 44 61 0) I2 J J2 n g ∧ v = some (.int (I 80 (128 * p + a))) ∧ I3 = stS I2 J2 x wh hw r p a) T R) := by
  refine a_met (by decide +kernel) a_le (fun X hC hq => ?_)
  show AW X 0 0 0 [some (.ref 44), some (.int (nI hw)), none, none] [] T I J R
  obtain ⟨N, hN9⟩ : ∃ N, N = iN I 80 (128 * p + a) := ⟨_, rfl⟩
  have hok := hac.ok (k := a) (by omega)
  have hN : I 80 (128 * p + a) = nI N := by rw [hN9]; exact hok.1
  have hNb : N < 500 := by rw [hN9]; exact hok.2.1
  have hx64 : x < 64 := by rw [hx9]; exact hok.2.2
  rw [← hN9] at hw9
  have hxN : x = N % 100 := by rw [hN9]; exact hx9
  have hm9 := hac.1
  refine aw_aload_n hC dX12_step_0 rfl ?_
  refine aw_iload_n hC dX12_step_1 rfl ?_
  refine aw_iconst (v := 0) hC dX12_step_2 (by decide) ?_
  refine aw_iconst (v := 2) hC dX12_step_3 (by decide) ?_
  refine kX12_169 hC rfl (m_X12_isIn (nI hw) (0 : Int32) (2 : Int32)) dX12_step_4 rfl a_le a_le a_le a_le a_le rfl aPure_x (aPure_k ?_)
  show AW X 0 0 7 [some (.ref 44), some (.int (nI hw)), none, none] [.int (bI (decide ((0 : Int32) ≤ (nI hw) ∧ (nI hw) ≤ (2 : Int32)))), .ref 44] T I J R
  rw [show bI (decide ((0 : Int32) ≤ (nI hw) ∧ (nI hw) ≤ (2 : Int32))) = 1 from bI_one ⟨nI_pos' (by omega), nI_le (b := 2) (by omega) (by omega)⟩]
  refine aw_if_ne (tgt := 14) hC dX12_step_7 (by decide) (fun _ => ?_) (fun h1 => absurd h1 (by decide))
  show AW X 0 0 14 [some (.ref 44), some (.int (nI hw)), none, none] [.ref 44] T I J R
  refine aw_aload_n hC dX12_step_14 rfl ?_
  refine aw_getI hC dX12_step_15 aF_X12_119 rfl (tg_44 hT) ?_
  rw [hp]
  refine aw_if_ge (tgt := 25) hC dX12_step_18 (by decide) (fun h2 => ?_) (fun h2 => ?_)
  · show AW X 0 0 25 [some (.ref 44), some (.int (nI hw)), none, none] [.ref 44] T I J R
    have h2n : 0 ≤ p := (nI_leI (a := 0) (b := p) (by omega) (by omega)).mp h2
    refine aw_iconst (v := 0) hC dX12_step_25 (by decide) ?_
    refine aw_putI hC dX12_step_26 aF_X12_166 rfl rfl (tg_44 hT) ?_
    refine aw_aload_n hC dX12_step_29 rfl ?_
    refine aw_getI hC dX12_step_30 aF_X12_166 rfl (tg_44 hT) ?_
    rw [a_u_self (f := I) (o := 44) (k := 61) (v := 0)]
    refine aw_if_le (tgt := 38) hC dX12_step_33 (by decide) (fun _ => ?_) (fun h3 => absurd h3 (by decide))
    show AW X 0 0 38 [some (.ref 44), some (.int (nI hw)), none, none] [] T (a_u I 44 61 0) J R
    refine aw_aload_n hC dX12_step_38 rfl ?_
    refine aw_getR hC dX12_step_39 aF_X12_116 rfl (tg_44 hT) (pr_44_42 hR) ?_
    refine aw_sipush (v := 128) hC dX12_step_42 (by decide) ?_
    refine aw_aload_n hC dX12_step_45 rfl ?_
    refine aw_getI hC dX12_step_46 aF_X12_119 rfl (tg_44 hT) ?_
    rw [a_u_ne (f := I) (o := 44) (k := 61) (a := 44) (b := 43) (v := 0) (fun q => absurd q.2 (by decide))]
    rw [hp]
    refine aw_imul hC dX12_step_49 ?_
    rw [show 128 * (nI p) = nI (128 * p) from pk_mul 128 p]
    refine aw_aload_n hC dX12_step_50 rfl ?_
    refine aw_getI hC dX12_step_51 aF_X12_392 rfl (tg_44 hT) ?_
    rw [a_u_ne (f := I) (o := 44) (k := 61) (a := 44) (b := 44) (v := 0) (fun q => absurd q.2 (by decide))]
    rw [ha]
    refine aw_iadd hC dX12_step_54 ?_
    rw [show (nI (128 * p)) + (nI a) = nI ((128 * p) + a) from nI_add (128 * p) a]
    refine aw_iaload_k (j := ((128 * p) + a)) hC dX12_step_55 (tg_80 hT) (nI_clamp (by omega)) (vp_in_nI (by omega) (by decide)) ?_
    rw [a_u_ne (f := I) (o := 44) (k := 61) (a := 80) (b := ((128 * p) + a)) (v := 0) (fun q => absurd q.1 (by decide))]
    rw [hN]
    refine aw_istore_n (L2 := [some (.ref 44), some (.int (nI hw)), some (.int (nI N)), none]) hC dX12_step_56 rfl (by decide) rfl ?_
    refine aw_iload_n hC dX12_step_57 rfl ?_
    refine aw_bipush (v := 100) hC dX12_step_58 (by decide) ?_
    refine aw_irem hC dX12_step_60 (by decide) ?_
    rw [show (nI N) - (nI N) / 100 * 100 = nI (N % 100) from pk_rem (a := N) (d := 100) (by omega) (by decide) (by decide)]
    rw [congrArg nI hxN.symm]
    refine aw_istore_n (L2 := [some (.ref 44), some (.int (nI hw)), some (.int (nI N)), some (.int (nI x))]) hC dX12_step_61 rfl (by decide) rfl ?_
    refine aw_aload_n hC dX12_step_62 rfl ?_
    refine aw_getR hC dX12_step_63 aF_X12_126 rfl (tg_44 hT) (pr_44_46 hR) ?_
    refine aw_iload_n hC dX12_step_66 rfl ?_
    refine aw_dup2 hC dX12_step_67 rfl rfl ?_
    refine aw_baload_k (j := x) hC dX12_step_68 (tg_81 hT) (nI_clamp (by omega)) (vp_in_nI (by omega) (by decide)) ?_
    rw [a_u_ne (f := I) (o := 44) (k := 61) (a := 81) (b := x) (v := 0) (fun q => absurd q.1 (by decide))]
    rw [b01_bI (h81 x)]
    refine aw_aload_n hC dX12_step_69 rfl ?_
    refine aw_iload_n hC dX12_step_70 rfl ?_
    refine aw_bipush (v := 100) hC dX12_step_71 (by decide) ?_
    refine aw_idiv hC dX12_step_73 (by decide) ?_
    rw [show (nI N) / 100 = nI (N / 100) from pk_div (a := N) (d := 100) (by omega) (by decide) (by decide)]
    rw [congrArg nI hw9.symm]
    refine aw_iload_n hC dX12_step_74 rfl ?_
    refine aw_iload_n hC dX12_step_75 rfl ?_
    refine kX12_413 hC rfl (m_X12_does (I := a_u I 44 61 0) (J := J) (n := n) (g := g) hT hR hS.th hZ hg.th (x := x) (wh := wh) (hw := hw) (r := r) (by omega) (by omega) (by omega) (by rw [a_u_ne (fun q => absurd q.2 (by decide))]; exact hr) hr9 (hmd.ne (by decide)) (hE.ne (by decide)) (hO.ne (by decide)) (by unfold iN; rw [a_u_row (by decide)]; exact hne)) dX12_step_76 (tg_44 hT) rfl a_le a_le a_le a_le a_le rfl aRelV_x (aRelV_k (fun v9 I3 J2 hQ => ?_))
    obtain ⟨I2, hCm, rfl, hI3⟩ := hQ
    have h343 : I3 44 43 = nI p := by rw [hI3, doS_44 (by decide) (by decide), hCm.f44 (by decide) (by decide), a_u_ne (fun q => absurd q.2 (by decide))]; exact hp
    have h344 : I3 44 44 = nI a := by rw [hI3, doS_44 (by decide) (by decide), hCm.f44 (by decide) (by decide), a_u_ne (fun q => absurd q.2 (by decide))]; exact ha
    have h281 : I2 81 = I 81 := (hCm.fr 81 (by decide)).trans (a_u_row (by decide))
    show AW X 0 0 79 [some (.ref 44), some (.int (nI hw)), some (.int (nI N)), some (.int (nI x))] [.int (bI (doS I2 J2 x wh hw r).1), .int (bI (decide (I 81 x ≠ 0))), .int (nI x), .ref 81] T I3 J2 R
    refine aw_if_ne (tgt := 86) hC dX12_step_79 (by decide) (fun h4 => ?_) (fun h4 => ?_)
    · show AW X 0 0 86 [some (.ref 44), some (.int (nI hw)), some (.int (nI N)), some (.int (nI x))] [.int (bI (decide (I 81 x ≠ 0))), .int (nI x), .ref 81] T I3 J2 R
      refine aw_iconst (v := 0) hC dX12_step_86 (by decide) ?_
      refine aw_ior hC dX12_step_87 ?_
      rw [bI_or0 _]
      refine aw_bastore_k (j := x) hC dX12_step_88 (tg_81 hT) (nI_clamp (by omega)) (vp_in_nI (by omega) (by decide)) (bI_01 _) ?_
      refine aw_aload_n hC dX12_step_89 rfl ?_
      refine aw_dup hC dX12_step_90 rfl ?_
      refine aw_getI hC dX12_step_91 aF_X12_392 rfl (tg_44 hT) ?_
      rw [a_u_ne (f := I3) (o := 81) (k := x) (a := 44) (b := 44) (v := bI (decide (I 81 x ≠ 0))) (fun q => absurd q.1 (by decide))]
      rw [h344]
      refine aw_iconst (v := 1) hC dX12_step_94 (by decide) ?_
      refine aw_iadd hC dX12_step_95 ?_
      rw [show (nI a) + 1 = nI (a + 1) from nI_add a 1]
      refine aw_putI hC dX12_step_96 aF_X12_392 rfl rfl (tg_44 hT) ?_
      have hF9 : a_u (a_u I3 81 x (bI (decide (I 81 x ≠ 0)))) 44 44 (nI (a + 1)) = stF I2 J2 x wh hw r a := by rw [stF, ← hI3, h281]; rw [bI_n0.mp (by assumption : ¬ bI (doS I2 J2 x wh hw r).1 = 0), Bool.not_true, Bool.or_false]
      have h2p : I2 44 43 = nI p := by rw [hCm.f44 (by decide) (by decide), a_u_ne (fun q => absurd q.2 (by decide))]; exact hp
      have h279 : I2 79 = I 79 := (hCm.fr 79 (by decide)).trans (a_u_row (by decide))
      have h280 : I2 80 = I 80 := (hCm.fr 80 (by decide)).trans (a_u_row (by decide))
      have h265 : I2 65 = I 65 := (hCm.fr 65 (by decide)).trans (a_u_row (by decide))
      refine aw_iload_n hC dX12_step_99 rfl ?_
      refine aw_iconst (v := 2) hC dX12_step_100 (by decide) ?_
      refine aw_icmp_ne (tgt := 112) hC dX12_step_101 (by decide) (fun h5 => ?_) (fun h5 => ?_)
      · show AW X 0 0 112 [some (.ref 44), some (.int (nI hw)), some (.int (nI N)), some (.int (nI x))] [] T (a_u (a_u I3 81 x (bI (decide (I 81 x ≠ 0)))) 44 44 (nI (a + 1))) J2 R
        have h5n : ¬ hw = 2 := fun q9 => h5 ((nI_eq (a := hw) (b := 2) (by omega) (by omega)).mpr q9)
        refine aw_aload_n hC dX12_step_112 rfl ?_
        refine kX12_416 hC rfl (m_X12_passes (I := a_u (a_u I3 81 x (bI (decide (I 81 x ≠ 0)))) 44 44 (nI (a + 1))) (J := J2) hT hR (p := p) (a0 := a + 1) (by rw [hF9, stF_44 (by decide) (by decide) (by decide), ← h2p]) hp9 (by rw [hF9]; exact a_u_self) (by rw [hF9]; unfold iN; rw [stF_fr (by decide) (by decide), h279]; exact hle) (by rw [hF9]; exact AcW_cg ((stF_fr (by decide) (by decide)).trans h279) ((stF_fr (by decide) (by decide)).trans h280) hac) (by rw [hF9]; exact SOK_cg ((stF_fr (by decide) (by decide)).trans h265) hso) (by rw [hF9]; exact stF_81 (by unfold B01; rw [h281]; exact h81))) dX12_step_113 (tg_44 hT) rfl a_le a_le a_le a_le a_le rfl aPure_x (aPure_k ?_)
        obtain ⟨I5, hI5⟩ : ∃ I5, I5 = psS (a_u (a_u I3 81 x (bI (decide (I 81 x ≠ 0)))) 44 44 (nI (a + 1))) p (a + 1) := ⟨_, rfl⟩
        rw [← hI5]
        show AW X 0 0 116 [some (.ref 44), some (.int (nI hw)), some (.int (nI N)), some (.int (nI x))] [] T I5 J2 R
        refine aw_iload_n hC dX12_step_116 rfl ?_
        exact aw_ireturn hC hq rfl dX12_step_117 a_le a_le ⟨_, rfl, rfl, rfl, I2, hCm, by rw [hN], by rw [hI5, hF9, stS, if_neg (by omega)]⟩
      · show AW X 0 0 104 [some (.ref 44), some (.int (nI hw)), some (.int (nI N)), some (.int (nI x))] [] T (a_u (a_u I3 81 x (bI (decide (I 81 x ≠ 0)))) 44 44 (nI (a + 1))) J2 R
        have h5n : hw = 2 := (nI_eq (a := hw) (b := 2) (by omega) (by omega)).mp h5
        refine aw_aload_n hC dX12_step_104 rfl ?_
        refine aw_iconst (v := (-1)) hC dX12_step_105 (by decide) ?_
        refine aw_putI hC dX12_step_106 aF_X12_119 rfl rfl (tg_44 hT) ?_
        refine aw_goto (tgt := 116) hC dX12_step_109 (by decide) ?_
        refine aw_iload_n hC dX12_step_116 rfl ?_
        exact aw_ireturn hC hq rfl dX12_step_117 a_le a_le ⟨_, rfl, rfl, rfl, I2, hCm, by rw [hN], by rw [stS, if_pos (by omega), ← hF9]⟩
    · show AW X 0 0 82 [some (.ref 44), some (.int (nI hw)), some (.int (nI N)), some (.int (nI x))] [.int (bI (decide (I 81 x ≠ 0))), .int (nI x), .ref 81] T I3 J2 R
      refine aw_iconst (v := 1) hC dX12_step_82 (by decide) ?_
      refine aw_goto (tgt := 87) hC dX12_step_83 (by decide) ?_
      refine aw_ior hC dX12_step_87 ?_
      rw [bI_or1 _]
      refine aw_bastore_k (j := x) hC dX12_step_88 (tg_81 hT) (nI_clamp (by omega)) (vp_in_nI (by omega) (by decide)) (bI_01 _) ?_
      refine aw_aload_n hC dX12_step_89 rfl ?_
      refine aw_dup hC dX12_step_90 rfl ?_
      refine aw_getI hC dX12_step_91 aF_X12_392 rfl (tg_44 hT) ?_
      rw [a_u_ne (f := I3) (o := 81) (k := x) (a := 44) (b := 44) (v := bI true) (fun q => absurd q.1 (by decide))]
      rw [h344]
      refine aw_iconst (v := 1) hC dX12_step_94 (by decide) ?_
      refine aw_iadd hC dX12_step_95 ?_
      rw [show (nI a) + 1 = nI (a + 1) from nI_add a 1]
      refine aw_putI hC dX12_step_96 aF_X12_392 rfl rfl (tg_44 hT) ?_
      have hF9 : a_u (a_u I3 81 x (bI true)) 44 44 (nI (a + 1)) = stF I2 J2 x wh hw r a := by rw [stF, ← hI3, h281]; rw [bI_e0.mp (by assumption : bI (doS I2 J2 x wh hw r).1 = 0), Bool.not_false, Bool.or_true]
      have h2p : I2 44 43 = nI p := by rw [hCm.f44 (by decide) (by decide), a_u_ne (fun q => absurd q.2 (by decide))]; exact hp
      have h279 : I2 79 = I 79 := (hCm.fr 79 (by decide)).trans (a_u_row (by decide))
      have h280 : I2 80 = I 80 := (hCm.fr 80 (by decide)).trans (a_u_row (by decide))
      have h265 : I2 65 = I 65 := (hCm.fr 65 (by decide)).trans (a_u_row (by decide))
      refine aw_iload_n hC dX12_step_99 rfl ?_
      refine aw_iconst (v := 2) hC dX12_step_100 (by decide) ?_
      refine aw_icmp_ne (tgt := 112) hC dX12_step_101 (by decide) (fun h6 => ?_) (fun h6 => ?_)
      · show AW X 0 0 112 [some (.ref 44), some (.int (nI hw)), some (.int (nI N)), some (.int (nI x))] [] T (a_u (a_u I3 81 x (bI true)) 44 44 (nI (a + 1))) J2 R
        have h6n : ¬ hw = 2 := fun q9 => h6 ((nI_eq (a := hw) (b := 2) (by omega) (by omega)).mpr q9)
        refine aw_aload_n hC dX12_step_112 rfl ?_
        refine kX12_416 hC rfl (m_X12_passes (I := a_u (a_u I3 81 x (bI true)) 44 44 (nI (a + 1))) (J := J2) hT hR (p := p) (a0 := a + 1) (by rw [hF9, stF_44 (by decide) (by decide) (by decide), ← h2p]) hp9 (by rw [hF9]; exact a_u_self) (by rw [hF9]; unfold iN; rw [stF_fr (by decide) (by decide), h279]; exact hle) (by rw [hF9]; exact AcW_cg ((stF_fr (by decide) (by decide)).trans h279) ((stF_fr (by decide) (by decide)).trans h280) hac) (by rw [hF9]; exact SOK_cg ((stF_fr (by decide) (by decide)).trans h265) hso) (by rw [hF9]; exact stF_81 (by unfold B01; rw [h281]; exact h81))) dX12_step_113 (tg_44 hT) rfl a_le a_le a_le a_le a_le rfl aPure_x (aPure_k ?_)
        obtain ⟨I5, hI5⟩ : ∃ I5, I5 = psS (a_u (a_u I3 81 x (bI true)) 44 44 (nI (a + 1))) p (a + 1) := ⟨_, rfl⟩
        rw [← hI5]
        show AW X 0 0 116 [some (.ref 44), some (.int (nI hw)), some (.int (nI N)), some (.int (nI x))] [] T I5 J2 R
        refine aw_iload_n hC dX12_step_116 rfl ?_
        exact aw_ireturn hC hq rfl dX12_step_117 a_le a_le ⟨_, rfl, rfl, rfl, I2, hCm, by rw [hN], by rw [hI5, hF9, stS, if_neg (by omega)]⟩
      · show AW X 0 0 104 [some (.ref 44), some (.int (nI hw)), some (.int (nI N)), some (.int (nI x))] [] T (a_u (a_u I3 81 x (bI true)) 44 44 (nI (a + 1))) J2 R
        have h6n : hw = 2 := (nI_eq (a := hw) (b := 2) (by omega) (by omega)).mp h6
        refine aw_aload_n hC dX12_step_104 rfl ?_
        refine aw_iconst (v := (-1)) hC dX12_step_105 (by decide) ?_
        refine aw_putI hC dX12_step_106 aF_X12_119 rfl rfl (tg_44 hT) ?_
        refine aw_goto (tgt := 116) hC dX12_step_109 (by decide) ?_
        refine aw_iload_n hC dX12_step_116 rfl ?_
        exact aw_ireturn hC hq rfl dX12_step_117 a_le a_le ⟨_, rfl, rfl, rfl, I2, hCm, by rw [hN], by rw [stS, if_pos (by omega), ← hF9]⟩
  · show AW X 0 0 21 [some (.ref 44), some (.int (nI hw)), none, none] [.ref 44] T I J R
    have h2n : ¬ 0 ≤ p := fun q9 => h2 ((nI_leI (a := 0) (b := p) (by omega) (by omega)).mpr q9)
    exfalso; omega
set_option maxRecDepth 100000 in
theorem m_X12_stepF1 {T : List aT} {I : aI} {J : aJ} {R : aR} (hT : aPT T) (hR : aPR R) (x : Int32) (hx : ¬ (0 ≤ x ∧ x ≤ 2)) : MX12_step 0 0 [.ref 44, .int x] T I J R (aPure (some (.int (0))) T (a_u I 44 61 1) J R) := by
  refine a_met (by decide +kernel) a_le (fun X hC hq => ?_)
  show AW X 0 0 0 [some (.ref 44), some (.int x), none, none] [] T I J R
  refine aw_aload_n hC dX12_step_0 rfl ?_
  refine aw_iload_n hC dX12_step_1 rfl ?_
  refine aw_iconst (v := 0) hC dX12_step_2 (by decide) ?_
  refine aw_iconst (v := 2) hC dX12_step_3 (by decide) ?_
  refine kX12_169 hC rfl (m_X12_isIn x (0 : Int32) (2 : Int32)) dX12_step_4 rfl a_le a_le a_le a_le a_le rfl aPure_x (aPure_k ?_)
  show AW X 0 0 7 [some (.ref 44), some (.int x), none, none] [.int (bI (decide ((0 : Int32) ≤ x ∧ x ≤ (2 : Int32)))), .ref 44] T I J R
  rw [show bI (decide ((0 : Int32) ≤ x ∧ x ≤ (2 : Int32))) = 0 from bI_zero hx]
  refine aw_if_ne (tgt := 14) hC dX12_step_7 (by decide) (fun h1 => absurd h1 (by decide)) (fun _ => ?_)
  show AW X 0 0 10 [some (.ref 44), some (.int x), none, none] [.ref 44] T I J R
  refine aw_iconst (v := 1) hC dX12_step_10 (by decide) ?_
  refine aw_goto (tgt := 26) hC dX12_step_11 (by decide) ?_
  refine aw_putI hC dX12_step_26 aF_X12_166 rfl rfl (tg_44 hT) ?_
  refine aw_aload_n hC dX12_step_29 rfl ?_
  refine aw_getI hC dX12_step_30 aF_X12_166 rfl (tg_44 hT) ?_
  rw [a_u_self (f := I) (o := 44) (k := 61) (v := 1)]
  refine aw_if_le (tgt := 38) hC dX12_step_33 (by decide) (fun h2 => absurd h2 (by decide)) (fun _ => ?_)
  show AW X 0 0 36 [some (.ref 44), some (.int x), none, none] [] T (a_u I 44 61 1) J R
  refine aw_iconst (v := 0) hC dX12_step_36 (by decide) ?_
  exact aw_ireturn hC hq rfl dX12_step_37 a_le a_le (aPure_e (by clear hC hq; (try simp only [bI_e0, bI_n0, decide_eq_false_iff_not, decide_eq_true_eq, Classical.not_not] at *) <;> first | grind [nI_p1, a_u_2] | (exfalso; (simp only [i_le, i_lt, i_eq, Int32.reduceToInt] at *); omega)) (by clear hC hq; (try simp only [bI_e0, bI_n0, decide_eq_false_iff_not, decide_eq_true_eq, Classical.not_not] at *) <;> first | grind [nI_p1, a_u_2] | (exfalso; (simp only [i_le, i_lt, i_eq, Int32.reduceToInt] at *); omega)) rfl rfl)
set_option maxRecDepth 100000 in
theorem m_X12_stepF2 {T : List aT} {I : aI} {J : aJ} {R : aR} (hT : aPT T) (hR : aPR R) (hn : I 44 43 < 0) (x : Int32) (hx : 0 ≤ x ∧ x ≤ 2) : MX12_step 0 0 [.ref 44, .int x] T I J R (aPure (some (.int (0))) T (a_u I 44 61 2) J R) := by
  refine a_met (by decide +kernel) a_le (fun X hC hq => ?_)
  show AW X 0 0 0 [some (.ref 44), some (.int x), none, none] [] T I J R
  refine aw_aload_n hC dX12_step_0 rfl ?_
  refine aw_iload_n hC dX12_step_1 rfl ?_
  refine aw_iconst (v := 0) hC dX12_step_2 (by decide) ?_
  refine aw_iconst (v := 2) hC dX12_step_3 (by decide) ?_
  refine kX12_169 hC rfl (m_X12_isIn x (0 : Int32) (2 : Int32)) dX12_step_4 rfl a_le a_le a_le a_le a_le rfl aPure_x (aPure_k ?_)
  show AW X 0 0 7 [some (.ref 44), some (.int x), none, none] [.int (bI (decide ((0 : Int32) ≤ x ∧ x ≤ (2 : Int32)))), .ref 44] T I J R
  rw [show bI (decide ((0 : Int32) ≤ x ∧ x ≤ (2 : Int32))) = 1 from bI_one hx]
  refine aw_if_ne (tgt := 14) hC dX12_step_7 (by decide) (fun _ => ?_) (fun h1 => absurd h1 (by decide))
  show AW X 0 0 14 [some (.ref 44), some (.int x), none, none] [.ref 44] T I J R
  refine aw_aload_n hC dX12_step_14 rfl ?_
  refine aw_getI hC dX12_step_15 aF_X12_119 rfl (tg_44 hT) ?_
  refine aw_if_ge (tgt := 25) hC dX12_step_18 (by decide) (fun h2 => ?_) (fun h2 => ?_)
  · show AW X 0 0 25 [some (.ref 44), some (.int x), none, none] [.ref 44] T I J R
    exact absurd hn (Int32.not_lt.mpr (by assumption))
  · show AW X 0 0 21 [some (.ref 44), some (.int x), none, none] [.ref 44] T I J R
    refine aw_iconst (v := 2) hC dX12_step_21 (by decide) ?_
    refine aw_goto (tgt := 26) hC dX12_step_22 (by decide) ?_
    refine aw_putI hC dX12_step_26 aF_X12_166 rfl rfl (tg_44 hT) ?_
    refine aw_aload_n hC dX12_step_29 rfl ?_
    refine aw_getI hC dX12_step_30 aF_X12_166 rfl (tg_44 hT) ?_
    rw [a_u_self (f := I) (o := 44) (k := 61) (v := 2)]
    refine aw_if_le (tgt := 38) hC dX12_step_33 (by decide) (fun h3 => absurd h3 (by decide)) (fun _ => ?_)
    show AW X 0 0 36 [some (.ref 44), some (.int x), none, none] [] T (a_u I 44 61 2) J R
    refine aw_iconst (v := 0) hC dX12_step_36 (by decide) ?_
    exact aw_ireturn hC hq rfl dX12_step_37 a_le a_le (aPure_e (by clear hC hq; (try simp only [bI_e0, bI_n0, decide_eq_false_iff_not, decide_eq_true_eq, Classical.not_not] at *) <;> first | grind [nI_p1, a_u_2] | (exfalso; (simp only [i_le, i_lt, i_eq, Int32.reduceToInt] at *); omega)) (by clear hC hq; (try simp only [bI_e0, bI_n0, decide_eq_false_iff_not, decide_eq_true_eq, Classical.not_not] at *) <;> first | grind [nI_p1, a_u_2] | (exfalso; (simp only [i_le, i_lt, i_eq, Int32.reduceToInt] at *); omega)) rfl rfl)
