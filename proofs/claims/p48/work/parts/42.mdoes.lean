theorem aw_setI {X : aX} {cells slots pc : Nat} {L : List (Option Value)} {st : List Value} {T : List aT} {I I2 : aI} {J : aJ} {R : aR} (h : I = I2) (k : AW X cells slots pc L st T I2 J R) : AW X cells slots pc L st T I J R := by rw [h]; exact k
theorem aw_setJ {X : aX} {cells slots pc : Nat} {L : List (Option Value)} {st : List Value} {T : List aT} {I : aI} {J J2 : aJ} {R : aR} (h : J = J2) (k : AW X cells slots pc L st T I J2 R) : AW X cells slots pc L st T I J R := by rw [h]; exact k
theorem sGives_cg3 {I I2 : aI} {J J2 : aJ} {x a : Nat} (hso : SO3 I) (hx : x < 64) (ha : a < 3) (h57 : I2 44 57 = I 44 57) (hJ : J2 88 = J 88) (h58 : I2 58 = I 58) (h61 : I2 61 = I 61) (h62 : I2 62 = I 62) (h65 : I2 65 = I 65) (h69 : ∀ y, y < 16 * (x / 16) → I2 69 y = I 69 y) (h70 : ∀ j, j < 48 * (x / 16) → I2 70 j = I 70 j) (h91 : ∀ y, y < 16 * (x / 16) → I2 91 y = I 91 y) : sGives I2 J2 x a = sGives I J x a := by
  have e : ∀ j, iN I2 65 j = iN I 65 j := fun j => by unfold iN; rw [h65]
  have e2 : ∀ j, iN I2 62 j = iN I 62 j := fun j => by unfold iN; rw [h62]
  have e3 : ∀ s, gvA I2 J2 x s = gvA I J x s := fun s => by unfold gvA iN; rw [sVal_cg h57 hJ, h61, h62]
  rw [sGives, sGives, e, h65, h58, e2, e3]
  by_cases c : I 65 (3 * (x / 16) + a) = -1 ∨ I 58 (3 * iN I 62 (x / 16) + a) &&& 2 ≠ 0
  · rw [if_pos c, if_pos c]
  · rw [if_neg c, if_neg c]
    by_cases d : iN I 65 (3 * (x / 16) + a) < 10
    · rw [if_pos d, if_pos d]
    · rw [if_neg d, if_neg d]
      rcases hso (3 * (x / 16) + a) (by omega) with q | q
      · exact absurd (Or.inl q) c
      · have hh := q.2.2 (by omega)
        generalize iN I 65 (3 * (x / 16) + a) = s at *
        have l1 : 16 * ((s - 10) / 3) + x % 16 < 16 * (x / 16) := by omega
        unfold gvB iN; rw [h61, h62, h69 _ l1, h91 _ l1, h70 _ (by omega)]
noncomputable def wOr (I : aI) (J : aJ) (x : Nat) : Nat → Int32
  | 0 => 0
  | k + 1 => wOr I J x k ||| (if sDf I J x k = true then iBit (nI k) else 0)
theorem wOr_y {I : aI} {J : aJ} {x k : Nat} (h : sDf I J x k = true) : wOr I J x k ||| (1 <<< ((nI k) &&& 31)) = wOr I J x (k + 1) := by rw [wOr, if_pos h]; rfl
theorem wOr_n {I : aI} {J : aJ} {x k : Nat} (h : sDf I J x k = false) : wOr I J x k ||| 0 = wOr I J x (k + 1) := by rw [wOr, if_neg (by rw [h]; simp)]
theorem wOr_bt {I : aI} {J : aJ} {x i : Nat} (hi : i < 32) : ∀ k, k ≤ 3 → bt (wOr I J x k) i = (decide (i < k) && sDf I J x i)
  | 0, _ => by rw [wOr, b_0]; simp
  | k + 1, hk => by
    rw [wOr, b_or, wOr_bt hi k (by omega)]
    by_cases c : sDf I J x k = true
    · rw [if_pos c, bt_bit (by omega) hi]
      by_cases e : i = k
      · subst e; simp [c]
      · have e2 : decide (i < k + 1) = decide (i < k) := by simp only [decide_eq_decide]; omega
        simp [e, e2]
    · rw [if_neg c, b_0, Bool.or_false]
      by_cases e : i = k
      · subst e; simp only [Bool.not_eq_true] at c; simp [c]
      · have e2 : decide (i < k + 1) = decide (i < k) := by simp only [decide_eq_decide]; omega
        rw [e2]
theorem wOr_t {I : aI} {J : aJ} {x k : Nat} (hk : k < 3) : ((wOr I J x 3 >>> ((nI k) &&& 31)) &&& 1 = 1) ↔ sDf I J x k = true := by
  rw [bt_sshr (by omega), wOr_bt (by omega) 3 (Nat.le_refl _)]; simp [hk]
noncomputable def ch67 (I : aI) (J : aJ) (x r m : Nat) : Nat → Int32 := fun j => if (3 * r ≤ j ∧ j < 3 * r + m) ∧ sDf I J x (j - 3 * r) = true ∧ I 68 r = 0 then sGives I J x (j - 3 * r) else I 67 j
noncomputable def ch70 (I : aI) (J : aJ) (x : Nat) (w : Bool) (m : Nat) : Nat → Int32 := fun j => if (3 * x ≤ j ∧ j < 3 * x + m) ∧ sDf I J x (j - 3 * x) = true ∧ w = true then sGives I J x (j - 3 * x) else I 70 j
noncomputable def chAd (I : aI) (J : aJ) (x : Nat) (w : Bool) : Nat → Int32
  | 0 => I 72 x
  | m + 1 => if sDf I J x m = true ∧ w = true then chAd I J x w m &&& ((1 <<< ((nI m) &&& 31)) ^^^ (-1)) else chAd I J x w m
noncomputable def ch72 (I : aI) (J : aJ) (x : Nat) (w : Bool) (m : Nat) : Nat → Int32 := fun j => if j = x then chAd I J x w m else I 72 j
noncomputable def chS (I : aI) (J : aJ) (x r : Nat) (w : Bool) (m : Nat) : aI := a_ur (a_ur (a_ur I 67 (ch67 I J x r m)) 70 (ch70 I J x w m)) 72 (ch72 I J x w m)
theorem ch67_n {I : aI} {J : aJ} {x r m : Nat} (h : sDf I J x m = false) (j : Nat) : ch67 I J x r m j = ch67 I J x r (m + 1) j := by
  unfold ch67
  by_cases e : j = 3 * r + m
  · subst e; rw [if_neg (by omega), if_neg (by rw [show 3 * r + m - 3 * r = m by omega, h]; simp)]
  · by_cases c : 3 * r ≤ j ∧ j < 3 * r + m
    · have c2 : 3 * r ≤ j ∧ j < 3 * r + (m + 1) := by omega
      simp only [c, c2]
    · have c2 : ¬ (3 * r ≤ j ∧ j < 3 * r + (m + 1)) := by omega
      simp only [c, c2, false_and, if_false]
theorem ch70_n {I : aI} {J : aJ} {x m : Nat} {w : Bool} (h : sDf I J x m = false ∨ w = false) (j : Nat) : ch70 I J x w m j = ch70 I J x w (m + 1) j := by
  unfold ch70
  by_cases e : j = 3 * x + m
  · subst e; rw [if_neg (by omega), if_neg (by rw [show 3 * x + m - 3 * x = m by omega]; rcases h with h | h <;> rw [h] <;> simp)]
  · by_cases c : 3 * x ≤ j ∧ j < 3 * x + m
    · have c2 : 3 * x ≤ j ∧ j < 3 * x + (m + 1) := by omega
      simp only [c, c2]
    · have c2 : ¬ (3 * x ≤ j ∧ j < 3 * x + (m + 1)) := by omega
      simp only [c, c2, false_and, if_false]
theorem ch72_n {I : aI} {J : aJ} {x m : Nat} {w : Bool} (h : sDf I J x m = false ∨ w = false) (j : Nat) : ch72 I J x w m j = ch72 I J x w (m + 1) j := by
  have e : chAd I J x w (m + 1) = chAd I J x w m := by rw [chAd, if_neg (by rcases h with h | h <;> rw [h] <;> simp)]
  unfold ch72; rw [e]
theorem ch67_y {I : aI} {J : aJ} {x r m : Nat} {v : Int32} (h : sDf I J x m = true) (hv : (I 68 r = 0 ∧ v = sGives I J x m) ∨ (I 68 r ≠ 0 ∧ v = ch67 I J x r m (3 * r + m))) (j : Nat) : (if j = 3 * r + m then v else ch67 I J x r m j) = ch67 I J x r (m + 1) j := by
  by_cases e : j = 3 * r + m
  · subst e; rw [if_pos rfl]
    rcases hv with ⟨h0, hv⟩ | ⟨h0, hv⟩
    · rw [hv]; unfold ch67; rw [if_pos ⟨by omega, by rw [show 3 * r + m - 3 * r = m by omega]; exact h, h0⟩, show 3 * r + m - 3 * r = m by omega]
    · rw [hv]; unfold ch67; rw [if_neg (fun q => h0 q.2.2), if_neg (fun q => h0 q.2.2)]
  · rw [if_neg e]; unfold ch67
    by_cases c : 3 * r ≤ j ∧ j < 3 * r + m
    · have c2 : 3 * r ≤ j ∧ j < 3 * r + (m + 1) := by omega
      simp only [c, c2]
    · have c2 : ¬ (3 * r ≤ j ∧ j < 3 * r + (m + 1)) := by omega
      simp only [c, c2, false_and, if_false]
theorem ch70_y {I : aI} {J : aJ} {x m : Nat} {w : Bool} (h : sDf I J x m = true) (hw : w = true) (j : Nat) : (if j = 3 * x + m then sGives I J x m else ch70 I J x w m j) = ch70 I J x w (m + 1) j := by
  by_cases e : j = 3 * x + m
  · subst e; rw [if_pos rfl]; unfold ch70; rw [if_pos ⟨by omega, by rw [show 3 * x + m - 3 * x = m by omega]; exact h, hw⟩, show 3 * x + m - 3 * x = m by omega]
  · rw [if_neg e]; unfold ch70
    by_cases c : 3 * x ≤ j ∧ j < 3 * x + m
    · have c2 : 3 * x ≤ j ∧ j < 3 * x + (m + 1) := by omega
      simp only [c, c2]
    · have c2 : ¬ (3 * x ≤ j ∧ j < 3 * x + (m + 1)) := by omega
      simp only [c, c2, false_and, if_false]
theorem ch72_y {I : aI} {J : aJ} {x m : Nat} {w : Bool} (h : sDf I J x m = true) (hw : w = true) (j : Nat) : (if j = x then ch72 I J x w m x &&& ((1 <<< ((nI m) &&& 31)) ^^^ (-1)) else ch72 I J x w m j) = ch72 I J x w (m + 1) j := by
  unfold ch72
  by_cases e : j = x
  · subst e; rw [if_pos rfl, if_pos rfl, if_pos rfl, chAd, if_pos ⟨h, hw⟩]
  · rw [if_neg e, if_neg e, if_neg e]
theorem chS_0 {I : aI} {J : aJ} {x r : Nat} {w : Bool} : I = chS I J x r w 0 := by
  unfold chS
  rw [a_ur_id (f := I) (o := 67) (fun j => by unfold ch67; rw [if_neg (by omega)]), a_ur_id (f := I) (o := 70) (fun j => by unfold ch70; rw [if_neg (by omega)]), a_ur_id (f := I) (o := 72) (fun j => by
    unfold ch72; split
    · next h => rw [h, chAd]
    · rfl)]
theorem chS_fr {I : aI} {J : aJ} {x r m o : Nat} {w : Bool} (h : o ≠ 67 ∧ o ≠ 70 ∧ o ≠ 72) : chS I J x r w m o = I o := by
  unfold chS; rw [a_ur_ne h.2.2, a_ur_ne h.2.1, a_ur_ne h.1]
theorem chS_gw {I : aI} {J : aJ} {x r m g : Nat} {w : Bool} (h : GW I g) : GW (chS I J x r w m) g :=
  GW_cg (by rw [chS_fr (by decide)]) (chS_fr (by decide)) (chS_fr (by decide)) (chS_fr (by decide)) (chS_fr (by decide)) (chS_fr (by decide)) h
theorem chS_gv {I : aI} {J : aJ} {x r m g k : Nat} {w : Bool} (h : GW I g) (hx : x < 64) (hk : k < 3) : sGives (chS I J x r w m) J x k = sGives I J x k :=
  sGives_cg3 h.so hx hk (by rw [chS_fr (by decide)]) rfl (chS_fr (by decide)) (chS_fr (by decide)) (chS_fr (by decide)) (chS_fr (by decide)) (fun y _ => by rw [chS_fr (by decide)]) (fun j hj => by unfold chS; rw [a_ur_ne (by decide), a_ur_self]; unfold ch70; rw [if_neg (by omega)]) (fun y _ => by rw [chS_fr (by decide)])
/-- what an action does: whether it is done, and the store -/
noncomputable def doS (I : aI) (J : aJ) (x wh hw r : Nat) : Bool × aI :=
  if wh = 1 then (if r = 60 ∨ allB (cgS I J x true) 3 = false then (false, I) else (!decide (hw = 1), a_u (mkS I J x r (!decide (hw = 2)) (decide (hw = 1))) 44 35 (I 44 35 + (if hw = 2 then 0 else 1))))
  else if hw = 1 ∨ (wh = 2 ∧ allB (cgS I J x false) 3 = false) then (false, I)
  else (true, a_u (if wh = 2 then chS I J x (iN I 69 x - 1) (!decide (hw = 2)) 3 else if wh = 3 then a_u (a_u I 68 (iN I 69 x - 1) 1) 69 x (if hw = 2 then I 69 x else 0) else if 0 < iN I 82 x then a_u I 68 (iN I 82 x - 1) 1 else I) 44 35 (I 44 35 + (if hw = 2 then 0 else 1)))
theorem mkS_35 {I : aI} {J : aJ} {x r : Nat} {w t : Bool} : mkS I J x r w t 44 35 = I 44 35 := by
  have h1 : mkB I J x r 44 35 = I 44 35 := by
    show a_u (a_ur (a_u (a_u (a_u I 66 r _) 68 r 0) 44 25 _) 67 _) 74 x _ 44 35 = _
    rw [a_u_row (by decide), a_ur_ne (by decide), a_u_ne (fun q => absurd q.2 (by decide)), a_u_row (by decide), a_u_row (by decide)]
  unfold mkS; split
  · show a_u (a_ur (a_u (a_u (a_u (a_u (mkB I J x r) 82 x _) 69 x _) 71 x 0) 72 x 0) 70 _) 71 x _ 44 35 = _
    rw [a_u_row (by decide), a_ur_ne (by decide), a_u_row (by decide), a_u_row (by decide), a_u_row (by decide), a_u_row (by decide)]; exact h1
  · exact h1
theorem ds_1 {I : aI} {J : aJ} {x hw r : Nat} (h : r = 60 ∨ allB (cgS I J x true) 3 = false) : doS I J x 1 hw r = (false, I) := by unfold doS; rw [if_pos rfl, if_pos h]
theorem ds_2 {I : aI} {J : aJ} {x hw r : Nat} (h : r ≠ 60) (h2 : allB (cgS I J x true) 3 = true) : doS I J x 1 hw r = (!decide (hw = 1), a_u (mkS I J x r (!decide (hw = 2)) (decide (hw = 1))) 44 35 (I 44 35 + (if hw = 2 then 0 else 1))) := by
  unfold doS; rw [if_pos rfl, if_neg (fun q => q.elim h (fun q => by rw [h2] at q; cases q))]
theorem ds_3 {I : aI} {J : aJ} {x wh hw r : Nat} (h1 : wh ≠ 1) (h : hw = 1 ∨ (wh = 2 ∧ allB (cgS I J x false) 3 = false)) : doS I J x wh hw r = (false, I) := by unfold doS; rw [if_neg h1, if_pos h]
theorem ds_4 {I : aI} {J : aJ} {x wh hw r : Nat} (h1 : wh ≠ 1) (h : hw ≠ 1) (h2 : wh ≠ 2 ∨ allB (cgS I J x false) 3 = true) : doS I J x wh hw r = (true, a_u (if wh = 2 then chS I J x (iN I 69 x - 1) (!decide (hw = 2)) 3 else if wh = 3 then a_u (a_u I 68 (iN I 69 x - 1) 1) 69 x (if hw = 2 then I 69 x else 0) else if 0 < iN I 82 x then a_u I 68 (iN I 82 x - 1) 1 else I) 44 35 (I 44 35 + (if hw = 2 then 0 else 1))) := by
  unfold doS; rw [if_neg h1, if_neg (fun q => q.elim h (fun q => by rcases h2 with h2 | h2; exact h2 q.1; rw [h2] at q; cases q.2))]
theorem mkS_fr {I : aI} {J : aJ} {x r o : Nat} {w t : Bool} (h : o ≠ 44 ∧ o ≠ 66 ∧ o ≠ 67 ∧ o ≠ 68 ∧ o ≠ 69 ∧ o ≠ 70 ∧ o ≠ 71 ∧ o ≠ 72 ∧ o ≠ 74 ∧ o ≠ 82) : mkS I J x r w t o = I o := by
  obtain ⟨h44, h66, h67, h68, h69, h70, h71, h72, h74, h82⟩ := h
  have h1 : mkB I J x r o = I o := by
    show a_u (a_ur (a_u (a_u (a_u I 66 r _) 68 r 0) 44 25 _) 67 _) 74 x _ o = _
    rw [a_u_row h74, a_ur_ne h67, a_u_row h44, a_u_row h68, a_u_row h66]
  unfold mkS; split
  · show a_u (a_ur (a_u (a_u (a_u (a_u (mkB I J x r) 82 x _) 69 x _) 71 x 0) 72 x 0) 70 _) 71 x _ o = _
    rw [a_u_row h71, a_ur_ne h70, a_u_row h72, a_u_row h71, a_u_row h69, a_u_row h82]; exact h1
  · exact h1
theorem mkS_44 {I : aI} {J : aJ} {x r k : Nat} {w t : Bool} (h : k ≠ 25) : mkS I J x r w t 44 k = I 44 k := by
  have h1 : mkB I J x r 44 k = I 44 k := by
    show a_u (a_ur (a_u (a_u (a_u I 66 r _) 68 r 0) 44 25 _) 67 _) 74 x _ 44 k = _
    rw [a_u_row (by decide), a_ur_ne (by decide), a_u_ne (fun q => h q.2), a_u_row (by decide), a_u_row (by decide)]
  unfold mkS; split
  · show a_u (a_ur (a_u (a_u (a_u (a_u (mkB I J x r) 82 x _) 69 x _) 71 x 0) 72 x 0) 70 _) 71 x _ 44 k = _
    rw [a_u_row (by decide), a_ur_ne (by decide), a_u_row (by decide), a_u_row (by decide), a_u_row (by decide), a_u_row (by decide)]; exact h1
  · exact h1
theorem doS_fr {I : aI} {J : aJ} {x wh hw r o : Nat} (h : o ≠ 44 ∧ o ≠ 66 ∧ o ≠ 67 ∧ o ≠ 68 ∧ o ≠ 69 ∧ o ≠ 70 ∧ o ≠ 71 ∧ o ≠ 72 ∧ o ≠ 74 ∧ o ≠ 82) : (doS I J x wh hw r).2 o = I o := by
  have h' := h
  obtain ⟨h44, h66, h67, h68, h69, h70, h71, h72, h74, h82⟩ := h
  unfold doS
  split
  · split
    · rfl
    · show a_u (mkS _ _ _ _ _ _) 44 35 _ o = _
      rw [a_u_row h44]; exact mkS_fr h'
  · split
    · rfl
    · show a_u (ite _ _ _) 44 35 _ o = _
      rw [a_u_row h44]
      split
      · exact chS_fr ⟨h67, h70, h72⟩
      · split
        · rw [a_u_row h69, a_u_row h68]
        · split
          · rw [a_u_row h68]
          · rfl
theorem doS_44 {I : aI} {J : aJ} {x wh hw r k : Nat} (h1 : k ≠ 25) (h2 : k ≠ 35) : (doS I J x wh hw r).2 44 k = I 44 k := by
  unfold doS
  split
  · split
    · rfl
    · show a_u (mkS _ _ _ _ _ _) 44 35 _ 44 k = _
      rw [a_u_ne (fun q => h2 q.2)]; exact mkS_44 h1
  · split
    · rfl
    · show a_u (ite _ _ _) 44 35 _ 44 k = _
      rw [a_u_ne (fun q => h2 q.2)]
      split
      · rw [chS_fr (by decide)]
      · split
        · rw [a_u_row (by decide), a_u_row (by decide)]
        · split
          · rw [a_u_row (by decide)]
          · rfl
/-- a step: the failed names, the next action -/
noncomputable abbrev stF (I : aI) (J : aJ) (x wh hw r a : Nat) : aI := a_u (a_u (doS I J x wh hw r).2 81 x (bI (decide (I 81 x ≠ 0) || !(doS I J x wh hw r).1))) 44 44 (nI (a + 1))
noncomputable def stS (I : aI) (J : aJ) (x wh hw r p a : Nat) : aI := if hw = 2 then a_u (stF I J x wh hw r a) 44 43 (-1) else psS (stF I J x wh hw r a) p (a + 1)
theorem AcW_cg {I I2 : aI} {p : Nat} (h79 : I2 79 = I 79) (h80 : I2 80 = I 80) (h : AcW I p) : AcW I2 p := by unfold AcW acN iN at *; rw [h79, h80]; exact h
theorem AcW.ok {I : aI} {p : Nat} (h : AcW I p) {k : Nat} (hk : k < iN I 79 p) : I 80 (128 * p + k) = nI (iN I 80 (128 * p + k)) ∧ iN I 80 (128 * p + k) < 500 ∧ acN I p k < 64 := h.2.2 k hk
theorem stF_fr {I : aI} {J : aJ} {x wh hw r a o : Nat} (h : o ≠ 44 ∧ o ≠ 66 ∧ o ≠ 67 ∧ o ≠ 68 ∧ o ≠ 69 ∧ o ≠ 70 ∧ o ≠ 71 ∧ o ≠ 72 ∧ o ≠ 74 ∧ o ≠ 82) (h81 : o ≠ 81) : stF I J x wh hw r a o = I o := by
  show a_u (a_u _ 81 x _) 44 44 _ o = _
  rw [a_u_row h.1, a_u_row h81]; exact doS_fr h
theorem stF_81 {I : aI} {J : aJ} {x wh hw r a : Nat} (h : B01 I 81) : B01 (stF I J x wh hw r a) 81 := fun j => by
  show a_u (a_u _ 81 x _) 44 44 _ 81 j = 0 ∨ a_u (a_u _ 81 x _) 44 44 _ 81 j = 1
  rw [a_u_row (show 81 ≠ 44 by decide)]
  by_cases e : j = x
  · subst e; rw [a_u_self]; exact bI_01 _
  · rw [a_u_ne (fun q => e q.2), doS_fr (by decide)]; exact h j
theorem stF_44 {I : aI} {J : aJ} {x wh hw r a k : Nat} (h1 : k ≠ 25) (h2 : k ≠ 35) (h3 : k ≠ 44) : stF I J x wh hw r a 44 k = I 44 k := by
  show a_u (a_u _ 81 x _) 44 44 _ 44 k = _
  rw [a_u_ne (fun q => h3 q.2), a_u_row (by decide)]; exact doS_44 h1 h2
