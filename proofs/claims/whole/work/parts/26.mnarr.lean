/-- the values from lo to hi -/
def sRng (lo : Nat) (hi : Int32) : Int64 := sOf (fun j => decide (lo ≤ j) && decide ((j : Int) ≤ hi.toInt)) 64
theorem xb_rng {lo : Nat} {hi : Int32} {j : Nat} : xb (sRng lo hi) j = (decide (j < 64) && (decide (lo ≤ j) && decide ((j : Int) ≤ hi.toInt))) := xb_of (Nat.le_refl _)
theorem rng_step {lo k : Nat} {its : Int64} (hk : k < 64) (h : ∀ j, j < 64 → xb its j = (decide (lo ≤ j) && decide (j < k))) (hlo : lo ≤ k) : ∀ j, j < 64 → xb (its ||| sBit k) j = (decide (lo ≤ j) && decide (j < k + 1)) := fun j hj => by
  rw [xb_or, h j hj, xb_bit hk]
  by_cases e : j = k
  · subst e; simp [hlo]
  · have e2 : decide (j < k + 1) = decide (j < k) := by simp only [decide_eq_decide]; omega
    simp [e, e2]
theorem rng_end {lo k : Nat} {hi : Int32} {its : Int64} (hk : k ≤ 64) (hhi : hi.toInt ≤ 63) (h : ∀ j, j < 64 → xb its j = (decide (lo ≤ j) && decide (j < k))) (hle : ∀ j, j < k → lo ≤ j → (j : Int) ≤ hi.toInt) (hx : ¬ nI k ≤ hi) : its = sRng lo hi := xb_ext fun j hj => by
  rw [h j hj, xb_rng]
  rw [i_le, i_nl k (by omega)] at hx
  by_cases c : lo ≤ j
  · by_cases d : j < k
    · have := hle j d c; simp [c, d, hj, this]
    · have : ¬ (j : Int) ≤ hi.toInt := by omega
      simp [c, d, this]
  · simp [c]
theorem sGreat_eq {x : Int64} {m : Nat} (hm : m ≤ 64) (h : ∀ j, m ≤ j → j < 64 → xb x j = false) (h2 : m = 0 ∨ (0 < m ∧ xb x (m - 1) = true)) : sGreat x = m := by
  have g : ∀ d, m + d ≤ 64 → sGr x (m + d) = m := fun d => by
    induction d with
    | zero =>
      intro _
      rcases h2 with rfl | ⟨h3, h4⟩
      · rfl
      · obtain ⟨q, rfl⟩ : ∃ q, m = q + 1 := ⟨m - 1, by omega⟩
        simp only [Nat.add_zero, sGr]; rw [if_pos (by simpa using h4)]
    | succ d ih =>
      intro hd
      rw [show m + (d + 1) = (m + d) + 1 by omega, sGr, if_neg (by rw [h (m + d) (by omega) (by omega)]; simp)]
      exact ih (by omega)
  have := g (64 - m) (by omega)
  rwa [show m + (64 - m) = 64 by omega] at this
set_option maxRecDepth 100000 in
theorem m_X12_range {T : List aT} {I : aI} {J : aJ} {R : aR} {lo : Nat} (hlo : lo ≤ 64) (hi : Int32) (hhi : hi.toInt ≤ 63) : MX12_range 0 0 [.int (nI lo), .int hi] T I J R (aPure (some (.long (sRng lo hi))) T I J R) := by
  refine a_met (by decide +kernel) a_le (fun X hC hq => ?_)
  show AW X 0 0 0 [some (.int (nI lo)), some (.int hi), none, none, none] [] T I J R
  refine aw_lconst (v := 0) hC dX12_range_0 (by decide) ?_
  refine aw_lstore_n (L2 := [some (.int (nI lo)), some (.int hi), some (.long 0), none, none]) hC dX12_range_1 rfl (by decide) rfl ?_
  refine aw_iload_n hC dX12_range_2 rfl ?_
  refine aw_istore (L2 := [some (.int (nI lo)), some (.int hi), some (.long 0), none, some (.int (nI lo))]) hC dX12_range_3 (by decide) rfl ?_
  have loop : ∀ k, k ≤ 64 → ∀ its : Int64, lo ≤ k → (∀ j, j < 64 → xb its j = (decide (lo ≤ j) && decide (j < k))) → (∀ j, j < k → lo ≤ j → (j : Int) ≤ hi.toInt) → AW X 0 0 5 [some (.int (nI lo)), some (.int hi), some (.long its), none, some (.int (nI k))] [] T I J R := by
    refine a_down 64 (fun k hkl ihl => ?_)
    intro its hlk hits hle
    refine aw_iload hC dX12_range_5 rfl ?_
    refine aw_iload_n hC dX12_range_7 rfl ?_
    refine aw_icmp_gt (tgt := 24) hC dX12_range_8 (by decide) (fun h1 => ?_) (fun h1 => ?_)
    · show AW X 0 0 24 [some (.int (nI lo)), some (.int hi), some (.long its), none, some (.int (nI k))] [] T I J R
      refine aw_lload_n hC dX12_range_24 rfl ?_
      exact aw_lreturn hC hq rfl dX12_range_25 a_le a_le (aPure_l (by exact rng_end (by omega) hhi hits hle (Int32.not_le.mpr (by assumption))))
    · show AW X 0 0 11 [some (.int (nI lo)), some (.int hi), some (.long its), none, some (.int (nI k))] [] T I J R
      refine aw_lload_n hC dX12_range_11 rfl ?_
      refine aw_lconst (v := 1) hC dX12_range_12 (by decide) ?_
      refine aw_iload hC dX12_range_13 rfl ?_
      refine aw_lshl hC dX12_range_15 ?_
      refine aw_lor hC dX12_range_16 ?_
      refine aw_lstore_n (L2 := [some (.int (nI lo)), some (.int hi), some (.long (its ||| (1 <<< ((nI k).toInt64 &&& 63)))), none, some (.int (nI k))]) hC dX12_range_17 rfl (by decide) rfl ?_
      refine aw_iinc (v := nI (k + 1)) (L2 := [some (.int (nI lo)), some (.int hi), some (.long (its ||| (1 <<< ((nI k).toInt64 &&& 63)))), none, some (.int (nI (k + 1)))]) hC dX12_range_18 rfl (nI_inc _) (by decide) rfl ?_
      refine aw_goto (tgt := 5) hC dX12_range_21 (by decide) ?_
      have hk9 : k < 64 := by have h9 := (i_le _ _).mp (Int32.not_lt.mp (by assumption)); rw [i_nl k (by omega)] at h9; omega
      have hk8 : (k : Int) ≤ hi.toInt := by have h9 := (i_le _ _).mp (Int32.not_lt.mp (by assumption)); rw [i_nl k (by omega)] at h9; exact h9
      rw [sBit_shl hk9]
      exact ihl hk9 _ (by omega) (rng_step hk9 hits hlk) (fun j hj hj2 => Decidable.byCases (fun e : j = k => by rw [e]; exact hk8) (fun e => hle j (by omega) hj2))
  exact loop lo (by omega) 0 (Nat.le_refl _) (fun j hj => by rw [xb_0]; by_cases c : lo ≤ j <;> simp [c] <;> omega) (fun j hj hj2 => absurd hj (by omega))
set_option maxRecDepth 100000 in
theorem m_X12_greatest {T : List aT} {I : aI} {J : aJ} {R : aR} (x : Int64) : MX12_greatest 0 0 [.long x] T I J R (aPure (some (.int (nI (sGreat x) + (-1)))) T I J R) := by
  refine a_met (by decide +kernel) a_le (fun X hC hq => ?_)
  show AW X 0 0 0 [some (.long x), none, none] [] T I J R
  refine aw_bipush (v := 63) hC dX12_greatest_0 (by decide) ?_
  refine aw_istore_n (L2 := [some (.long x), none, some (.int 63)]) hC dX12_greatest_2 rfl (by decide) rfl ?_
  have loop : ∀ m, m ≤ 64 → (∀ j, m ≤ j → j < 64 → xb x j = false) → AW X 0 0 3 [some (.long x), none, some (.int (nI m + (-1)))] [] T I J R := by
    intro m
    induction m with
    | zero =>
      intro _ hno
      rw [show nI 0 + (-1) = (-1 : Int32) from by decide]
      refine aw_iload_n hC dX12_greatest_3 rfl ?_
      refine aw_if_lt (tgt := 23) hC dX12_greatest_4 (by decide) (fun _ => ?_) (fun h1 => absurd h1 (by decide))
      show AW X 0 0 23 [some (.long x), none, some (.int (-1))] [] T I J R
      refine aw_iload_n hC dX12_greatest_23 rfl ?_
      exact aw_ireturn hC hq rfl dX12_greatest_24 a_le a_le (aPure_i (by rw [sGreat_eq (m := 0) (by omega) hno (Or.inl rfl)]; decide))
    | succ m ih =>
      intro hm hno
      rw [pk_m1]
      refine aw_iload_n hC dX12_greatest_3 rfl ?_
      refine aw_if_lt (tgt := 23) hC dX12_greatest_4 (by decide) (fun h2 => ?_) (fun h2 => ?_)
      · show AW X 0 0 23 [some (.long x), none, some (.int (nI m))] [] T I J R
        have h2n : m < 0 := (nI_ltI (a := m) (b := 0) (by omega) (by omega)).mp h2
        refine aw_iload_n hC dX12_greatest_23 rfl ?_
        exact aw_ireturn hC hq rfl dX12_greatest_24 a_le a_le (by first | (exfalso; omega) | exact aPure_i (by rw [sGreat_eq (m := m + 1) (by omega) hno (Or.inr ⟨by omega, by cases e : xb x m with | true => simpa using e | false => exact absurd ((lgc0 _ _).mpr ((xb_test (by omega)).mpr e)) (by assumption)⟩), pk_m1]))
      · show AW X 0 0 7 [some (.long x), none, some (.int (nI m))] [] T I J R
        have h2n : ¬ m < 0 := fun q9 => h2 ((nI_ltI (a := m) (b := 0) (by omega) (by omega)).mpr q9)
        refine aw_lload_n hC dX12_greatest_7 rfl ?_
        refine aw_iload_n hC dX12_greatest_8 rfl ?_
        refine aw_lushr hC dX12_greatest_9 ?_
        refine aw_lconst (v := 1) hC dX12_greatest_10 (by decide) ?_
        refine aw_land hC dX12_greatest_11 ?_
        refine aw_lconst (v := 0) hC dX12_greatest_12 (by decide) ?_
        refine aw_lcmp hC dX12_greatest_13 ?_
        refine aw_if_ne (tgt := 23) hC dX12_greatest_14 (by decide) (fun h3 => ?_) (fun h3 => ?_)
        · show AW X 0 0 23 [some (.long x), none, some (.int (nI m))] [] T I J R
          refine aw_iload_n hC dX12_greatest_23 rfl ?_
          exact aw_ireturn hC hq rfl dX12_greatest_24 a_le a_le (by first | (exfalso; omega) | exact aPure_i (by rw [sGreat_eq (m := m + 1) (by omega) hno (Or.inr ⟨by omega, by cases e : xb x m with | true => simpa using e | false => exact absurd ((lgc0 _ _).mpr ((xb_test (by omega)).mpr e)) (by assumption)⟩), pk_m1]))
        · show AW X 0 0 17 [some (.long x), none, some (.int (nI m))] [] T I J R
          refine aw_iinc (v := (nI m) + (-1)) (L2 := [some (.long x), none, some (.int ((nI m) + (-1)))]) hC dX12_greatest_17 rfl rfl (by decide) rfl ?_
          refine aw_goto (tgt := 3) hC dX12_greatest_20 (by decide) ?_
          exact ih (by omega) (fun j h1 h2 => Decidable.byCases (fun e : j = m => by rw [e]; exact (xb_test (by omega)).mp ((lgc0 _ _).mp (by assumption))) (fun e => hno j (by omega) h2))
  exact loop 64 (Nat.le_refl _) (fun j h1 h2 => absurd h1 (by omega))
set_option maxRecDepth 100000 in
theorem m_X12_leavesN {T : List aT} {I : aI} {J : aJ} {R : aR} (hT : aPT T) (hR : aPR R) {f : Nat} (hf : f < 10) (x : Int64) : MX12_leaves 0 0 [.ref 44, .int (nI f), .long x] T I J R (aPure none T I (a_u J 88 f (J 88 f &&& x)) R) := by
  refine a_met (by decide +kernel) a_le (fun X hC hq => ?_)
  show AW X 0 0 0 [some (.ref 44), some (.int (nI f)), some (.long x), none] [] T I J R
  refine aw_aload_n hC dX12_leaves_0 rfl ?_
  refine aw_getR hC dX12_leaves_1 aF_X12_147 rfl (tg_44 hT) (pr_44_54 hR) ?_
  refine aw_iload_n hC dX12_leaves_4 rfl ?_
  refine aw_dup2 hC dX12_leaves_5 rfl rfl ?_
  refine aw_laload_k (j := f) hC dX12_leaves_6 (tg_88 hT) (nI_clamp (by omega)) (vp_in_nI (by omega) (by decide)) ?_
  refine aw_lload_n hC dX12_leaves_7 rfl ?_
  refine aw_land hC dX12_leaves_8 ?_
  refine aw_lastore_k (j := f) hC dX12_leaves_9 (tg_88 hT) (nI_clamp (by omega)) (vp_in_nI (by omega) (by decide)) ?_
  exact aw_return hC hq rfl dX12_leaves_10 a_le a_le aPure_v
theorem a_u_ur {α : Type} {f : Nat → Nat → α} {o k : Nat} {v : α} : a_u f o k v = a_ur f o (fun j => if j = k then v else f o j) := by
  funext a b; simp only [a_u, a_ur]; by_cases h : a = o <;> by_cases h2 : b = k <;> simp_all
def sUpd (S : Nat → Int64) (f : Nat) (v : Int64) : Nat → Int64 := fun j => if j = f then S f &&& v else S j
theorem lv_lem {J : aJ} {S : Nat → Int64} {f : Nat} {x : Int64} : a_u (a_ur J 88 S) 88 f (S f &&& x) = a_ur J 88 (sUpd S f x) := by
  rw [a_ur_put]; rfl
def sBelow (x : Int64) : Int64 := sRng 0 (nI (sGreat x) + (-1) - 1)
def sAbove (x : Int64) : Int64 := if x = 0 then 0 else sRng (sLeast x + 1) 63
def nBy (I : aI) (s : Nat) (S : Nat → Int64) : Nat → Int64 :=
  if I 45 s = 0 then sUpd S (iN I 46 s) (sBit (iN I 47 s))
  else if I 45 s = 1 then sUpd S (iN I 46 s) (sRng (iN I 47 s) (I 48 s))
  else if I 45 s = 2 then sUpd S (iN I 46 s) (sBit (iN I 47 s) ||| sBit (iN I 48 s))
  else if I 45 s = 3 then sUpd S (iN I 46 s) (sBit (iN I 47 s) ^^^ (-1))
  else if I 45 s = 5 then sUpd (sUpd S (iN I 46 s) (sShift (S (iN I 47 s)) (I 48 s))) (iN I 47 s) (sShift (sUpd S (iN I 46 s) (sShift (S (iN I 47 s)) (I 48 s)) (iN I 46 s)) (-(I 48 s)))
  else if I 45 s = 6 then sUpd (sUpd S (iN I 46 s) (sBelow (S (iN I 47 s)))) (iN I 47 s) (sAbove (sUpd S (iN I 46 s) (sBelow (S (iN I 47 s))) (iN I 46 s)))
  else S
theorem sAb0 {x : Int64} (h : lg_cmp x 0 = 0) : sAbove x = 0 := if_pos ((lgc0 _ _).mp h)
theorem sAb1 {x : Int64} (h : ¬ lg_cmp x 0 = 0) : sAbove x = sRng (sLeast x + 1) 63 := if_neg (fun q => h ((lgc0 _ _).mpr q))
theorem gr_ub (x : Int64) : (nI (sGreat x) + (-1) - 1 : Int32).toInt ≤ 63 := by
  have h : sGreat x ≤ 64 := sGr_le x 64
  have e : (nI (sGreat x) + (-1) - 1 : Int32) = nI (sGreat x) - nI 2 := by
    rw [Int32.sub_eq_add_neg, Int32.sub_eq_add_neg, Int32.add_assoc]; rfl
  rw [e, pk_sub_toInt (by omega) (by decide)]; omega
theorem sLeast_le (x : Int64) (h : x ≠ 0) : sLeast x < 64 := by
  rcases Nat.lt_or_ge (sLeast x) 64 with c | c
  · exact c
  · exfalso; apply h
    refine xb_zero_iff.mpr fun j hj => ?_
    cases e : xb x j with
    | false => rfl
    | true =>
      exfalso
      unfold sLeast at c
      cases f : (List.range 64).find? (fun j => xb x j) with
      | none => rw [List.find?_eq_none] at f; exact f j (List.mem_range.mpr hj) e
      | some v => rw [f] at c; have := List.mem_of_find?_eq_some f; rw [List.mem_range] at this; simp at c; omega
set_option maxRecDepth 100000 in
theorem m_X12_narrowsBy {T : List aT} {I : aI} {J : aJ} {R : aR} (hT : aPT T) (hR : aPR R) {n s : Nat} (hS : SW I n) (hs : s < n) : MX12_narrowsBy 0 0 [.ref 44, .int (nI s)] T I J R (aPure none T I (a_ur J 88 (nBy I s (J 88))) R) := by
  refine a_met (by decide +kernel) a_le (fun X hC hq => ?_)
  show AW X 0 0 0 [some (.ref 44), some (.int (nI s)), none, none] [] T I J R
  rw [show J = a_ur J 88 (J 88) from (a_ur_id (fun _ => rfl)).symm]
  have hb1 := hS.n30
  have hb2 := (hS.fd s hs).2
  have hb3 := (hS.on s hs).2
  refine aw_aload_n hC dX12_narrowsBy_0 rfl ?_
  refine aw_getR hC dX12_narrowsBy_1 aF_X12_13 rfl (tg_44 hT) (pr_44_2 hR) ?_
  refine aw_iload_n hC dX12_narrowsBy_4 rfl ?_
  refine aw_iaload_k (j := s) hC dX12_narrowsBy_5 (tg_46 hT) (nI_clamp (by omega)) (vp_in_nI (by omega) (by decide)) ?_
  have hb1 := hS.fd s (by omega)
  rw [hb1.1]
  refine aw_istore_n (L2 := [some (.ref 44), some (.int (nI s)), some (.int (nI (iN I 46 s))), none]) hC dX12_narrowsBy_6 rfl (by decide) rfl ?_
  refine aw_aload_n hC dX12_narrowsBy_7 rfl ?_
  refine aw_getR hC dX12_narrowsBy_8 aF_X12_16 rfl (tg_44 hT) (pr_44_3 hR) ?_
  refine aw_iload_n hC dX12_narrowsBy_11 rfl ?_
  refine aw_iaload_k (j := s) hC dX12_narrowsBy_12 (tg_47 hT) (nI_clamp (by omega)) (vp_in_nI (by omega) (by decide)) ?_
  have hb2 := hS.on s (by omega)
  rw [hb2.1]
  refine aw_istore_n (L2 := [some (.ref 44), some (.int (nI s)), some (.int (nI (iN I 46 s))), some (.int (nI (iN I 47 s)))]) hC dX12_narrowsBy_13 rfl (by decide) rfl ?_
  refine aw_aload_n hC dX12_narrowsBy_14 rfl ?_
  refine aw_getR hC dX12_narrowsBy_15 aF_X12_7 rfl (tg_44 hT) (pr_44_1 hR) ?_
  refine aw_iload_n hC dX12_narrowsBy_18 rfl ?_
  refine aw_iaload_k (j := s) hC dX12_narrowsBy_19 (tg_45 hT) (nI_clamp (by omega)) (vp_in_nI (by omega) (by decide)) ?_
  have hb3 := hS.kd s (by omega)
  rw [hb3.1]
  rcases sw_cases (nI (iN I 45 s)) with hs4 | hs4 | hs4 | hs4 | hs4 | hs4 | hs4 | hs4 | hs4 | hs4 | hs4 | hs4 | hs4 | hs4
  · refine aw_tableIn (off := 44) (tgt := 64) hC dX12_narrowsBy_20 (by rw [hs4]; decide) (by rw [hs4]; decide) (by rw [hs4]; rfl) (by decide) ?_
    refine aw_aload_n hC dX12_narrowsBy_64 rfl ?_
    refine aw_iload_n hC dX12_narrowsBy_65 rfl ?_
    refine aw_lconst (v := 1) hC dX12_narrowsBy_66 (by decide) ?_
    refine aw_iload_n hC dX12_narrowsBy_67 rfl ?_
    refine aw_lshl hC dX12_narrowsBy_68 ?_
    rw [show 1 <<< ((nI (iN I 47 s)).toInt64 &&& 63) = sBit (iN I 47 s) from sBit_shl (by omega)]
    refine kX12_231 hC rfl (m_X12_leavesN hT hR (f := (iN I 46 s)) (by omega) (sBit (iN I 47 s))) dX12_narrowsBy_69 (tg_44 hT) rfl a_le a_le a_le a_le a_le rfl aPure_x (aPure_k ?_)
    rw [show a_u (a_ur J 88 (J 88)) 88 (iN I 46 s) ((a_ur J 88 (J 88)) 88 (iN I 46 s) &&& (sBit (iN I 47 s))) = a_ur J 88 (sUpd (J 88) (iN I 46 s) (sBit (iN I 47 s))) from by rw [show (a_ur J 88 (J 88)) 88 = J 88 from a_ur_self, lv_lem]]
    show AW X 0 0 72 [some (.ref 44), some (.int (nI s)), some (.int (nI (iN I 46 s))), some (.int (nI (iN I 47 s)))] [] T I (a_ur J 88 (sUpd (J 88) (iN I 46 s) (sBit (iN I 47 s)))) R
    refine aw_goto (tgt := 231) hC dX12_narrowsBy_72 (by decide) ?_
    exact aw_return hC hq rfl dX12_narrowsBy_231 a_le a_le (aPure_ev rfl (by clear hC hq; rw [nBy, (hS.kd s hs).1]; simp only [hs4]; first | rfl | (simp only [sBelow]; first | (rw [sAb0 (by assumption)]; done) | (rw [sAb1 (by assumption)]; done) | (rw [sAb0 (by assumption)]; rfl) | (rw [sAb1 (by assumption)]; rfl)) | grind) rfl)
  · refine aw_tableIn (off := 55) (tgt := 75) hC dX12_narrowsBy_20 (by rw [hs4]; decide) (by rw [hs4]; decide) (by rw [hs4]; rfl) (by decide) ?_
    refine aw_aload_n hC dX12_narrowsBy_75 rfl ?_
    refine aw_iload_n hC dX12_narrowsBy_76 rfl ?_
    refine aw_iload_n hC dX12_narrowsBy_77 rfl ?_
    refine aw_aload_n hC dX12_narrowsBy_78 rfl ?_
    refine aw_getR hC dX12_narrowsBy_79 aF_X12_19 rfl (tg_44 hT) (pr_44_4 hR) ?_
    refine aw_iload_n hC dX12_narrowsBy_82 rfl ?_
    refine aw_iaload_k (j := s) hC dX12_narrowsBy_83 (tg_48 hT) (nI_clamp (by omega)) (vp_in_nI (by omega) (by decide)) ?_
    have htw := hS.tw s hs (Or.inl ((nI_eq (a := iN I 45 s) (b := 1) (by omega) (by omega)).mp hs4))
    refine kX12_235 hC rfl (m_X12_range (lo := (iN I 47 s)) (by omega) (I 48 s) (by rw [htw.1, nI_toInt (by omega)]; omega)) dX12_narrowsBy_84 rfl a_le a_le a_le a_le a_le rfl aPure_x (aPure_k ?_)
    show AW X 0 0 87 [some (.ref 44), some (.int (nI s)), some (.int (nI (iN I 46 s))), some (.int (nI (iN I 47 s)))] [.long (sRng (iN I 47 s) (I 48 s)), .int (nI (iN I 46 s)), .ref 44] T I (a_ur J 88 (J 88)) R
    refine kX12_231 hC rfl (m_X12_leavesN hT hR (f := (iN I 46 s)) (by omega) (sRng (iN I 47 s) (I 48 s))) dX12_narrowsBy_87 (tg_44 hT) rfl a_le a_le a_le a_le a_le rfl aPure_x (aPure_k ?_)
    rw [show a_u (a_ur J 88 (J 88)) 88 (iN I 46 s) ((a_ur J 88 (J 88)) 88 (iN I 46 s) &&& (sRng (iN I 47 s) (I 48 s))) = a_ur J 88 (sUpd (J 88) (iN I 46 s) (sRng (iN I 47 s) (I 48 s))) from by rw [show (a_ur J 88 (J 88)) 88 = J 88 from a_ur_self, lv_lem]]
    show AW X 0 0 90 [some (.ref 44), some (.int (nI s)), some (.int (nI (iN I 46 s))), some (.int (nI (iN I 47 s)))] [] T I (a_ur J 88 (sUpd (J 88) (iN I 46 s) (sRng (iN I 47 s) (I 48 s)))) R
    refine aw_goto (tgt := 231) hC dX12_narrowsBy_90 (by decide) ?_
    exact aw_return hC hq rfl dX12_narrowsBy_231 a_le a_le (aPure_ev rfl (by clear hC hq; rw [nBy, (hS.kd s hs).1]; simp only [hs4]; first | rfl | (simp only [sBelow]; first | (rw [sAb0 (by assumption)]; done) | (rw [sAb1 (by assumption)]; done) | (rw [sAb0 (by assumption)]; rfl) | (rw [sAb1 (by assumption)]; rfl)) | grind) rfl)
  · refine aw_tableIn (off := 73) (tgt := 93) hC dX12_narrowsBy_20 (by rw [hs4]; decide) (by rw [hs4]; decide) (by rw [hs4]; rfl) (by decide) ?_
    refine aw_aload_n hC dX12_narrowsBy_93 rfl ?_
    refine aw_iload_n hC dX12_narrowsBy_94 rfl ?_
    refine aw_lconst (v := 1) hC dX12_narrowsBy_95 (by decide) ?_
    refine aw_iload_n hC dX12_narrowsBy_96 rfl ?_
    refine aw_lshl hC dX12_narrowsBy_97 ?_
    rw [show 1 <<< ((nI (iN I 47 s)).toInt64 &&& 63) = sBit (iN I 47 s) from sBit_shl (by omega)]
    refine aw_lconst (v := 1) hC dX12_narrowsBy_98 (by decide) ?_
    refine aw_aload_n hC dX12_narrowsBy_99 rfl ?_
    refine aw_getR hC dX12_narrowsBy_100 aF_X12_19 rfl (tg_44 hT) (pr_44_4 hR) ?_
    refine aw_iload_n hC dX12_narrowsBy_103 rfl ?_
    refine aw_iaload_k (j := s) hC dX12_narrowsBy_104 (tg_48 hT) (nI_clamp (by omega)) (vp_in_nI (by omega) (by decide)) ?_
    have htw := hS.tw s hs (Or.inr ((nI_eq (a := iN I 45 s) (b := 2) (by omega) (by omega)).mp hs4))
    rw [htw.1]
    refine aw_lshl hC dX12_narrowsBy_105 ?_
    rw [show 1 <<< ((nI (iN I 48 s)).toInt64 &&& 63) = sBit (iN I 48 s) from sBit_shl (by omega)]
    refine aw_lor hC dX12_narrowsBy_106 ?_
    refine kX12_231 hC rfl (m_X12_leavesN hT hR (f := (iN I 46 s)) (by omega) ((sBit (iN I 47 s)) ||| (sBit (iN I 48 s)))) dX12_narrowsBy_107 (tg_44 hT) rfl a_le a_le a_le a_le a_le rfl aPure_x (aPure_k ?_)
    rw [show a_u (a_ur J 88 (J 88)) 88 (iN I 46 s) ((a_ur J 88 (J 88)) 88 (iN I 46 s) &&& ((sBit (iN I 47 s)) ||| (sBit (iN I 48 s)))) = a_ur J 88 (sUpd (J 88) (iN I 46 s) ((sBit (iN I 47 s)) ||| (sBit (iN I 48 s)))) from by rw [show (a_ur J 88 (J 88)) 88 = J 88 from a_ur_self, lv_lem]]
    show AW X 0 0 110 [some (.ref 44), some (.int (nI s)), some (.int (nI (iN I 46 s))), some (.int (nI (iN I 47 s)))] [] T I (a_ur J 88 (sUpd (J 88) (iN I 46 s) ((sBit (iN I 47 s)) ||| (sBit (iN I 48 s))))) R
    refine aw_goto (tgt := 231) hC dX12_narrowsBy_110 (by decide) ?_
    exact aw_return hC hq rfl dX12_narrowsBy_231 a_le a_le (aPure_ev rfl (by clear hC hq; rw [nBy, (hS.kd s hs).1]; simp only [hs4]; first | rfl | (simp only [sBelow]; first | (rw [sAb0 (by assumption)]; done) | (rw [sAb1 (by assumption)]; done) | (rw [sAb0 (by assumption)]; rfl) | (rw [sAb1 (by assumption)]; rfl)) | grind) rfl)
  · refine aw_tableIn (off := 93) (tgt := 113) hC dX12_narrowsBy_20 (by rw [hs4]; decide) (by rw [hs4]; decide) (by rw [hs4]; rfl) (by decide) ?_
    refine aw_aload_n hC dX12_narrowsBy_113 rfl ?_
    refine aw_iload_n hC dX12_narrowsBy_114 rfl ?_
    refine aw_lconst (v := 1) hC dX12_narrowsBy_115 (by decide) ?_
    refine aw_iload_n hC dX12_narrowsBy_116 rfl ?_
    refine aw_lshl hC dX12_narrowsBy_117 ?_
    rw [show 1 <<< ((nI (iN I 47 s)).toInt64 &&& 63) = sBit (iN I 47 s) from sBit_shl (by omega)]
    refine aw_ldc2 (v := (-1)) hC dX12_narrowsBy_118 gK_X12_222 ?_
    refine aw_lxor hC dX12_narrowsBy_121 ?_
    refine kX12_231 hC rfl (m_X12_leavesN hT hR (f := (iN I 46 s)) (by omega) ((sBit (iN I 47 s)) ^^^ (-1))) dX12_narrowsBy_122 (tg_44 hT) rfl a_le a_le a_le a_le a_le rfl aPure_x (aPure_k ?_)
    rw [show a_u (a_ur J 88 (J 88)) 88 (iN I 46 s) ((a_ur J 88 (J 88)) 88 (iN I 46 s) &&& ((sBit (iN I 47 s)) ^^^ (-1))) = a_ur J 88 (sUpd (J 88) (iN I 46 s) ((sBit (iN I 47 s)) ^^^ (-1))) from by rw [show (a_ur J 88 (J 88)) 88 = J 88 from a_ur_self, lv_lem]]
    show AW X 0 0 125 [some (.ref 44), some (.int (nI s)), some (.int (nI (iN I 46 s))), some (.int (nI (iN I 47 s)))] [] T I (a_ur J 88 (sUpd (J 88) (iN I 46 s) ((sBit (iN I 47 s)) ^^^ (-1)))) R
    refine aw_goto (tgt := 231) hC dX12_narrowsBy_125 (by decide) ?_
    exact aw_return hC hq rfl dX12_narrowsBy_231 a_le a_le (aPure_ev rfl (by clear hC hq; rw [nBy, (hS.kd s hs).1]; simp only [hs4]; first | rfl | (simp only [sBelow]; first | (rw [sAb0 (by assumption)]; done) | (rw [sAb1 (by assumption)]; done) | (rw [sAb0 (by assumption)]; rfl) | (rw [sAb1 (by assumption)]; rfl)) | grind) rfl)
  · refine aw_tableIn (off := 211) (tgt := 231) hC dX12_narrowsBy_20 (by rw [hs4]; decide) (by rw [hs4]; decide) (by rw [hs4]; rfl) (by decide) ?_
    exact aw_return hC hq rfl dX12_narrowsBy_231 a_le a_le (aPure_ev rfl (by clear hC hq; rw [nBy, (hS.kd s hs).1]; simp only [hs4]; first | rfl | (simp only [sBelow]; first | (rw [sAb0 (by assumption)]; done) | (rw [sAb1 (by assumption)]; done) | (rw [sAb0 (by assumption)]; rfl) | (rw [sAb1 (by assumption)]; rfl)) | grind) rfl)
  · refine aw_tableIn (off := 108) (tgt := 128) hC dX12_narrowsBy_20 (by rw [hs4]; decide) (by rw [hs4]; decide) (by rw [hs4]; rfl) (by decide) ?_
    have h56 := hS.k56 s hs (Or.inl ((nI_eq (a := iN I 45 s) (b := 5) (by omega) (by omega)).mp hs4))
    refine aw_aload_n hC dX12_narrowsBy_128 rfl ?_
    refine aw_iload_n hC dX12_narrowsBy_129 rfl ?_
    refine aw_aload_n hC dX12_narrowsBy_130 rfl ?_
    refine aw_getR hC dX12_narrowsBy_131 aF_X12_147 rfl (tg_44 hT) (pr_44_54 hR) ?_
    refine aw_iload_n hC dX12_narrowsBy_134 rfl ?_
    refine aw_laload_k (j := (iN I 47 s)) hC dX12_narrowsBy_135 (tg_88 hT) (nI_clamp (by omega)) (vp_in_nI (by omega) (by decide)) ?_
    rw [a_ur_self (f := J) (o := 88) (g := J 88)]
    refine aw_aload_n hC dX12_narrowsBy_136 rfl ?_
    refine aw_getR hC dX12_narrowsBy_137 aF_X12_19 rfl (tg_44 hT) (pr_44_4 hR) ?_
    refine aw_iload_n hC dX12_narrowsBy_140 rfl ?_
    refine aw_iaload_k (j := s) hC dX12_narrowsBy_141 (tg_48 hT) (nI_clamp (by omega)) (vp_in_nI (by omega) (by decide)) ?_
    refine kX12_239 hC rfl (m_X12_shifted ((J 88) (iN I 47 s)) (I 48 s)) dX12_narrowsBy_142 rfl a_le a_le a_le a_le a_le rfl aPure_x (aPure_k ?_)
    show AW X 0 0 145 [some (.ref 44), some (.int (nI s)), some (.int (nI (iN I 46 s))), some (.int (nI (iN I 47 s)))] [.long (sShift ((J 88) (iN I 47 s)) (I 48 s)), .int (nI (iN I 46 s)), .ref 44] T I (a_ur J 88 (J 88)) R
    refine kX12_231 hC rfl (m_X12_leavesN hT hR (f := (iN I 46 s)) (by omega) (sShift ((J 88) (iN I 47 s)) (I 48 s))) dX12_narrowsBy_145 (tg_44 hT) rfl a_le a_le a_le a_le a_le rfl aPure_x (aPure_k ?_)
    rw [show a_u (a_ur J 88 (J 88)) 88 (iN I 46 s) ((a_ur J 88 (J 88)) 88 (iN I 46 s) &&& (sShift ((J 88) (iN I 47 s)) (I 48 s))) = a_ur J 88 (sUpd (J 88) (iN I 46 s) (sShift ((J 88) (iN I 47 s)) (I 48 s))) from by rw [show (a_ur J 88 (J 88)) 88 = J 88 from a_ur_self, lv_lem]]
    show AW X 0 0 148 [some (.ref 44), some (.int (nI s)), some (.int (nI (iN I 46 s))), some (.int (nI (iN I 47 s)))] [] T I (a_ur J 88 (sUpd (J 88) (iN I 46 s) (sShift ((J 88) (iN I 47 s)) (I 48 s)))) R
    refine aw_aload_n hC dX12_narrowsBy_148 rfl ?_
    refine aw_iload_n hC dX12_narrowsBy_149 rfl ?_
    refine aw_aload_n hC dX12_narrowsBy_150 rfl ?_
    refine aw_getR hC dX12_narrowsBy_151 aF_X12_147 rfl (tg_44 hT) (pr_44_54 hR) ?_
    refine aw_iload_n hC dX12_narrowsBy_154 rfl ?_
    refine aw_laload_k (j := (iN I 46 s)) hC dX12_narrowsBy_155 (tg_88 hT) (nI_clamp (by omega)) (vp_in_nI (by omega) (by decide)) ?_
    rw [a_ur_self (f := J) (o := 88) (g := sUpd (J 88) (iN I 46 s) (sShift ((J 88) (iN I 47 s)) (I 48 s)))]
    refine aw_aload_n hC dX12_narrowsBy_156 rfl ?_
    refine aw_getR hC dX12_narrowsBy_157 aF_X12_19 rfl (tg_44 hT) (pr_44_4 hR) ?_
    refine aw_iload_n hC dX12_narrowsBy_160 rfl ?_
    refine aw_iaload_k (j := s) hC dX12_narrowsBy_161 (tg_48 hT) (nI_clamp (by omega)) (vp_in_nI (by omega) (by decide)) ?_
    refine aw_ineg hC dX12_narrowsBy_162 ?_
    refine kX12_239 hC rfl (m_X12_shifted ((sUpd (J 88) (iN I 46 s) (sShift ((J 88) (iN I 47 s)) (I 48 s))) (iN I 46 s)) (-(I 48 s))) dX12_narrowsBy_163 rfl a_le a_le a_le a_le a_le rfl aPure_x (aPure_k ?_)
    show AW X 0 0 166 [some (.ref 44), some (.int (nI s)), some (.int (nI (iN I 46 s))), some (.int (nI (iN I 47 s)))] [.long (sShift ((sUpd (J 88) (iN I 46 s) (sShift ((J 88) (iN I 47 s)) (I 48 s))) (iN I 46 s)) (-(I 48 s))), .int (nI (iN I 47 s)), .ref 44] T I (a_ur J 88 (sUpd (J 88) (iN I 46 s) (sShift ((J 88) (iN I 47 s)) (I 48 s)))) R
    refine kX12_231 hC rfl (m_X12_leavesN hT hR (f := (iN I 47 s)) (by omega) (sShift ((sUpd (J 88) (iN I 46 s) (sShift ((J 88) (iN I 47 s)) (I 48 s))) (iN I 46 s)) (-(I 48 s)))) dX12_narrowsBy_166 (tg_44 hT) rfl a_le a_le a_le a_le a_le rfl aPure_x (aPure_k ?_)
    rw [show a_u (a_ur J 88 (sUpd (J 88) (iN I 46 s) (sShift ((J 88) (iN I 47 s)) (I 48 s)))) 88 (iN I 47 s) ((a_ur J 88 (sUpd (J 88) (iN I 46 s) (sShift ((J 88) (iN I 47 s)) (I 48 s)))) 88 (iN I 47 s) &&& (sShift ((sUpd (J 88) (iN I 46 s) (sShift ((J 88) (iN I 47 s)) (I 48 s))) (iN I 46 s)) (-(I 48 s)))) = a_ur J 88 (sUpd (sUpd (J 88) (iN I 46 s) (sShift ((J 88) (iN I 47 s)) (I 48 s))) (iN I 47 s) (sShift ((sUpd (J 88) (iN I 46 s) (sShift ((J 88) (iN I 47 s)) (I 48 s))) (iN I 46 s)) (-(I 48 s)))) from by rw [show (a_ur J 88 (sUpd (J 88) (iN I 46 s) (sShift ((J 88) (iN I 47 s)) (I 48 s)))) 88 = sUpd (J 88) (iN I 46 s) (sShift ((J 88) (iN I 47 s)) (I 48 s)) from a_ur_self, lv_lem]]
    show AW X 0 0 169 [some (.ref 44), some (.int (nI s)), some (.int (nI (iN I 46 s))), some (.int (nI (iN I 47 s)))] [] T I (a_ur J 88 (sUpd (sUpd (J 88) (iN I 46 s) (sShift ((J 88) (iN I 47 s)) (I 48 s))) (iN I 47 s) (sShift ((sUpd (J 88) (iN I 46 s) (sShift ((J 88) (iN I 47 s)) (I 48 s))) (iN I 46 s)) (-(I 48 s))))) R
    refine aw_goto (tgt := 231) hC dX12_narrowsBy_169 (by decide) ?_
    exact aw_return hC hq rfl dX12_narrowsBy_231 a_le a_le (aPure_ev rfl (by clear hC hq; rw [nBy, (hS.kd s hs).1]; simp only [hs4]; first | rfl | (simp only [sBelow]; first | (rw [sAb0 (by assumption)]; done) | (rw [sAb1 (by assumption)]; done) | (rw [sAb0 (by assumption)]; rfl) | (rw [sAb1 (by assumption)]; rfl)) | grind) rfl)
  · refine aw_tableIn (off := 152) (tgt := 172) hC dX12_narrowsBy_20 (by rw [hs4]; decide) (by rw [hs4]; decide) (by rw [hs4]; rfl) (by decide) ?_
    have h56 := hS.k56 s hs (Or.inr ((nI_eq (a := iN I 45 s) (b := 6) (by omega) (by omega)).mp hs4))
    refine aw_aload_n hC dX12_narrowsBy_172 rfl ?_
    refine aw_iload_n hC dX12_narrowsBy_173 rfl ?_
    refine aw_iconst (v := 0) hC dX12_narrowsBy_174 (by decide) ?_
    refine aw_aload_n hC dX12_narrowsBy_175 rfl ?_
    refine aw_getR hC dX12_narrowsBy_176 aF_X12_147 rfl (tg_44 hT) (pr_44_54 hR) ?_
    refine aw_iload_n hC dX12_narrowsBy_179 rfl ?_
    refine aw_laload_k (j := (iN I 47 s)) hC dX12_narrowsBy_180 (tg_88 hT) (nI_clamp (by omega)) (vp_in_nI (by omega) (by decide)) ?_
    rw [a_ur_self (f := J) (o := 88) (g := J 88)]
    refine kX12_243 hC rfl (m_X12_greatest ((J 88) (iN I 47 s))) dX12_narrowsBy_181 rfl a_le a_le a_le a_le a_le rfl aPure_x (aPure_k ?_)
    show AW X 0 0 184 [some (.ref 44), some (.int (nI s)), some (.int (nI (iN I 46 s))), some (.int (nI (iN I 47 s)))] [.int (nI (sGreat ((J 88) (iN I 47 s))) + (-1)), .int 0, .int (nI (iN I 46 s)), .ref 44] T I (a_ur J 88 (J 88)) R
    refine aw_iconst (v := 1) hC dX12_narrowsBy_184 (by decide) ?_
    refine aw_isub hC dX12_narrowsBy_185 ?_
    refine kX12_235 hC rfl (m_X12_range (lo := 0) (by omega) ((nI (sGreat ((J 88) (iN I 47 s))) + (-1)) - 1) (gr_ub _)) dX12_narrowsBy_186 rfl a_le a_le a_le a_le a_le rfl aPure_x (aPure_k ?_)
    show AW X 0 0 189 [some (.ref 44), some (.int (nI s)), some (.int (nI (iN I 46 s))), some (.int (nI (iN I 47 s)))] [.long (sRng 0 ((nI (sGreat ((J 88) (iN I 47 s))) + (-1)) - 1)), .int (nI (iN I 46 s)), .ref 44] T I (a_ur J 88 (J 88)) R
    refine kX12_231 hC rfl (m_X12_leavesN hT hR (f := (iN I 46 s)) (by omega) (sRng 0 ((nI (sGreat ((J 88) (iN I 47 s))) + (-1)) - 1))) dX12_narrowsBy_189 (tg_44 hT) rfl a_le a_le a_le a_le a_le rfl aPure_x (aPure_k ?_)
    rw [show a_u (a_ur J 88 (J 88)) 88 (iN I 46 s) ((a_ur J 88 (J 88)) 88 (iN I 46 s) &&& (sRng 0 ((nI (sGreat ((J 88) (iN I 47 s))) + (-1)) - 1))) = a_ur J 88 (sUpd (J 88) (iN I 46 s) (sRng 0 ((nI (sGreat ((J 88) (iN I 47 s))) + (-1)) - 1))) from by rw [show (a_ur J 88 (J 88)) 88 = J 88 from a_ur_self, lv_lem]]
    show AW X 0 0 192 [some (.ref 44), some (.int (nI s)), some (.int (nI (iN I 46 s))), some (.int (nI (iN I 47 s)))] [] T I (a_ur J 88 (sUpd (J 88) (iN I 46 s) (sRng 0 ((nI (sGreat ((J 88) (iN I 47 s))) + (-1)) - 1)))) R
    refine aw_aload_n hC dX12_narrowsBy_192 rfl ?_
    refine aw_iload_n hC dX12_narrowsBy_193 rfl ?_
    refine aw_aload_n hC dX12_narrowsBy_194 rfl ?_
    refine aw_getR hC dX12_narrowsBy_195 aF_X12_147 rfl (tg_44 hT) (pr_44_54 hR) ?_
    refine aw_iload_n hC dX12_narrowsBy_198 rfl ?_
    refine aw_laload_k (j := (iN I 46 s)) hC dX12_narrowsBy_199 (tg_88 hT) (nI_clamp (by omega)) (vp_in_nI (by omega) (by decide)) ?_
    rw [a_ur_self (f := J) (o := 88) (g := sUpd (J 88) (iN I 46 s) (sRng 0 ((nI (sGreat ((J 88) (iN I 47 s))) + (-1)) - 1)))]
    refine aw_lconst (v := 0) hC dX12_narrowsBy_200 (by decide) ?_
    refine aw_lcmp hC dX12_narrowsBy_201 ?_
    refine aw_if_ne (tgt := 209) hC dX12_narrowsBy_202 (by decide) (fun h5 => ?_) (fun h5 => ?_)
    · show AW X 0 0 209 [some (.ref 44), some (.int (nI s)), some (.int (nI (iN I 46 s))), some (.int (nI (iN I 47 s)))] [.int (nI (iN I 47 s)), .ref 44] T I (a_ur J 88 (sUpd (J 88) (iN I 46 s) (sRng 0 ((nI (sGreat ((J 88) (iN I 47 s))) + (-1)) - 1)))) R
      have hl9 := sLeast_le _ (fun q => absurd ((lgc0 _ _).mpr q) (by assumption))
      refine aw_aload_n hC dX12_narrowsBy_209 rfl ?_
      refine aw_getR hC dX12_narrowsBy_210 aF_X12_147 rfl (tg_44 hT) (pr_44_54 hR) ?_
      refine aw_iload_n hC dX12_narrowsBy_213 rfl ?_
      refine aw_laload_k (j := (iN I 46 s)) hC dX12_narrowsBy_214 (tg_88 hT) (nI_clamp (by omega)) (vp_in_nI (by omega) (by decide)) ?_
      rw [a_ur_self (f := J) (o := 88) (g := sUpd (J 88) (iN I 46 s) (sRng 0 ((nI (sGreat ((J 88) (iN I 47 s))) + (-1)) - 1)))]
      refine kX12_247 hC rfl (m_X12_least ((sUpd (J 88) (iN I 46 s) (sRng 0 ((nI (sGreat ((J 88) (iN I 47 s))) + (-1)) - 1))) (iN I 46 s))) dX12_narrowsBy_215 rfl a_le a_le a_le a_le a_le rfl aPure_x (aPure_k ?_)
      show AW X 0 0 218 [some (.ref 44), some (.int (nI s)), some (.int (nI (iN I 46 s))), some (.int (nI (iN I 47 s)))] [.int (nI (sLeast ((sUpd (J 88) (iN I 46 s) (sRng 0 ((nI (sGreat ((J 88) (iN I 47 s))) + (-1)) - 1))) (iN I 46 s)))), .int (nI (iN I 47 s)), .ref 44] T I (a_ur J 88 (sUpd (J 88) (iN I 46 s) (sRng 0 ((nI (sGreat ((J 88) (iN I 47 s))) + (-1)) - 1)))) R
      refine aw_iconst (v := 1) hC dX12_narrowsBy_218 (by decide) ?_
      refine aw_iadd hC dX12_narrowsBy_219 ?_
      rw [show (nI (sLeast ((sUpd (J 88) (iN I 46 s) (sRng 0 ((nI (sGreat ((J 88) (iN I 47 s))) + (-1)) - 1))) (iN I 46 s)))) + 1 = nI ((sLeast ((sUpd (J 88) (iN I 46 s) (sRng 0 ((nI (sGreat ((J 88) (iN I 47 s))) + (-1)) - 1))) (iN I 46 s))) + 1) from nI_add (sLeast ((sUpd (J 88) (iN I 46 s) (sRng 0 ((nI (sGreat ((J 88) (iN I 47 s))) + (-1)) - 1))) (iN I 46 s))) 1]
      refine aw_bipush (v := 63) hC dX12_narrowsBy_220 (by decide) ?_
      refine kX12_235 hC rfl (m_X12_range (lo := ((sLeast ((sUpd (J 88) (iN I 46 s) (sRng 0 ((nI (sGreat ((J 88) (iN I 47 s))) + (-1)) - 1))) (iN I 46 s))) + 1)) (by omega) (63 : Int32) (by decide)) dX12_narrowsBy_222 rfl a_le a_le a_le a_le a_le rfl aPure_x (aPure_k ?_)
      show AW X 0 0 225 [some (.ref 44), some (.int (nI s)), some (.int (nI (iN I 46 s))), some (.int (nI (iN I 47 s)))] [.long (sRng ((sLeast ((sUpd (J 88) (iN I 46 s) (sRng 0 ((nI (sGreat ((J 88) (iN I 47 s))) + (-1)) - 1))) (iN I 46 s))) + 1) (63 : Int32)), .int (nI (iN I 47 s)), .ref 44] T I (a_ur J 88 (sUpd (J 88) (iN I 46 s) (sRng 0 ((nI (sGreat ((J 88) (iN I 47 s))) + (-1)) - 1)))) R
      refine kX12_231 hC rfl (m_X12_leavesN hT hR (f := (iN I 47 s)) (by omega) (sRng ((sLeast ((sUpd (J 88) (iN I 46 s) (sRng 0 ((nI (sGreat ((J 88) (iN I 47 s))) + (-1)) - 1))) (iN I 46 s))) + 1) (63 : Int32))) dX12_narrowsBy_225 (tg_44 hT) rfl a_le a_le a_le a_le a_le rfl aPure_x (aPure_k ?_)
      rw [show a_u (a_ur J 88 (sUpd (J 88) (iN I 46 s) (sRng 0 ((nI (sGreat ((J 88) (iN I 47 s))) + (-1)) - 1)))) 88 (iN I 47 s) ((a_ur J 88 (sUpd (J 88) (iN I 46 s) (sRng 0 ((nI (sGreat ((J 88) (iN I 47 s))) + (-1)) - 1)))) 88 (iN I 47 s) &&& (sRng ((sLeast ((sUpd (J 88) (iN I 46 s) (sRng 0 ((nI (sGreat ((J 88) (iN I 47 s))) + (-1)) - 1))) (iN I 46 s))) + 1) (63 : Int32))) = a_ur J 88 (sUpd (sUpd (J 88) (iN I 46 s) (sRng 0 ((nI (sGreat ((J 88) (iN I 47 s))) + (-1)) - 1))) (iN I 47 s) (sRng ((sLeast ((sUpd (J 88) (iN I 46 s) (sRng 0 ((nI (sGreat ((J 88) (iN I 47 s))) + (-1)) - 1))) (iN I 46 s))) + 1) (63 : Int32))) from by rw [show (a_ur J 88 (sUpd (J 88) (iN I 46 s) (sRng 0 ((nI (sGreat ((J 88) (iN I 47 s))) + (-1)) - 1)))) 88 = sUpd (J 88) (iN I 46 s) (sRng 0 ((nI (sGreat ((J 88) (iN I 47 s))) + (-1)) - 1)) from a_ur_self, lv_lem]]
      show AW X 0 0 228 [some (.ref 44), some (.int (nI s)), some (.int (nI (iN I 46 s))), some (.int (nI (iN I 47 s)))] [] T I (a_ur J 88 (sUpd (sUpd (J 88) (iN I 46 s) (sRng 0 ((nI (sGreat ((J 88) (iN I 47 s))) + (-1)) - 1))) (iN I 47 s) (sRng ((sLeast ((sUpd (J 88) (iN I 46 s) (sRng 0 ((nI (sGreat ((J 88) (iN I 47 s))) + (-1)) - 1))) (iN I 46 s))) + 1) (63 : Int32)))) R
      refine aw_goto (tgt := 231) hC dX12_narrowsBy_228 (by decide) ?_
      exact aw_return hC hq rfl dX12_narrowsBy_231 a_le a_le (aPure_ev rfl (by clear hC hq; rw [nBy, (hS.kd s hs).1]; simp only [hs4]; first | rfl | (simp only [sBelow]; first | (rw [sAb0 (by assumption)]; done) | (rw [sAb1 (by assumption)]; done) | (rw [sAb0 (by assumption)]; rfl) | (rw [sAb1 (by assumption)]; rfl)) | grind) rfl)
    · show AW X 0 0 205 [some (.ref 44), some (.int (nI s)), some (.int (nI (iN I 46 s))), some (.int (nI (iN I 47 s)))] [.int (nI (iN I 47 s)), .ref 44] T I (a_ur J 88 (sUpd (J 88) (iN I 46 s) (sRng 0 ((nI (sGreat ((J 88) (iN I 47 s))) + (-1)) - 1)))) R
      refine aw_lconst (v := 0) hC dX12_narrowsBy_205 (by decide) ?_
      refine aw_goto (tgt := 225) hC dX12_narrowsBy_206 (by decide) ?_
      refine kX12_231 hC rfl (m_X12_leavesN hT hR (f := (iN I 47 s)) (by omega) 0) dX12_narrowsBy_225 (tg_44 hT) rfl a_le a_le a_le a_le a_le rfl aPure_x (aPure_k ?_)
      rw [show a_u (a_ur J 88 (sUpd (J 88) (iN I 46 s) (sRng 0 ((nI (sGreat ((J 88) (iN I 47 s))) + (-1)) - 1)))) 88 (iN I 47 s) ((a_ur J 88 (sUpd (J 88) (iN I 46 s) (sRng 0 ((nI (sGreat ((J 88) (iN I 47 s))) + (-1)) - 1)))) 88 (iN I 47 s) &&& 0) = a_ur J 88 (sUpd (sUpd (J 88) (iN I 46 s) (sRng 0 ((nI (sGreat ((J 88) (iN I 47 s))) + (-1)) - 1))) (iN I 47 s) 0) from by rw [show (a_ur J 88 (sUpd (J 88) (iN I 46 s) (sRng 0 ((nI (sGreat ((J 88) (iN I 47 s))) + (-1)) - 1)))) 88 = sUpd (J 88) (iN I 46 s) (sRng 0 ((nI (sGreat ((J 88) (iN I 47 s))) + (-1)) - 1)) from a_ur_self, lv_lem]]
      show AW X 0 0 228 [some (.ref 44), some (.int (nI s)), some (.int (nI (iN I 46 s))), some (.int (nI (iN I 47 s)))] [] T I (a_ur J 88 (sUpd (sUpd (J 88) (iN I 46 s) (sRng 0 ((nI (sGreat ((J 88) (iN I 47 s))) + (-1)) - 1))) (iN I 47 s) 0)) R
      refine aw_goto (tgt := 231) hC dX12_narrowsBy_228 (by decide) ?_
      exact aw_return hC hq rfl dX12_narrowsBy_231 a_le a_le (aPure_ev rfl (by clear hC hq; rw [nBy, (hS.kd s hs).1]; simp only [hs4]; first | rfl | (simp only [sBelow]; first | (rw [sAb0 (by assumption)]; done) | (rw [sAb1 (by assumption)]; done) | (rw [sAb0 (by assumption)]; rfl) | (rw [sAb1 (by assumption)]; rfl)) | grind) rfl)
  · refine aw_tableOut (tgt := 231) hC dX12_narrowsBy_20 (by rw [hs4]; decide) (by decide) ?_
    exact aw_return hC hq rfl dX12_narrowsBy_231 a_le a_le (aPure_ev rfl (by clear hC hq; rw [nBy, (hS.kd s hs).1]; simp only [hs4]; first | rfl | (simp only [sBelow]; first | (rw [sAb0 (by assumption)]; done) | (rw [sAb1 (by assumption)]; done) | (rw [sAb0 (by assumption)]; rfl) | (rw [sAb1 (by assumption)]; rfl)) | grind) rfl)
  · refine aw_tableOut (tgt := 231) hC dX12_narrowsBy_20 (by rw [hs4]; decide) (by decide) ?_
    exact aw_return hC hq rfl dX12_narrowsBy_231 a_le a_le (aPure_ev rfl (by clear hC hq; rw [nBy, (hS.kd s hs).1]; simp only [hs4]; first | rfl | (simp only [sBelow]; first | (rw [sAb0 (by assumption)]; done) | (rw [sAb1 (by assumption)]; done) | (rw [sAb0 (by assumption)]; rfl) | (rw [sAb1 (by assumption)]; rfl)) | grind) rfl)
  · refine aw_tableOut (tgt := 231) hC dX12_narrowsBy_20 (by rw [hs4]; decide) (by decide) ?_
    exact aw_return hC hq rfl dX12_narrowsBy_231 a_le a_le (aPure_ev rfl (by clear hC hq; rw [nBy, (hS.kd s hs).1]; simp only [hs4]; first | rfl | (simp only [sBelow]; first | (rw [sAb0 (by assumption)]; done) | (rw [sAb1 (by assumption)]; done) | (rw [sAb0 (by assumption)]; rfl) | (rw [sAb1 (by assumption)]; rfl)) | grind) rfl)
  · refine aw_tableOut (tgt := 231) hC dX12_narrowsBy_20 (by rw [hs4]; decide) (by decide) ?_
    exact aw_return hC hq rfl dX12_narrowsBy_231 a_le a_le (aPure_ev rfl (by clear hC hq; rw [nBy, (hS.kd s hs).1]; simp only [hs4]; first | rfl | (simp only [sBelow]; first | (rw [sAb0 (by assumption)]; done) | (rw [sAb1 (by assumption)]; done) | (rw [sAb0 (by assumption)]; rfl) | (rw [sAb1 (by assumption)]; rfl)) | grind) rfl)
  · refine aw_tableOut (tgt := 231) hC dX12_narrowsBy_20 (by rw [hs4]; decide) (by decide) ?_
    exact aw_return hC hq rfl dX12_narrowsBy_231 a_le a_le (aPure_ev rfl (by clear hC hq; rw [nBy, (hS.kd s hs).1]; simp only [hs4]; first | rfl | (simp only [sBelow]; first | (rw [sAb0 (by assumption)]; done) | (rw [sAb1 (by assumption)]; done) | (rw [sAb0 (by assumption)]; rfl) | (rw [sAb1 (by assumption)]; rfl)) | grind) rfl)
  · refine aw_tableOut (tgt := 231) hC dX12_narrowsBy_20 (by rw [hs4]; decide) (by decide) ?_
    exact aw_return hC hq rfl dX12_narrowsBy_231 a_le a_le (aPure_ev rfl (by clear hC hq; rw [nBy, (hS.kd s hs).1]; simp only [hs4]; first | rfl | (simp only [sBelow]; first | (rw [sAb0 (by assumption)]; done) | (rw [sAb1 (by assumption)]; done) | (rw [sAb0 (by assumption)]; rfl) | (rw [sAb1 (by assumption)]; rfl)) | grind) rfl)
  · refine aw_tableOut (tgt := 231) hC dX12_narrowsBy_20 (by omega) (by decide) ?_
    exact aw_return hC hq rfl dX12_narrowsBy_231 a_le a_le (by exfalso; have h9 := (hS.kd s hs).2; rw [nI_toInt (by omega)] at hs4; omega)
