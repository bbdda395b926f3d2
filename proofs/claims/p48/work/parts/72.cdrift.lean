/-- rows that no entry changes are the same; the names below x have the same entries -/
def PtE (A B : aI) (x : Nat) : Prop := (∀ o, o ≠ 44 → o ≠ 69 → o ≠ 70 → o ≠ 71 → o ≠ 72 → o ≠ 73 → o ≠ 91 → B o = A o) ∧ B 44 57 = A 44 57 ∧ ∀ z, z < x → B 69 z = A 69 z ∧ B 71 z = A 71 z ∧ B 72 z = A 72 z ∧ ∀ a, a < 3 → B 70 (3 * z + a) = A 70 (3 * z + a) ∧ B 73 (3 * z + a) = A 73 (3 * z + a)
theorem PtE.le {A B : aI} {x y : Nat} (h : PtE A B x) (hy : y ≤ x) : PtE A B y := ⟨h.1, h.2.1, fun z hz => h.2.2 z (by omega)⟩
theorem PtE.r {A B : aI} {x : Nat} (h : PtE A B x) {o : Nat} (h1 : 44 < o ∧ o < 69) : B o = A o := h.1 o (by omega) (by omega) (by omega) (by omega) (by omega) (by omega) (by omega)
theorem PtE.trans {A B C : aI} {x : Nat} (h : PtE A B x) (g : PtE B C x) : PtE A C x := ⟨fun o a b c d e f k => (g.1 o a b c d e f k).trans (h.1 o a b c d e f k), g.2.1.trans h.2.1, fun z hz => ⟨(g.2.2 z hz).1.trans (h.2.2 z hz).1, (g.2.2 z hz).2.1.trans (h.2.2 z hz).2.1, (g.2.2 z hz).2.2.1.trans (h.2.2 z hz).2.2.1, fun a ha => ⟨((g.2.2 z hz).2.2.2 a ha).1.trans ((h.2.2 z hz).2.2.2 a ha).1, ((g.2.2 z hz).2.2.2 a ha).2.trans ((h.2.2 z hz).2.2.2 a ha).2⟩⟩⟩
theorem PtE.refl {A : aI} {x : Nat} : PtE A A x := ⟨fun _ _ _ _ _ _ _ _ => rfl, rfl, fun _ _ => ⟨rfl, rfl, rfl, fun _ _ => ⟨rfl, rfl⟩⟩⟩
theorem sGives_pt {A B : aI} {J : aJ} {x a : Nat} (hso : SO3 A) (hx : x < 64) (ha : a < 3) (h : PtE A B (16 * (x / 16))) (h91 : ∀ y, y < 16 * (x / 16) → B 91 y = A 91 y) : sGives B J x a = sGives A J x a := by
  have h58 := h.r (o := 58) (by decide)
  have h61 := h.r (o := 61) (by decide)
  have h62 := h.r (o := 62) (by decide)
  have h65 := h.r (o := 65) (by decide)
  have e : ∀ j, iN B 65 j = iN A 65 j := fun j => by unfold iN; rw [h65]
  have e2 : ∀ j, iN B 62 j = iN A 62 j := fun j => by unfold iN; rw [h62]
  have e3 : ∀ s, gvA B J x s = gvA A J x s := fun s => by unfold gvA iN; rw [sVal_cg h.2.1 rfl, h61, h62]
  rw [sGives, sGives, e, h65, h58, e2, e3]
  by_cases c : A 65 (3 * (x / 16) + a) = -1 ∨ A 58 (3 * iN A 62 (x / 16) + a) &&& 2 ≠ 0
  · rw [if_pos c, if_pos c]
  · rw [if_neg c, if_neg c]
    by_cases d : iN A 65 (3 * (x / 16) + a) < 10
    · rw [if_pos d, if_pos d]
    · rw [if_neg d, if_neg d]
      rcases hso (3 * (x / 16) + a) (by omega) with q | q
      · exact absurd (Or.inl q) c
      · have hlw := q.2.2 (by omega)
        have hz := h.2.2 (16 * ((iN A 65 (3 * (x / 16) + a) - 10) / 3) + x % 16) (by omega)
        have h7 := hz.2.2.2 ((iN A 65 (3 * (x / 16) + a) - 10) % 3) (by omega)
        have h9 := h91 (16 * ((iN A 65 (3 * (x / 16) + a) - 10) / 3) + x % 16) (by omega)
        unfold gvB iN at *
        rw [hz.1, h7.1, h9, h61, h62]
theorem sCmp_pt {A B : aI} {J : aJ} {x : Nat} (hso : SO3 A) (hx : x < 64) (h : PtE A B (x + 1)) (h91 : ∀ y, y < 16 * (x / 16) → B 91 y = A 91 y) : sCmp B J x = sCmp A J x := by
  have h58 := h.r (o := 58) (by decide)
  have h62 := h.r (o := 62) (by decide)
  have h63 := h.r (o := 63) (by decide)
  have h64 := h.r (o := 64) (by decide)
  have hz := h.2.2 x (by omega)
  have g : ∀ a, a < 3 → sDf B J x a = sDf A J x a := fun a ha => by
    have hg := sGives_pt (J := J) hso hx ha (h.le (by omega)) h91
    have h7 := hz.2.2.2 a ha
    have e : sDiff B J x a ↔ sDiff A J x a := by unfold sDiff iN; rw [hg, h58, h62, h7.1, h7.2, hz.2.2.1]
    exact Bool.eq_iff_iff.mpr (by rw [sDf_iff, sDf_iff]; exact e)
  have gF : anyB (fF B J x) 3 = anyB (fF A J x) 3 := anyB_cg (fun j hj => by simp only [fF]; rw [g j hj, h58]; unfold iN; rw [h62])
  have gD : anyB (fD B J x) 3 = anyB (fD A J x) 3 := anyB_cg (fun j hj => g j hj)
  have gK : sKept B x = sKept A x := by simp only [sKept]; unfold iN; rw [h64, h63]
  rw [sCmp, sCmp, gF, gD, gK, hz.1, hz.2.1]
/-- the needs of the names below k -/
def NdR (m : aI) (mj : aJ) (N : Nat → Int32) (k : Nat) : Prop := ∀ y, y < k → N y = sCmp (a_ur m 91 N) mj y
theorem m91_pt {A B : aI} {x : Nat} {N M : Nat → Int32} (h : PtE A B x) : PtE (a_ur A 91 N) (a_ur B 91 M) x := ⟨fun o a b c d e f g => by rw [a_ur_ne g, a_ur_ne g]; exact h.1 o a b c d e f g, by rw [a_ur_ne (by decide), a_ur_ne (by decide)]; exact h.2.1, fun z hz => by
  rw [a_ur_ne (show 69 ≠ 91 by decide), a_ur_ne (show 69 ≠ 91 by decide), a_ur_ne (show 70 ≠ 91 by decide), a_ur_ne (show 70 ≠ 91 by decide), a_ur_ne (show 71 ≠ 91 by decide), a_ur_ne (show 71 ≠ 91 by decide), a_ur_ne (show 72 ≠ 91 by decide), a_ur_ne (show 72 ≠ 91 by decide), a_ur_ne (show 73 ≠ 91 by decide), a_ur_ne (show 73 ≠ 91 by decide)]; exact h.2.2 z hz⟩
theorem NdR.pt {A B : aI} {mj : aJ} {N : Nat → Int32} {k : Nat} (hso : SO3 A) (hk : k ≤ 64) (h : NdR A mj N k) (p : PtE A B k) : NdR B mj N k := fun y hy => by
  rw [h y hy]
  exact (sCmp_pt (A := a_ur A 91 N) (SO3_cg (a_ur_ne (by decide)) hso) (by omega) (m91_pt (p.le (by omega))) (fun z _ => by rw [a_ur_self, a_ur_self])).symm
theorem NdR.put {m : aI} {mj : aJ} {N : Nat → Int32} {k g : Nat} (hg : g ≤ 4) (hk : k < 16 * g) (hso : SO3 m) (h : NdR m mj N k) : NdR m mj (fun j => if j = k then sCmp (a_ur m 91 N) mj k else N j) (k + 1) := cmp_put hg hk hso h
theorem Nd_uniq {A B : aI} {mj : aJ} {N M : Nat → Int32} {k : Nat} (hso : SO3 A) (hk : k ≤ 64) (p : PtE A B k) (h : NdR A mj N k) (g : NdR B mj M k) : ∀ y, y < k → M y = N y := by
  intro y
  induction y using Nat.strongRecOn with
  | _ y ih =>
    intro hy
    rw [h y hy, g y hy]
    exact sCmp_pt (A := a_ur A 91 N) (SO3_cg (a_ur_ne (by decide)) hso) (by omega) (m91_pt (p.le (by omega))) (fun z hz => by rw [a_ur_self, a_ur_self]; exact ih z (by omega) (by omega))
/-- what the model's sources give by a store that is like this one below x -/
theorem gv_pt {A B : aI} {mj : aJ} {N : Nat → Int32} {g x a : Nat} (hg : g ≤ 4) (hso : SO3 A) (hx : x < 16 * g) (ha : a < 3) (p : PtE A B x) (h : NdR A mj N x) : gvV B (A 44 57) mj g x a = sGives (a_ur A 91 N) mj x a := by
  obtain ⟨C, hC⟩ : ∃ C, C = a_u B 44 57 (A 44 57) := ⟨_, rfl⟩
  have pC : PtE A C x := ⟨fun o h1 h2 h3 h4 h5 h6 h7 => by rw [hC, a_u_row h1]; exact p.1 o h1 h2 h3 h4 h5 h6 h7, by rw [hC, a_u_self], fun z hz => by rw [hC, a_u_row (by decide), a_u_row (by decide), a_u_row (by decide), a_u_row (by decide), a_u_row (by decide)]; exact p.2.2 z hz⟩
  have hsoC : SO3 C := SO3_cg (pC.r (by decide)) hso
  have hN : NdR C mj (cFr C mj (16 * g)) x := fun y hy => cFr_ok hg hsoC (16 * g) (Nat.le_refl _) y (by omega)
  have u := Nd_uniq hso (by omega) pC h hN
  unfold gvV; rw [← hC]
  exact sGives_pt (A := a_ur A 91 N) (SO3_cg (a_ur_ne (by decide)) hso) (by omega) ha (m91_pt (pC.le (by omega))) (fun y hy => by rw [a_ur_self, a_ur_self]; exact u y (by omega))
abbrev EnT (T : List aT) (R : aR) (q : Nat) : Prop := T[q]? = some (.inr 3) ∧ R q 1 = some (q + 1) ∧ T[q + 1]? = some (.inl (.int, 3)) ∧ R q 4 = some (q + 2) ∧ T[q + 2]? = some (.inl (.int, 3))
abbrev enW (I : aI) (q a : Nat) (v : Int32) : aI := a_u (a_u I (q + 1) a v) q 3 (I q 3 &&& ((1 <<< ((nI a) &&& 31)) ^^^ (-1)))
set_option maxRecDepth 100000 in
theorem m_X3_write {T : List aT} {I : aI} {J : aJ} {R : aR} (hT : aPT T) (hR : aPR R) {q a : Nat} (hq9 : EnT T R q) (ha : a < 3) (v : Int32) : MX3_write 0 0 [.ref q, .int (nI a), .int v] T I J R (aPure none T (enW I q a v) J R) := by
  refine a_met (by decide +kernel) a_le (fun X hC hq => ?_)
  show AW X 0 0 0 [some (.ref q), some (.int (nI a)), some (.int v)] [] T I J R
  refine aw_aload_n hC dX3_write_0 rfl ?_
  refine aw_getR hC dX3_write_1 aF_X3_9 rfl hq9.1 hq9.2.1 ?_
  refine aw_iload_n hC dX3_write_4 rfl ?_
  refine aw_iload_n hC dX3_write_5 rfl ?_
  refine aw_iastore_k (j := a) hC dX3_write_6 hq9.2.2.1 (nI_clamp (by omega)) (vp_in_nI (by omega) (by decide)) ?_
  refine aw_aload_n hC dX3_write_7 rfl ?_
  refine aw_dup hC dX3_write_8 rfl ?_
  refine aw_getI hC dX3_write_9 aF_X3_22 rfl hq9.1 ?_
  rw [a_u_row (show q ≠ q + 1 by omega)]
  refine aw_iconst (v := 1) hC dX3_write_12 (by decide) ?_
  refine aw_iload_n hC dX3_write_13 rfl ?_
  refine aw_ishl hC dX3_write_14 ?_
  refine aw_iconst (v := (-1)) hC dX3_write_15 (by decide) ?_
  refine aw_ixor hC dX3_write_16 ?_
  refine aw_iand hC dX3_write_17 ?_
  refine aw_putI hC dX3_write_18 aF_X3_22 rfl rfl hq9.1 ?_
  exact aw_return hC hq rfl dX3_write_21 a_le a_le aPure_v
set_option maxRecDepth 100000 in
theorem m_X3_follow {T : List aT} {I : aI} {J : aJ} {R : aR} (hT : aPT T) (hR : aPR R) {q a : Nat} (hq9 : EnT T R q) (ha : a < 3) (v b : Int32) : MX3_follow 0 0 [.ref q, .int (nI a), .int v, .int b] T I J R (aPure none T (if b = -1 then enW I q a v else a_u (a_u (enW I q a v) q 3 (enW I q a v q 3 ||| (1 <<< ((nI a) &&& 31)))) (q + 2) a b) J R) := by
  refine a_met (by decide +kernel) a_le (fun X hC hq => ?_)
  show AW X 0 0 0 [some (.ref q), some (.int (nI a)), some (.int v), some (.int b)] [] T I J R
  refine aw_aload_n hC dX3_follow_0 rfl ?_
  refine aw_iload_n hC dX3_follow_1 rfl ?_
  refine aw_iload_n hC dX3_follow_2 rfl ?_
  refine kX3_25 hC rfl (m_X3_write (I := I) hT hR (q := q) (a := a) hq9 (by omega) v) dX3_follow_3 hq9.1 rfl a_le a_le a_le a_le a_le rfl aPure_x (aPure_k ?_)
  show AW X 0 0 6 [some (.ref q), some (.int (nI a)), some (.int v), some (.int b)] [] T (enW I q a v) J R
  refine aw_iload_n hC dX3_follow_6 rfl ?_
  refine aw_iconst (v := (-1)) hC dX3_follow_7 (by decide) ?_
  by_cases hb1 : b = -1
  · refine aw_icmp_eq (tgt := 30) hC dX3_follow_8 (by decide) (fun _ => ?_) (fun h => absurd hb1 h)
    show AW X 0 0 30 [some (.ref q), some (.int (nI a)), some (.int v), some (.int b)] [] T (enW I q a v) J R
    exact aw_return hC hq rfl dX3_follow_30 a_le a_le (by rw [if_pos hb1]; exact aPure_v)
  · refine aw_icmp_eq (tgt := 30) hC dX3_follow_8 (by decide) (fun h => absurd h hb1) (fun _ => ?_)
    show AW X 0 0 11 [some (.ref q), some (.int (nI a)), some (.int v), some (.int b)] [] T (enW I q a v) J R
    refine aw_aload_n hC dX3_follow_11 rfl ?_
    refine aw_dup hC dX3_follow_12 rfl ?_
    refine aw_getI hC dX3_follow_13 aF_X3_22 rfl hq9.1 ?_
    refine aw_iconst (v := 1) hC dX3_follow_16 (by decide) ?_
    refine aw_iload_n hC dX3_follow_17 rfl ?_
    refine aw_ishl hC dX3_follow_18 ?_
    refine aw_ior hC dX3_follow_19 ?_
    refine aw_putI hC dX3_follow_20 aF_X3_22 rfl rfl hq9.1 ?_
    refine aw_aload_n hC dX3_follow_23 rfl ?_
    refine aw_getR hC dX3_follow_24 aF_X3_15 rfl hq9.1 hq9.2.2.2.1 ?_
    refine aw_iload_n hC dX3_follow_27 rfl ?_
    refine aw_iload_n hC dX3_follow_28 rfl ?_
    refine aw_iastore_k (j := a) hC dX3_follow_29 hq9.2.2.2.2 (nI_clamp (by omega)) (vp_in_nI (by omega) (by decide)) ?_
    exact aw_return hC hq rfl dX3_follow_30 a_le a_le (by rw [if_neg hb1]; exact aPure_v)
