theorem CSt.putr {T : List aT} {I : aI} {R : aR} {m : aI} {n a : Nat} {sq : Nat → Nat} {t : aT} {g : Nat → Int32} (h : CSt T I R m n sq) (ho : T[a]? = some t) (hc : t ≠ .inr 8) (h1 : 1 ≠ a) : CSt T (a_ur I a g) R m n sq := h.cg (by rw [a_ur_ne h1]) (fun s hs _ _ => by rw [a_ur_ne (h.ne hs ho hc)])
theorem n51 {m : aI} {n s : Nat} (hS : SW m n) (hs : s < n) : 0 < m 51 s ↔ 0 < iN m 51 s := by
  have q := hS.vs s hs
  rw [q.1]; exact nI_ltI (a := 0) (b := iN m 51 s) (by omega) (by omega)
/-- a statement asks for what it wants -/
abbrev askW (m : aI) (w : Nat → Int32) (s : Nat) : Prop := (0 ≤ m 49 s ∧ m 52 s = 0) ∨ (m 49 s < 0 ∧ 0 < m 51 s ∧ bt (w (iN m 50 s)) (iN m 51 s) = true)
/-- the wanted versions of the class as a row of the model -/
def wG (w : Nat → Int32) : Nat → Int32 := fun j => bI (bt (w (j / 3)) (j % 3 + 1))
theorem wG_at (w : Nat → Int32) {p v : Nat} (h0 : 0 < v) (hv : v < 4) : wG w (3 * p + v - 1) = bI (bt (w p) v) := by
  unfold wG
  rw [show (3 * p + v - 1) / 3 = p by omega, show (3 * p + v - 1) % 3 + 1 = v by omega]
theorem wants_ask {m : aI} {n s : Nat} {w : Nat → Int32} (hS : SW m n) (hs : s < n) : wantsW m (fun j => a_ur m 83 (wG w) 83 j ≠ 0) s ↔ (askW m w s ∧ m 45 s = 12) := by
  unfold wantsW askW
  simp only [a_ur_self]
  have e : m 49 s < 0 → 0 < m 51 s → (wG w (3 * m 50 s + m 51 s - 1).toNatClampNeg ≠ 0 ↔ bt (w (iN m 50 s)) (iN m 51 s) = true) := fun h1 h2 => by
    obtain ⟨p1, p2⟩ := hS.pk s hs h1
    obtain ⟨v1, v2⟩ := hS.vs s hs
    have h3 := (n51 hS hs).mp h2
    rw [p1, v1, ix9 p2 h3 v2, nI_clamp (by omega), wG_at w h3 v2]
    exact bI_n0
  constructor
  · rintro ⟨h, k⟩
    exact ⟨h.imp id (fun q => ⟨q.1, q.2.1, (e q.1 q.2.1).mp q.2.2⟩), k⟩
  · rintro ⟨h, k⟩
    exact ⟨h.imp id (fun q => ⟨q.1, q.2.1, (e q.1 q.2.1).mpr q.2.2⟩), k⟩
abbrev pubV (m : aI) (p v : Nat) : Nat := min (iN m 53 p) v
theorem LW.cl {m : aI} {n k : Nat} {gs : Int32} {w w2 : Nat → Int32} (hS : SW m n) (hk : k < n) (h : LW m (a_ur m 83 (wG w)) (a_ur m 83 (wG w2)) n k gs) :
    (¬ (askW m w2 k ∧ m 45 k = 12) → LW m (a_ur m 83 (wG w)) (a_ur m 83 (wG w2)) n (k + 1) gs) ∧
    (m 45 k = 12 → pubV m (iN m 46 k) (iN m 47 k) = 0 ∨ bt (w2 (iN m 46 k)) (pubV m (iN m 46 k) (iN m 47 k)) = true → LW m (a_ur m 83 (wG w)) (a_ur m 83 (wG w2)) n (k + 1) gs) ∧
    (askW m w2 k → m 45 k = 12 → pubV m (iN m 46 k) (iN m 47 k) ≠ 0 → bt (w2 (iN m 46 k)) (pubV m (iN m 46 k) (iN m 47 k)) = false → LW m (a_ur m 83 (wG w)) (a_ur m 83 (wG (fun q => if q = iN m 46 k then w2 (iN m 46 k) ||| iBit (nI (pubV m (iN m 46 k) (iN m 47 k))) else w2 q))) n (k + 1) 1) := by
  refine ⟨fun ne => h.skip (fun q => absurd ((wants_ask hS hk).mp q) ne), fun h12 hz => h.skip (fun q h0 => ?_), fun ha h12 hp hb => ?_⟩
  · obtain ⟨a1, a2, a3⟩ := hS.k12 k hk (by rw [iN, h12]; rfl)
    rcases hz with hz | hz
    · unfold pubV at hz; omega
    · show a_ur m 83 (wG w2) 83 (idxW m k) ≠ 0
      rw [a_ur_self]
      unfold idxW
      rw [wG_at w2 (by omega) (by omega)]
      exact bI_n0.mpr hz
  · obtain ⟨a1, a2, a3⟩ := hS.k12 k hk (by rw [iN, h12]; rfl)
    have hv3 : pubV m (iN m 46 k) (iN m 47 k) < 4 := by unfold pubV; omega
    have ei : idxW m k = 3 * iN m 46 k + pubV m (iN m 46 k) (iN m 47 k) - 1 := rfl
    have hat := wG_at w2 (p := iN m 46 k) (by omega) hv3
    have q := LW.put hS h hk ((wantsW_fr (I2 := a_ur m 83 (wG w2)) (fun o ho => by rw [a_ur_ne ho]) k).mpr ((wants_ask hS hk).mpr ⟨ha, h12⟩)) (by unfold pubV at hp; omega) ei (by omega) (by rw [a_ur_self, hat, hb]; rfl)
    rw [a_ur_put] at q
    have e : (fun j => if j = 3 * iN m 46 k + pubV m (iN m 46 k) (iN m 47 k) - 1 then 1 else wG w2 j) = wG (fun q => if q = iN m 46 k then w2 (iN m 46 k) ||| iBit (nI (pubV m (iN m 46 k) (iN m 47 k))) else w2 q) := by
      funext j
      unfold wG
      by_cases c : j / 3 = iN m 46 k
      · simp only [c, if_true]
        rw [b_or, bt_bit (by omega) (by omega)]
        by_cases d : j % 3 + 1 = pubV m (iN m 46 k) (iN m 47 k)
        · rw [if_pos (by omega), d]; simp [bI]
        · rw [if_neg (by omega)]; simp [d]
      · rw [if_neg (by omega)]; simp only [c, if_false]
    rw [e] at q; exact q
/-- only the bits of versions -/
def LOW (w : Nat → Int32) : Prop := ∀ p, p < 3 → ∀ i, bt (w p) i = true → 1 ≤ i ∧ i ≤ 3
theorem LOW.put {w : Nat → Int32} {p v : Nat} (h : LOW w) (h0 : 0 < v) (hv : v < 4) : LOW (fun q => if q = p then w p ||| iBit (nI v) else w q) := fun q hq i hi => by
  by_cases c : q = p
  · simp only [c, if_true] at hi
    rw [b_or, Bool.or_eq_true] at hi
    rcases hi with hi | hi
    · rw [c] at hq; exact h p hq i hi
    · have c : i < 32 := Nat.lt_of_not_le (fun c => by rw [b_big c] at hi; cases hi)
      rw [bt_bit (by omega) c] at hi
      have : i = v := by simpa using hi
      omega
  · simp only [c, if_false] at hi; exact h q hq i hi
theorem min_nI {a b : Nat} (ha : a < 1000) (hb : b < 1000) : (if nI a < nI b then nI a else nI b) = nI (min a b) := by
  by_cases c : a < b
  · rw [if_pos (nI_lt c (by omega)), Nat.min_eq_left (by omega)]
  · rw [if_neg (fun q => c ((nI_ltI (by omega) (by omega)).mp q)), Nat.min_eq_right (by omega)]
set_option maxRecDepth 100000 in
theorem m_X1_isAsking {T : List aT} {I : aI} {J : aJ} {R : aR} (hT : aPT T) (hR : aPR R) {m : aI} {n : Nat} {sq : Nat → Nat} (hSt : CSt T I R m n sq) (hS : SW m n) {s : Nat} (hs : s < n) : MX1_isAsking 0 0 [.ref 1, .ref (sq s)] T I J R (aPure (some (.int (bI (decide (askW m (I 7) s))))) T I J R) := by
  refine a_met (by decide +kernel) a_le (fun X hC hq => ?_)
  show AW X 0 0 0 [some (.ref 1), some (.ref (sq s))] [] T I J R
  have hv9 := (hS.vs s hs).2
  refine aw_aload_n hC dX1_isAsking_0 rfl ?_
  refine aw_getI hC dX1_isAsking_1 aF_X1_59 rfl (hSt.at hs).1 ?_
  rw [((hSt.at hs).2.1)]
  refine aw_iconst (v := (-1)) hC dX1_isAsking_4 (by decide) ?_
  refine aw_icmp_eq (tgt := 21) hC dX1_isAsking_5 (by decide) (fun h1 => ?_) (fun h1 => ?_)
  · show AW X 0 0 21 [some (.ref 1), some (.ref (sq s))] [] T I J R
    refine aw_aload_n hC dX1_isAsking_21 rfl ?_
    refine aw_getI hC dX1_isAsking_22 aF_X1_46 rfl (hSt.at hs).1 ?_
    rw [(((hSt.at hs).2.2.2.2.2.2.2.1).trans (hS.vs s hs).1)]
    refine aw_if_le (tgt := 51) hC dX1_isAsking_25 (by decide) (fun h2 => ?_) (fun h2 => ?_)
    · show AW X 0 0 51 [some (.ref 1), some (.ref (sq s))] [] T I J R
      have h2n : (iN m 51 s) ≤ 0 := (nI_leI (a := (iN m 51 s)) (b := 0) (by omega) (by omega)).mp h2
      refine aw_iconst (v := 0) hC dX1_isAsking_51 (by decide) ?_
      exact aw_zreturn hC hq rfl (Or.inl rfl) dX1_isAsking_52 a_le a_le (aPure_i (bI_no (fun q => q.elim (fun z => absurd z.1 (by rw [show m 49 s = -1 from by assumption]; decide)) (fun z => by first | exact absurd ((n51 hS hs).mp z.2.1) (by omega) | exact absurd ((bt_and (by omega)).mpr z.2.2) (not_not_intro (by assumption)))))) 
    · show AW X 0 0 28 [some (.ref 1), some (.ref (sq s))] [] T I J R
      have h2n : ¬ (iN m 51 s) ≤ 0 := fun q9 => h2 ((nI_leI (a := (iN m 51 s)) (b := 0) (by omega) (by omega)).mpr q9)
      refine aw_aload_n hC dX1_isAsking_28 rfl ?_
      refine aw_getR hC dX1_isAsking_29 aF_X1_30 rfl (tg_1 hT) (pr_1_7 hR) ?_
      refine aw_aload_n hC dX1_isAsking_32 rfl ?_
      refine aw_getI hC dX1_isAsking_33 aF_X1_43 rfl (hSt.at hs).1 ?_
      rw [((hSt.at hs).2.2.1)]
      have hpk := hS.pk s hs (by rw [show m 49 s = -1 from by assumption]; decide)
      rw [hpk.1]
      have hp3 := hpk.2
      refine aw_iaload_k (j := (iN m 50 s)) hC dX1_isAsking_36 (tg_7 hT) (nI_clamp (by omega)) (vp_in_nI (by omega) (by decide)) ?_
      refine aw_iconst (v := 1) hC dX1_isAsking_37 (by decide) ?_
      refine aw_aload_n hC dX1_isAsking_38 rfl ?_
      refine aw_getI hC dX1_isAsking_39 aF_X1_46 rfl (hSt.at hs).1 ?_
      rw [(((hSt.at hs).2.2.2.2.2.2.2.1).trans (hS.vs s hs).1)]
      refine aw_ishl hC dX1_isAsking_42 ?_
      refine aw_iand hC dX1_isAsking_43 ?_
      refine aw_if_eq (tgt := 51) hC dX1_isAsking_44 (by decide) (fun h3 => ?_) (fun h3 => ?_)
      · show AW X 0 0 51 [some (.ref 1), some (.ref (sq s))] [] T I J R
        refine aw_iconst (v := 0) hC dX1_isAsking_51 (by decide) ?_
        exact aw_zreturn hC hq rfl (Or.inl rfl) dX1_isAsking_52 a_le a_le (aPure_i (bI_no (fun q => q.elim (fun z => absurd z.1 (by rw [show m 49 s = -1 from by assumption]; decide)) (fun z => by first | exact absurd ((n51 hS hs).mp z.2.1) (by omega) | exact absurd ((bt_and (by omega)).mpr z.2.2) (not_not_intro (by assumption)))))) 
      · show AW X 0 0 47 [some (.ref 1), some (.ref (sq s))] [] T I J R
        refine aw_iconst (v := 1) hC dX1_isAsking_47 (by decide) ?_
        refine aw_goto (tgt := 52) hC dX1_isAsking_48 (by decide) ?_
        exact aw_zreturn hC hq rfl (Or.inr rfl) dX1_isAsking_52 a_le a_le (aPure_i (bI_yes (Or.inr ⟨by rw [show m 49 s = -1 from by assumption]; decide, (n51 hS hs).mpr (by omega), (bt_and (by omega)).mp (by assumption)⟩)))
  · show AW X 0 0 8 [some (.ref 1), some (.ref (sq s))] [] T I J R
    refine aw_aload_n hC dX1_isAsking_8 rfl ?_
    refine aw_getI hC dX1_isAsking_9 aF_X1_62 rfl (hSt.at hs).1 ?_
    rw [((hSt.at hs).2.2.2.2.2.2.2.2)]
    refine aw_if_ne (tgt := 19) hC dX1_isAsking_12 (by decide) (fun h4 => ?_) (fun h4 => ?_)
    · show AW X 0 0 19 [some (.ref 1), some (.ref (sq s))] [] T I J R
      refine aw_iconst (v := 0) hC dX1_isAsking_19 (by decide) ?_
      exact aw_zreturn hC hq rfl (Or.inl rfl) dX1_isAsking_20 a_le a_le (aPure_i (bI_no (fun q => q.elim (fun z => absurd z.2 (by assumption)) (fun z => absurd z.1 (Int32.not_lt.mpr ((hS.fl s hs).resolve_left (by assumption)).1)))))
    · show AW X 0 0 15 [some (.ref 1), some (.ref (sq s))] [] T I J R
      refine aw_iconst (v := 1) hC dX1_isAsking_15 (by decide) ?_
      refine aw_goto (tgt := 20) hC dX1_isAsking_16 (by decide) ?_
      exact aw_zreturn hC hq rfl (Or.inr rfl) dX1_isAsking_20 a_le a_le (aPure_i (bI_yes (Or.inl ⟨((hS.fl s hs).resolve_left (by assumption)).1, by assumption⟩)))
set_option maxRecDepth 100000 in
theorem m_X1_addWanted {T : List aT} {I : aI} {J : aJ} {R : aR} (hT : aPT T) (hR : aPR R) {m : aI} {n : Nat} {sq : Nat → Nat} (hSt : CSt T I R m n sq) (hS : SW m n) (hV : ∀ q, q < 3 → I 6 q = m 53 q) {p v : Nat} (hp : p < 3) (hv1 : 1 ≤ v) (hv3 : v ≤ 3) : MX1_addWanted 0 0 [.ref 1, .int (nI p), .int (nI v)] T I J R (aRelV (fun v9 I2 J2 => J2 = J ∧ ∃ b, v9 = some (.int (bI b)) ∧ ∃ w2, I2 = a_ur I 7 w2 ∧ ((b = false ∧ w2 = I 7 ∧ (pubV m p v = 0 ∨ bt (I 7 p) (pubV m p v) = true)) ∨ (b = true ∧ pubV m p v ≠ 0 ∧ bt (I 7 p) (pubV m p v) = false ∧ w2 = fun q => if q = p then I 7 p ||| iBit (nI (pubV m p v)) else I 7 q))) T R) := by
  refine a_met (by decide +kernel) a_le (fun X hC hq => ?_)
  show AW X 0 0 0 [some (.ref 1), some (.int (nI p)), some (.int (nI v)), none] [] T I J R
  have hvv := (hS.vv p hp).2
  refine aw_iload_n hC dX1_addWanted_0 rfl ?_
  refine aw_aload_n hC dX1_addWanted_1 rfl ?_
  refine aw_getR hC dX1_addWanted_2 aF_X1_27 rfl (tg_1 hT) (pr_1_5 hR) ?_
  refine aw_iload_n hC dX1_addWanted_5 rfl ?_
  refine aw_iaload_k (j := p) hC dX1_addWanted_6 (tg_6 hT) (nI_clamp (by omega)) (vp_in_nI (by omega) (by decide)) ?_
  rw [((hV p hp).trans (hS.vv p hp).1)]
  refine aw_min hC dX1_addWanted_7 gL_X1_105 a_le a_le a_le a_le a_le ?_
  rw [show (if (nI (iN m 53 p)) < (nI v) then (nI (iN m 53 p)) else (nI v)) = nI (pubV m p v) from min_nI (by omega) (by omega)]
  have hpv : pubV m p v ≤ v := Nat.min_le_right ..
  refine aw_istore_n (L2 := [some (.ref 1), some (.int (nI p)), some (.int (nI v)), some (.int (nI (pubV m p v)))]) hC dX1_addWanted_10 rfl (by decide) rfl ?_
  refine aw_iload_n hC dX1_addWanted_11 rfl ?_
  refine aw_if_eq (tgt := 28) hC dX1_addWanted_12 (by decide) (fun h1 => ?_) (fun h1 => ?_)
  · show AW X 0 0 28 [some (.ref 1), some (.int (nI p)), some (.int (nI v)), some (.int (nI (pubV m p v)))] [] T I J R
    have h1n : (pubV m p v) = 0 := (nI_eq (a := (pubV m p v)) (b := 0) (by omega) (by omega)).mp h1
    refine aw_iconst (v := 0) hC dX1_addWanted_28 (by decide) ?_
    exact aw_zreturn hC hq rfl (Or.inl rfl) dX1_addWanted_29 a_le a_le ⟨_, rfl, rfl, rfl, rfl, false, rfl, I 7, (a_ur_id (fun _ => rfl)).symm, Or.inl ⟨rfl, rfl, by first | exact Or.inl (by assumption) | exact Or.inr ((bt_and (by omega)).mp (by assumption))⟩⟩
  · show AW X 0 0 15 [some (.ref 1), some (.int (nI p)), some (.int (nI v)), some (.int (nI (pubV m p v)))] [] T I J R
    have h1n : ¬ (pubV m p v) = 0 := fun q9 => h1 ((nI_eq (a := (pubV m p v)) (b := 0) (by omega) (by omega)).mpr q9)
    refine aw_aload_n hC dX1_addWanted_15 rfl ?_
    refine aw_getR hC dX1_addWanted_16 aF_X1_30 rfl (tg_1 hT) (pr_1_7 hR) ?_
    refine aw_iload_n hC dX1_addWanted_19 rfl ?_
    refine aw_iaload_k (j := p) hC dX1_addWanted_20 (tg_7 hT) (nI_clamp (by omega)) (vp_in_nI (by omega) (by decide)) ?_
    refine aw_iconst (v := 1) hC dX1_addWanted_21 (by decide) ?_
    refine aw_iload_n hC dX1_addWanted_22 rfl ?_
    refine aw_ishl hC dX1_addWanted_23 ?_
    refine aw_iand hC dX1_addWanted_24 ?_
    refine aw_if_eq (tgt := 30) hC dX1_addWanted_25 (by decide) (fun h2 => ?_) (fun h2 => ?_)
    · show AW X 0 0 30 [some (.ref 1), some (.int (nI p)), some (.int (nI v)), some (.int (nI (pubV m p v)))] [] T I J R
      refine aw_aload_n hC dX1_addWanted_30 rfl ?_
      refine aw_getR hC dX1_addWanted_31 aF_X1_30 rfl (tg_1 hT) (pr_1_7 hR) ?_
      refine aw_iload_n hC dX1_addWanted_34 rfl ?_
      refine aw_dup2 hC dX1_addWanted_35 rfl rfl ?_
      refine aw_iaload_k (j := p) hC dX1_addWanted_36 (tg_7 hT) (nI_clamp (by omega)) (vp_in_nI (by omega) (by decide)) ?_
      refine aw_iconst (v := 1) hC dX1_addWanted_37 (by decide) ?_
      refine aw_iload_n hC dX1_addWanted_38 rfl ?_
      refine aw_ishl hC dX1_addWanted_39 ?_
      refine aw_ior hC dX1_addWanted_40 ?_
      refine aw_iastore_k (j := p) hC dX1_addWanted_41 (tg_7 hT) (nI_clamp (by omega)) (vp_in_nI (by omega) (by decide)) ?_
      refine aw_iconst (v := 1) hC dX1_addWanted_42 (by decide) ?_
      exact aw_zreturn hC hq rfl (Or.inr rfl) dX1_addWanted_43 a_le a_le ⟨_, rfl, rfl, rfl, rfl, true, rfl, _, a_u_ur, Or.inr ⟨rfl, by omega, by cases e9 : bt (I 7 p) (pubV m p v) with | false => rfl | true => exact absurd (show (I 7 p) &&& (1 <<< ((nI (pubV m p v)) &&& 31)) = 0 from by assumption) ((bt_and (by omega)).mpr e9), rfl⟩⟩
    · show AW X 0 0 28 [some (.ref 1), some (.int (nI p)), some (.int (nI v)), some (.int (nI (pubV m p v)))] [] T I J R
      refine aw_iconst (v := 0) hC dX1_addWanted_28 (by decide) ?_
      exact aw_zreturn hC hq rfl (Or.inl rfl) dX1_addWanted_29 a_le a_le ⟨_, rfl, rfl, rfl, rfl, false, rfl, I 7, (a_ur_id (fun _ => rfl)).symm, Or.inl ⟨rfl, rfl, by first | exact Or.inl (by assumption) | exact Or.inr ((bt_and (by omega)).mp (by assumption))⟩⟩
set_option maxRecDepth 100000 in
theorem m_X1_findWanted {T : List aT} {I : aI} {J : aJ} {R : aR} (hT : aPT T) (hR : aPR R) {m : aI} {n : Nat} {sq : Nat → Nat} (hSt : CSt T I R m n sq) (hS : SW m n) (hV : ∀ q, q < 3 → I 6 q = m 53 q) : MX1_findWanted 0 0 [.ref 1] T I J R (aRelV (fun v I2 J2 => v = none ∧ J2 = J ∧ ∃ w, I2 = a_ur I 7 w ∧ LOW w ∧ Least m (a_ur m 83 (wG w)) n) T R) := by
  refine a_met (by decide +kernel) a_le (fun X hC hq => ?_)
  show AW X 0 0 0 [some (.ref 1), none, none, none] [] T I J R
  refine aw_aload_n hC dX1_findWanted_0 rfl ?_
  refine aw_getR hC dX1_findWanted_1 aF_X1_30 rfl (tg_1 hT) (pr_1_7 hR) ?_
  refine aw_iconst (v := 0) hC dX1_findWanted_4 (by decide) ?_
  refine kX1_33 hC rfl (m_J7_fill_53178 (I := I) (n := 3) (tg_7 hT) (by omega) (0 : Int32)) dX1_findWanted_5 rfl a_le a_le a_le a_le a_le rfl aPure_x (aPure_k ?_)
  show AW X 0 0 8 [some (.ref 1), none, none, none] [] T (a_fill I 7 3 (fun _ => 0)) J R
  refine aw_iconst (v := 1) hC dX1_findWanted_8 (by decide) ?_
  refine aw_istore_n (L2 := [some (.ref 1), some (.int 1), none, none]) hC dX1_findWanted_9 rfl (by decide) rfl ?_
  refine aw_iconst (v := 0) hC dX1_findWanted_10 (by decide) ?_
  refine aw_istore_n (L2 := [some (.ref 1), some (.int 1), some (.int 0), none]) hC dX1_findWanted_11 rfl (by decide) rfl ?_
  rw [show a_fill I 7 3 (fun _ => 0) = a_ur I 7 (fun j => if j < 3 then 0 else I 7 j) from by funext x9 y9; by_cases h9 : x9 = 7; (subst h9; rw [a_ur_self]; by_cases c : y9 < 3; (rw [a_fill_in c, if_pos c]); (rw [a_fill_out (by omega), if_neg c])); (rw [a_ur_ne h9, a_fill_ne h9])]
  have loopW : ∀ c (r : Nat) (w : Nat → Int32), cntF (wG w) 9 ≤ c → r + cntF (wG w) 9 ≤ 9 → LOW w → (∀ W : Nat → Prop, ClosedW m n W → ∀ j, j < 9 → wG w j ≠ 0 → W j) → AW X 0 0 12 [some (.ref 1), some (.int 1), some (.int (nI r)), none] [] T (a_ur I 7 w) J R := by
    refine upN (fun c ihW => ?_)
    intro r w hc hr9 hlow hsnd
    refine aw_iload_n hC dX1_findWanted_12 rfl ?_
    refine aw_if_eq (tgt := 98) hC dX1_findWanted_13 (by decide) (fun h1 => absurd h1 (by decide)) (fun _ => ?_)
    show AW X 0 0 16 [some (.ref 1), some (.int 1), some (.int (nI r)), none] [] T (a_ur I 7 w) J R
    refine aw_iload_n hC dX1_findWanted_16 rfl ?_
    refine aw_ldc (v := 1000000) hC dX1_findWanted_17 gK_X1_93 ?_
    refine aw_icmp_ge (tgt := 98) hC dX1_findWanted_19 (by decide) (fun h2 => ?_) (fun h2 => ?_)
    · show AW X 0 0 98 [some (.ref 1), some (.int 1), some (.int (nI r)), none] [] T (a_ur I 7 w) J R
      have h2n : 1000000 ≤ r := (nI_leI (a := 1000000) (b := r) (by omega) (by omega)).mp h2
      exact aw_return hC hq rfl dX1_findWanted_98 a_le a_le (by exfalso; omega)
    · show AW X 0 0 22 [some (.ref 1), some (.int 1), some (.int (nI r)), none] [] T (a_ur I 7 w) J R
      have h2n : ¬ 1000000 ≤ r := fun q9 => h2 ((nI_leI (a := 1000000) (b := r) (by omega) (by omega)).mpr q9)
      refine aw_iconst (v := 0) hC dX1_findWanted_22 (by decide) ?_
      refine aw_istore_n (L2 := [some (.ref 1), some (.int 0), some (.int (nI r)), none]) hC dX1_findWanted_23 rfl (by decide) rfl ?_
      refine aw_iconst (v := 0) hC dX1_findWanted_24 (by decide) ?_
      refine aw_istore_n (L2 := [some (.ref 1), some (.int 0), some (.int (nI r)), some (.int 0)]) hC dX1_findWanted_25 rfl (by decide) rfl ?_
      have loopI : ∀ k, k ≤ n → ∀ (gs : Int32) (w2 : Nat → Int32), LOW w2 → LW m (a_ur m 83 (wG w)) (a_ur m 83 (wG w2)) n k gs → AW X 0 0 26 [some (.ref 1), some (.int gs), some (.int (nI r)), some (.int (nI k))] [] T (a_ur I 7 w2) J R := by
        refine a_down n (fun k hkI ihI => ?_)
        intro gs w2 hlow2 hLW
        have hn9 := hS.n30
        have hSt2 : CSt T (a_ur I 7 w2) R m n sq := hSt.putr (tg_7 hT) (by decide) (by decide)
        have hgs : gs = 0 ∨ gs = 1 := hLW.c.imp (fun q => q.1) (fun q => q.1)
        refine aw_iload_n hC dX1_findWanted_26 rfl ?_
        refine aw_aload_n hC dX1_findWanted_27 rfl ?_
        refine aw_getI hC dX1_findWanted_28 aF_X1_39 rfl (tg_1 hT) ?_
        rw [a_ur_ne (f := I) (o := 7) (a := 1) (g := w2) (by decide)]
        rw [hSt.cnt]
        refine aw_icmp_ge (tgt := 92) hC dX1_findWanted_31 (by decide) (fun h3 => ?_) (fun h3 => ?_)
        · show AW X 0 0 92 [some (.ref 1), some (.int gs), some (.int (nI r)), some (.int (nI k))] [] T (a_ur I 7 w2) J R
          have h3n : n ≤ k := (nI_leI (a := n) (b := k) (by omega) (by omega)).mp h3
          refine aw_iinc (v := nI (r + 1)) (L2 := [some (.ref 1), some (.int gs), some (.int (nI (r + 1))), some (.int (nI k))]) hC dX1_findWanted_92 rfl (nI_inc _) (by decide) rfl ?_
          refine aw_goto (tgt := 12) hC dX1_findWanted_95 (by decide) ?_
          have e9 : k = n := by omega
          rw [e9] at hLW
          rcases hLW.c with ⟨eg, e8, hok⟩ | ⟨eg, hlt⟩
          · rw [eg]
            refine aw_iload_n hC dX1_findWanted_12 rfl ?_
            refine aw_if_eq (tgt := 98) hC dX1_findWanted_13 (by decide) (fun _ => ?_) (fun h => absurd rfl h)
            exact aw_return hC hq rfl dX1_findWanted_98 a_le a_le ⟨_, rfl, rfl, rfl, rfl, rfl, w2, rfl, hlow2, hLW.fr, hLW.snd, fun s hs a b => hok s hs a b⟩
          · rw [eg]
            rw [a_ur_self, a_ur_self] at hlt
            refine aw_forget 3 rfl ?_
            exact ihW _ (by omega) (r + 1) w2 (Nat.le_refl _) (by omega) hlow2 (fun W hW j hj hne => hLW.snd W hW j hj (by rw [a_ur_self]; exact hne))
        · show AW X 0 0 34 [some (.ref 1), some (.int gs), some (.int (nI r)), some (.int (nI k))] [] T (a_ur I 7 w2) J R
          have h3n : ¬ n ≤ k := fun q9 => h3 ((nI_leI (a := n) (b := k) (by omega) (by omega)).mpr q9)
          refine aw_aload_n hC dX1_findWanted_34 rfl ?_
          refine aw_getR hC dX1_findWanted_35 aF_X1_11 rfl (tg_1 hT) (pr_1_0 hR) ?_
          refine aw_iload_n hC dX1_findWanted_38 rfl ?_
          refine aw_aaloadR_k (j := k) hC dX1_findWanted_39 (tg_2 hT) (nI_clamp (by omega)) (vp_in_nI (by omega) (by decide)) (hSt.rf (by omega)) ?_
          refine aw_getI hC dX1_findWanted_40 aF_X1_72 rfl (hSt.at (by omega)).1 ?_
          rw [(((hSt2.at (show k < n by omega)).2.2.2.1).trans (hS.kd k (by omega)).1)]
          have hkd9 := (hS.kd k (by omega)).2
          refine aw_bipush (v := 12) hC dX1_findWanted_43 (by decide) ?_
          refine aw_icmp_ne (tgt := 86) hC dX1_findWanted_45 (by decide) (fun h4 => ?_) (fun h4 => ?_)
          · show AW X 0 0 86 [some (.ref 1), some (.int gs), some (.int (nI r)), some (.int (nI k))] [] T (a_ur I 7 w2) J R
            have h4n : ¬ (iN m 45 k) = 12 := fun q9 => h4 ((nI_eq (a := (iN m 45 k)) (b := 12) (by omega) (by omega)).mpr q9)
            refine aw_iinc (v := nI (k + 1)) (L2 := [some (.ref 1), some (.int gs), some (.int (nI r)), some (.int (nI (k + 1)))]) hC dX1_findWanted_86 rfl (nI_inc _) (by decide) rfl ?_
            refine aw_goto (tgt := 26) hC dX1_findWanted_89 (by decide) ?_
            exact ihI (by omega) gs w2 hlow2 ((LW.cl hS (by omega) hLW).1 (fun q => by first | exact absurd ((hS.kq (by omega) (b := 12) (by omega)).mp q.2) (by omega) | exact absurd q.1 (bI_d0.mp (by assumption))))
          · show AW X 0 0 48 [some (.ref 1), some (.int gs), some (.int (nI r)), some (.int (nI k))] [] T (a_ur I 7 w2) J R
            have h4n : (iN m 45 k) = 12 := (nI_eq (a := (iN m 45 k)) (b := 12) (by omega) (by omega)).mp h4
            have hk12 := hS.k12 k (by omega) (by omega)
            refine aw_aload_n hC dX1_findWanted_48 rfl ?_
            refine aw_aload_n hC dX1_findWanted_49 rfl ?_
            refine aw_getR hC dX1_findWanted_50 aF_X1_11 rfl (tg_1 hT) (pr_1_0 hR) ?_
            refine aw_iload_n hC dX1_findWanted_53 rfl ?_
            refine aw_aaloadR_k (j := k) hC dX1_findWanted_54 (tg_2 hT) (nI_clamp (by omega)) (vp_in_nI (by omega) (by decide)) (hSt.rf (by omega)) ?_
            refine kX1_94 hC rfl (m_X1_isAsking (I := a_ur I 7 w2) hT hR hSt2 hS (s := k) (by omega)) dX1_findWanted_55 (tg_1 hT) rfl a_le a_le a_le a_le a_le rfl aPure_x (aPure_k ?_)
            show AW X 0 0 58 [some (.ref 1), some (.int gs), some (.int (nI r)), some (.int (nI k))] [.int (bI (decide (askW m ((a_ur I 7 w2) 7) k)))] T (a_ur I 7 w2) J R
            rw [show (a_ur I 7 w2) 7 = w2 from by rw [a_ur_self]]
            refine aw_if_eq (tgt := 86) hC dX1_findWanted_58 (by decide) (fun h5 => ?_) (fun h5 => ?_)
            · show AW X 0 0 86 [some (.ref 1), some (.int gs), some (.int (nI r)), some (.int (nI k))] [] T (a_ur I 7 w2) J R
              refine aw_iinc (v := nI (k + 1)) (L2 := [some (.ref 1), some (.int gs), some (.int (nI r)), some (.int (nI (k + 1)))]) hC dX1_findWanted_86 rfl (nI_inc _) (by decide) rfl ?_
              refine aw_goto (tgt := 26) hC dX1_findWanted_89 (by decide) ?_
              exact ihI (by omega) gs w2 hlow2 ((LW.cl hS (by omega) hLW).1 (fun q => by first | exact absurd ((hS.kq (by omega) (b := 12) (by omega)).mp q.2) (by omega) | exact absurd q.1 (bI_d0.mp (by assumption))))
            · show AW X 0 0 61 [some (.ref 1), some (.int gs), some (.int (nI r)), some (.int (nI k))] [] T (a_ur I 7 w2) J R
              refine aw_iload_n hC dX1_findWanted_61 rfl ?_
              refine aw_aload_n hC dX1_findWanted_62 rfl ?_
              refine aw_aload_n hC dX1_findWanted_63 rfl ?_
              refine aw_getR hC dX1_findWanted_64 aF_X1_11 rfl (tg_1 hT) (pr_1_0 hR) ?_
              refine aw_iload_n hC dX1_findWanted_67 rfl ?_
              refine aw_aaloadR_k (j := k) hC dX1_findWanted_68 (tg_2 hT) (nI_clamp (by omega)) (vp_in_nI (by omega) (by decide)) (hSt.rf (by omega)) ?_
              refine aw_getI hC dX1_findWanted_69 aF_X1_75 rfl (hSt.at (by omega)).1 ?_
              rw [(((hSt2.at (show k < n by omega)).2.2.2.2.1).trans (hS.fd k (by omega)).1)]
              refine aw_aload_n hC dX1_findWanted_72 rfl ?_
              refine aw_getR hC dX1_findWanted_73 aF_X1_11 rfl (tg_1 hT) (pr_1_0 hR) ?_
              refine aw_iload_n hC dX1_findWanted_76 rfl ?_
              refine aw_aaloadR_k (j := k) hC dX1_findWanted_77 (tg_2 hT) (nI_clamp (by omega)) (vp_in_nI (by omega) (by decide)) (hSt.rf (by omega)) ?_
              refine aw_getI hC dX1_findWanted_78 aF_X1_98 rfl (hSt.at (by omega)).1 ?_
              rw [(((hSt2.at (show k < n by omega)).2.2.2.2.2.1).trans (hS.on k (by omega)).1)]
              refine kX1_101 hC rfl (m_X1_addWanted (I := a_ur I 7 w2) hT hR hSt2 hS (fun q hq => by rw [a_ur_ne (by decide)]; exact hV q hq) (p := iN m 46 k) (v := iN m 47 k) (by omega) (by omega) (by omega)) dX1_findWanted_81 (tg_1 hT) rfl a_le a_le a_le a_le a_le rfl aRelV_x (aRelV_k (fun v9 I9 J9 hQ => ?_))
              obtain ⟨e9, b9, ev9, w3, ew9, hb9⟩ := hQ
              rw [show (a_ur I 7 w2) 7 = w2 from by rw [a_ur_self]] at hb9
              rw [ev9, e9, ew9, show a_ur (a_ur I 7 w2) 7 w3 = a_ur I 7 w3 from a_ur_2]
              show AW X 0 0 84 [some (.ref 1), some (.int gs), some (.int (nI r)), some (.int (nI k))] [.int (bI b9), .int gs] T (a_ur I 7 w3) J R
              refine aw_ior hC dX1_findWanted_84 ?_
              refine aw_istore_n (L2 := [some (.ref 1), some (.int (gs ||| (bI b9))), some (.int (nI r)), some (.int (nI k))]) hC dX1_findWanted_85 rfl (by decide) rfl ?_
              refine aw_iinc (v := nI (k + 1)) (L2 := [some (.ref 1), some (.int (gs ||| (bI b9))), some (.int (nI r)), some (.int (nI (k + 1)))]) hC dX1_findWanted_86 rfl (nI_inc _) (by decide) rfl ?_
              refine aw_goto (tgt := 26) hC dX1_findWanted_89 (by decide) ?_
              rcases hb9 with ⟨eb9, ew8, hz9⟩ | ⟨eb9, hp9, hbt9, ew8⟩
              · rw [eb9, ew8, show gs ||| bI false = gs from Int32.or_zero]
                exact ihI (by omega) gs w2 hlow2 ((LW.cl hS (by omega) hLW).2.1 ((hS.kq (by omega) (b := 12) (by omega)).mpr (by omega)) hz9)
              · rw [eb9, ew8, show gs ||| bI true = 1 from gs_or1 hgs]
                exact ihI (by omega) 1 _ (hlow2.put (by omega) (by have := Nat.min_le_right (iN m 53 (iN m 46 k)) (iN m 47 k); unfold pubV; omega)) ((LW.cl hS (by omega) hLW).2.2 (bI_dn.mp (by assumption)) ((hS.kq (by omega) (b := 12) (by omega)).mpr (by omega)) hp9 hbt9)
      exact loopI 0 (Nat.zero_le _) 0 w hlow ⟨fun o ho => by rw [a_ur_ne ho], fun W hW j hj hne => hsnd W hW j hj (by rw [a_ur_self] at hne; exact hne), Or.inl ⟨rfl, rfl, fun s hs => absurd hs (by omega)⟩⟩
  exact loopW 9 0 (fun j => if j < 3 then 0 else I 7 j) (cntF_le _ 9) (by have := cntF_le (wG (fun j => if j < 3 then 0 else I 7 j)) 9; omega) (fun p hp i hi => by dsimp only at hi; rw [if_pos hp, b_0] at hi; cases hi) (fun W hW j hj hne => absurd (by unfold wG; dsimp only; rw [if_pos (show j / 3 < 3 by omega), b_0]; rfl) hne)
