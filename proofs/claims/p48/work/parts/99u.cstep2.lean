theorem mkS_82 {m : aI} {mj : aJ} {x y r : Nat} {w t : Bool} : mkS m mj x r w t 82 y = if w = true ∧ y = x then m 69 x else m 82 y := by
  unfold mkS
  cases w with
  | false => rw [if_neg (by decide), if_neg (fun q => absurd q.1 (by decide)), mkB_82]
  | true =>
    rw [if_pos rfl, a_u_row (by decide), wrT_o (by decide) (by decide) (by decide) (by decide)]
    by_cases zc : y = x
    · rw [if_pos ⟨rfl, zc⟩, zc, a_u_self]
    · rw [if_neg (fun q => zc q.2), a_u_ne (fun q => zc q.2), mkB_82]
theorem mkS_69 {m : aI} {mj : aJ} {x y r : Nat} {w t : Bool} (h : y ≠ x) : mkS m mj x r w t 69 y = m 69 y := by
  unfold mkS
  cases w with
  | false => rw [if_neg (by decide), mkB_o (by decide) (by decide) (by decide) (by decide) (by decide)]
  | true => rw [if_pos rfl, a_u_row (by decide), wrT_69, if_neg h, a_u_row (by decide), mkB_o (by decide) (by decide) (by decide) (by decide) (by decide)]
theorem acS_82v {m : aI} {mj : aJ} {x y wh hw r : Nat} : acS m mj x wh hw r 82 y = if wh = 1 ∧ hw ≠ 2 ∧ y = x then m 69 x else m 82 y := by
  unfold acS
  by_cases h1 : wh = 1
  · rw [if_pos h1, mkS_82]
    by_cases h2 : hw = 2
    · rw [if_neg (fun q => by rw [decide_eq_true h2] at q; exact absurd q.1 (by decide)), if_neg (fun q => q.2.1 h2)]
    · by_cases zc : y = x
      · rw [if_pos ⟨by rw [decide_eq_false h2]; rfl, zc⟩, if_pos ⟨h1, h2, zc⟩]
      · rw [if_neg (fun q => zc q.2), if_neg (fun q => zc q.2.2)]
  · have e9 : (if wh = 1 ∧ hw ≠ 2 ∧ y = x then m 69 x else m 82 y) = m 82 y := if_neg (fun q => h1 q.1)
    rw [if_neg h1, e9]
    by_cases h2 : wh = 2
    · rw [if_pos h2, chS_o (by decide) (by decide) (by decide)]
    · rw [if_neg h2]
      by_cases h3 : wh = 3
      · rw [if_pos h3, a_u_row (by decide), a_u_row (by decide)]
      · rw [if_neg h3]
        by_cases h4 : 0 < iN m 82 x
        · rw [if_pos h4, a_u_row (by decide)]
        · rw [if_neg h4]
theorem acS_69v {m : aI} {mj : aJ} {x y wh hw r : Nat} (h : y ≠ x) : acS m mj x wh hw r 69 y = m 69 y := by
  unfold acS
  by_cases h1 : wh = 1
  · rw [if_pos h1, mkS_69 h]
  · rw [if_neg h1]
    by_cases h2 : wh = 2
    · rw [if_pos h2, chS_o (by decide) (by decide) (by decide)]
    · rw [if_neg h2]
      by_cases h3 : wh = 3
      · rw [if_pos h3, a_u_ne (fun q => h q.2), a_u_row (by decide)]
      · rw [if_neg h3]
        by_cases h4 : 0 < iN m 82 x
        · rw [if_pos h4, a_u_row (by decide)]
        · rw [if_neg h4]
theorem dn_y2 {m : aI} {mj : aJ} {x wh hw r : Nat} (h : canB m mj x wh r = true) (hd : hw ≠ 1 ∨ wh = 1) : (doS m mj x wh hw r).2 = a_u (acS m mj x wh hw r) 44 35 (m 44 35 + (if hw = 2 then 0 else 1)) := by rw [dn_y h hd]
theorem doS_82v {m : aI} {mj : aJ} {x y wh hw r : Nat} : (doS m mj x wh hw r).2 82 y = m 82 y ∨ (wh = 1 ∧ y = x ∧ (doS m mj x wh hw r).2 82 y = m 69 x) := by
  cases hc : canB m mj x wh r with
  | false => rw [dn_no hc]; exact Or.inl rfl
  | true =>
    by_cases hd : hw ≠ 1 ∨ wh = 1
    · rw [dn_y2 hc hd, a_u_row (by decide), acS_82v]
      by_cases zc : wh = 1 ∧ hw ≠ 2 ∧ y = x
      · rw [if_pos zc]; exact Or.inr ⟨zc.1, zc.2.2, rfl⟩
      · rw [if_neg zc]; exact Or.inl rfl
    · rw [dn_f (fun z => hd (Or.inr z)) (by omega)]; exact Or.inl rfl
theorem doS_69v {m : aI} {mj : aJ} {x y wh hw r : Nat} (h : y ≠ x) : (doS m mj x wh hw r).2 69 y = m 69 y := by
  cases hc : canB m mj x wh r with
  | false => rw [dn_no hc]
  | true =>
    by_cases hd : hw ≠ 1 ∨ wh = 1
    · rw [dn_y2 hc hd, a_u_row (by decide), acS_69v h]
    · rw [dn_f (fun z => hd (Or.inr z)) (by omega)]
theorem stS_82v {m : aI} {mj : aJ} {x y wh hw r u a : Nat} : (stS m mj x wh hw r u a) 82 y = m 82 y ∨ (wh = 1 ∧ y = x ∧ (stS m mj x wh hw r u a) 82 y = m 69 x) := by rw [stS_o (by decide) (by decide)]; exact doS_82v
theorem stS_69v {m : aI} {mj : aJ} {x y wh hw r u a : Nat} (h : y ≠ x) : (stS m mj x wh hw r u a) 69 y = m 69 y := by rw [stS_o (by decide) (by decide)]; exact doS_69v h
theorem stS_e {m : aI} {mj : aJ} {x wh hw r u a q : Nat} (h : q ≠ 44 ∧ q ≠ 66 ∧ q ≠ 67 ∧ q ≠ 68 ∧ q ≠ 69 ∧ q ≠ 70 ∧ q ≠ 71 ∧ q ≠ 72 ∧ q ≠ 74 ∧ q ≠ 82) (h2 : q ≠ 81) : (stS m mj x wh hw r u a) q = m q := (stS_o h.1 h2).trans (doS_fr h)
theorem stS_4e {m : aI} {mj : aJ} {x wh hw r u a k : Nat} (h : k ≠ 43) (h2 : k ≠ 44) (h3 : k ≠ 45) (h4 : k ≠ 25) (h5 : k ≠ 35) : (stS m mj x wh hw r u a) 44 k = m 44 k := (stS_4 h h2 h3).trans (doS_44 h4 h5)
theorem stS_81 {m : aI} {mj : aJ} {x wh hw r u a : Nat} (h : B01 m 81) : B01 (stS m mj x wh hw r u a) 81 := fun j => by
  have b := stF_81 (J := mj) (x := x) (wh := wh) (hw := hw) (r := r) (a := a) h
  unfold stS
  by_cases h2 : hw = 2
  · rw [if_pos h2, a_u_row (by decide)]; exact b j
  · rw [if_neg h2]
    have q := psF_01 (stF m mj x wh hw r a) u (iN (stF m mj x wh hw r a) 79 u - (a + 1)) (a + 1) (stF m mj x wh hw r a 81) b j
    unfold psS
    split
    · rw [a_u_row (by decide), a_u_row (by decide)]; unfold psT; rw [a_ur_self]; exact q
    · unfold psT; rw [a_ur_self]; exact q
/-- where a step goes on -/
theorem stS_at {m : aI} {mj : aJ} {x wh hw r u a : Nat} (h43 : m 44 43 = nI u) (h45 : m 44 45 = -1 ∨ 0 ≤ m 44 45) (ha : a < iN m 79 u) : ((stS m mj x wh hw r u a) 44 45 = -1 ∨ (stS m mj x wh hw r u a) 44 45 = m 44 45) ∧ ((stS m mj x wh hw r u a) 44 43 = -1 ∨ ((stS m mj x wh hw r u a) 44 43 = nI u ∧ (stS m mj x wh hw r u a) 44 45 = m 44 45 ∧ ∃ b, a < b ∧ b < iN m 79 u ∧ (stS m mj x wh hw r u a) 44 44 = nI b)) := by
  have f43 : stF m mj x wh hw r a 44 43 = nI u := (stF_44 (by decide) (by decide) (by decide)).trans h43
  have f45 : stF m mj x wh hw r a 44 45 = m 44 45 := stF_44 (by decide) (by decide) (by decide)
  have f79 : iN (stF m mj x wh hw r a) 79 u = iN m 79 u := by unfold iN; rw [stF_fr (by decide) (by decide)]
  unfold stS
  by_cases h2 : hw = 2
  · rw [if_pos h2]
    exact ⟨Or.inr (by rw [a_u_ne (fun z => absurd z.2 (by decide))]; exact f45), Or.inl a_u_self⟩
  · rw [if_neg h2]
    have q := psF_le (stF m mj x wh hw r a) u (iN (stF m mj x wh hw r a) 79 u - (a + 1)) (a + 1) (stF m mj x wh hw r a 81)
    unfold psS
    by_cases zc : (psF (stF m mj x wh hw r a) u (iN (stF m mj x wh hw r a) 79 u - (a + 1)) (a + 1) (stF m mj x wh hw r a 81)).1 = iN (stF m mj x wh hw r a) 79 u
    · rw [if_pos zc]
      exact ⟨Or.inl a_u_self, Or.inl (by rw [a_u_ne (fun z => absurd z.2 (by decide)), a_u_self])⟩
    · rw [if_neg zc]
      unfold psT
      rw [a_ur_ne (by decide), a_u_ne (fun z => absurd z.2 (by decide)), a_u_ne (fun z => absurd z.2 (by decide)), a_u_self]
      exact ⟨Or.inr f45, Or.inr ⟨f43, f45, _, by omega, by omega, rfl⟩⟩
theorem ApOK.st {m : aI} {mj : aJ} {g r r2 p u x wh hw a : Nat} (h : ApOK m r p) (hpl : ∀ i, i < p → PlOK m g i) (hp40 : p ≤ 40) (hg : g ≤ 4) (hr9 : r ≤ 60) (h43 : m 44 43 = nI u) (hu : u < p) (h44 : m 44 44 = nI a) (ha : a < iN m 79 u) (hx : x = acN m u a) (hwh : wh = acW m u a) (hm69 : ∀ y, y < 64 → m 69 y ≠ 0 → iN m 69 y ≤ r) (hE9 : ∀ y, y < 64 → m 69 y ≠ 0 → m 69 y = nI (iN m 69 y)) (hr2 : r ≤ r2) : ApOK (stS m mj x wh hw r u a) r2 p := by
  obtain ⟨a1, a2, a3, a4⟩ := h
  have hP := hpl u hu
  have e79 : (stS m mj x wh hw r u a) 79 = m 79 := stS_e (by decide) (by decide)
  have e80 : (stS m mj x wh hw r u a) 80 = m 80 := stS_e (by decide) (by decide)
  have n79 : iN (stS m mj x wh hw r u a) 79 u = iN m 79 u := by unfold iN; rw [e79]
  have at9 := stS_at (mj := mj) (x := x) (wh := wh) (hw := hw) (r := r) h43 a3 ha
  refine ⟨stS_81 a1, fun y hy => ?_, ?_, ?_⟩
  · unfold iN
    rcases stS_82v (m := m) (mj := mj) (x := x) (y := y) (wh := wh) (hw := hw) (r := r) (u := u) (a := a) with e | ⟨_, _, e⟩
    · rw [e]; have q := a2 y hy; unfold iN at q; exact ⟨q.1, by omega⟩
    · rw [e]
      have hx64 : x < 64 := by have := (hP.2.1 a ha).1; omega
      by_cases z : m 69 x = 0
      · rw [z]; exact ⟨rfl, Nat.zero_le _⟩
      · have q := hm69 x hx64 z
        unfold iN at q
        exact ⟨hE9 x hx64 z, by omega⟩
  · rcases at9.1 with e | e
    · exact Or.inl e
    · rw [e]; exact a3
  · rcases at9.2 with e | ⟨e, e45, b, hb1, hb2, hb3⟩
    · exact Or.inl e
    · rcases a4 with z | ⟨i, a9, z1, z2, z3, z4, z5, z6⟩
      · rw [h43] at z; exact absurd z (nI_ne1b (by omega))
      · have eu := (nI_eq (by omega) (by omega)).mp (z1.symm.trans h43)
        subst eu
        have h128 := hP.1.1
        have ei := (nI_eq (by omega) (by omega)).mp (z3.symm.trans h44)
        refine Or.inr ⟨i, b, e, hu, hb3, by rw [n79]; exact hb2, by rw [e45]; exact z5, fun k hk1 hk2 => ?_⟩
        rw [n79] at hk2
        have t := z6 k (by omega) hk2
        have eW : acW (stS m mj x wh hw r i a) i k = acW m i k := by unfold acW iN; rw [e80]
        have eN : acN (stS m mj x wh hw r i a) i k = acN m i k := by unfold acN iN; rw [e80]
        rw [eW, eN]
        by_cases zc : acN m i k = x
        · have q := hP.2.2 a k (by omega) hk2 (by rw [zc, hx])
          rw [← hwh] at q
          refine ⟨fun z => ?_, fun z => ?_⟩
          · omega
          · rcases stS_82v (m := m) (mj := mj) (x := x) (y := acN m i k) (wh := wh) (hw := hw) (r := r) (u := i) (a := a) with e9 | ⟨e9, _, _⟩
            · rw [e9]; exact t.2 z
            · omega
        · rw [stS_69v zc]
          refine ⟨t.1, fun z => ?_⟩
          rcases stS_82v (m := m) (mj := mj) (x := x) (y := acN m i k) (wh := wh) (hw := hw) (r := r) (u := i) (a := a) with e9 | ⟨_, e9, _⟩
          · rw [e9]; exact t.2 z
          · exact absurd e9 zc
theorem stn_g9 {T : List aT} {I : aI} {J : aJ} {R : aR} {m : aI} {c n : Nat} {sq : Nat → Nat} {g : Nat} {gq eq : Nat → Nat} {r p : Nat} {pq : Nat → Nat} {k : Nat} (h9 : G9 T I J R m c n sq g gq eq r p pq k) {T2 : List aT} {I2 : aI} {R2 : aR} {mj : aJ} {u x wh hw a : Nat} (hp : T <+: T2) (h43 : m 44 43 = nI u) (hu : u < p) (h44 : m 44 44 = nI a) (ha : a < iN m 79 u) (hx : x = acN m u a) (hwh : wh = acW m u a) (hD : DnP T I R m mj g gq pq x wh hw r u a T2 I2 R2) : ∃ N eq2 r2, (∀ y, y < 16 * g → N y = sCmp (a_ur m 91 N) mj y) ∧ G9 T2 I2 J R2 (stS (a_ur m 91 N) mj x wh hw r u a) c n sq g gq eq2 r2 p pq k := by
  have hT := h9.hT
  obtain ⟨N, hN, ⟨eq2, r9, hce⟩, hcap, hfi, hfr, hR2⟩ := hD
  have hg4 := h9.es.1.1.1
  have hr60 := h9.ces.rs.r60
  have hq := h9.pl
  have hP := hq.2.2.1 u hu
  have hx16 : x < 16 * g := by rw [hx]; exact (hP.2.1 a ha).1
  have m9 : ∀ q, q ≠ 91 → (a_ur m 91 N) q = m q := fun q z => a_ur_ne z
  have es1 : MEs (a_ur m 91 N) g r := MEs_cg h9.es (fun q z1 z2 => m9 q (by omega)) (by rw [m9 44 (by decide)])
  have h69 : wh = 2 ∨ wh = 3 → (a_ur m 91 N) 69 x ≠ 0 := fun z => by
    rw [m9 69 (by decide)]
    rcases hq.2.2.2.2.2.2.2 with e | ⟨i, a9, z1, z2, z3, z4, z5, z6⟩
    · rw [h43] at e; exact absurd e (nI_ne1b (by have := hq.2.1; omega))
    · have eu := (nI_eq (by have := hq.2.1; omega) (by have := hq.2.1; omega)).mp (z1.symm.trans h43)
      subst eu
      have h128 := hP.1.1
      have ei := (nI_eq (by omega) (by omega)).mp (z3.symm.trans h44)
      rw [hx]
      exact (z6 a (by omega) ha).1 (by rw [← hwh]; exact z)
  obtain ⟨r2, q1, q2, q3, q4⟩ := es1.sts (mj := mj) (hw := hw) (p := u) (a := a) hr60 (by rw [m9 44 (by decide)]; exact h9.ces.rs.2.1) hx16 h69
  have e9 : r9 = r2 := (nI_eq (by have := hce.rs.r60; omega) (by omega)).mp (hce.rs.2.1.symm.trans q2)
  subst e9
  have q := h9.rest hp (S := fun z => 19 ≤ z ∧ z ≤ 40) (I2 := I2) (J2 := J) (R2 := R2) (fun z z1 z2 z3 => hfi z z1 z2 (fun z4 => z3 (by omega))) (fun _ _ => rfl) (fun z z1 z2 z3 => hfr z z1 z2 (fun z4 => z3 (by omega))) (fun z z1 => Or.inl z1)
  have A1 : ApOK (a_ur m 91 N) r p := ApOK_cg (m9 69 (by decide)) (m9 79 (by decide)) (m9 80 (by decide)) (m9 81 (by decide)) (m9 82 (by decide)) (by rw [m9 44 (by decide)]) (by rw [m9 44 (by decide)]) (by rw [m9 44 (by decide)]) hq.2.2.2.2
  have n80 : iN (a_ur m 91 N) 80 = iN m 80 := by unfold iN; rw [m9 80 (by decide)]
  have n79 : iN (a_ur m 91 N) 79 = iN m 79 := by unfold iN; rw [m9 79 (by decide)]
  have A2 := A1.st (mj := mj) (g := g) (hw := hw) (x := x) (wh := wh) (fun i hi => PlOK_cg (m9 79 (by decide)) (m9 80 (by decide)) (hq.2.2.1 i hi)) hq.2.1 hg4 hr60 (by rw [m9 44 (by decide)]; exact h43) hu (by rw [m9 44 (by decide)]; exact h44) (by rw [n79]; exact ha) (by unfold acN; rw [n80]; exact hx) (by unfold acW; rw [n80]; exact hwh) es1.2.2.2.1 (fun y hy hn => by
    obtain ⟨r1, z1, z2, _⟩ := es1.1.2.2.1.re hy hn
    rw [z2]; exact z1) q4
  refine ⟨N, eq2, r9, hN, hT.next hp, hR2, ⟨MBk_cg h9.bk (fun z z1 z2 => (stS_e (by omega) (by omega)).trans (a_ur_ne (by omega))) ((stS_4e (by decide) (by decide) (by decide) (by decide) (by decide)).trans (by rw [m9 44 (by decide)])), q1, ⟨((stS_4e (by decide) (by decide) (by decide) (by decide) (by decide)).trans (by rw [m9 44 (by decide)])).trans hq.1, hq.2.1, fun i hi => PlOK_cg ((stS_e (q := 79) (by decide) (by decide)).trans (a_ur_ne (by decide))) ((stS_e (q := 80) (by decide) (by decide)).trans (a_ur_ne (by decide))) (hq.2.2.1 i hi), ⟨NR_cg ((stS_e (q := 79) (by decide) (by decide)).trans (a_ur_ne (by decide))) hq.2.2.2.1.1, fun i z1 z2 => by rw [(stS_e (q := 77) (by decide) (by decide)).trans (a_ur_ne (by decide)), (stS_e (q := 78) (by decide) (by decide)).trans (a_ur_ne (by decide))]; exact hq.2.2.2.1.2 i z1 z2⟩, A2⟩, MPo_cg h9.po ((stS_e (q := 57) (by decide) (by decide)).trans (a_ur_ne (by decide))) ((stS_4e (by decide) (by decide) (by decide) (by decide) (by decide)).trans (by rw [m9 44 (by decide)])), ?_⟩, q.1.cgm ⟨fun z z1 => (stS_e (by omega) (by omega)).trans (a_ur_ne (by omega)), (stS_4e (by decide) (by decide) (by decide) (by decide) (by decide)).trans (by rw [m9 44 (by decide)]), (stS_4e (by decide) (by decide) (by decide) (by decide) (by decide)).trans (by rw [m9 44 (by decide)])⟩, ?_, hce, q.2.2.cgm (fun z z1 z2 => (stS_e (by omega) (by omega)).trans (a_ur_ne (by omega))), h9.cpi, hcap⟩
  · obtain ⟨d, d1, d2⟩ := h9.dy
    exact ⟨d, ((stS_4e (by decide) (by decide) (by decide) (by decide) (by decide)).trans (by rw [m9 44 (by decide)])).trans d1, d2⟩
  · have q5 := q.2.1
    unfold CPo iN at *; rw [(stS_e (q := 57) (by decide) (by decide)).trans (a_ur_ne (by decide))]; exact q5
set_option maxRecDepth 100000 in
theorem m_X11_step {T : List aT} {I : aI} {J : aJ} {R : aR} {m : aI} {c n : Nat} {sq : Nat → Nat} {g : Nat} {gq eq : Nat → Nat} {r p : Nat} {pq : Nat → Nat} {k : Nat} (h9 : G9 T I J R m c n sq g gq eq r p pq k) (w : Int32) : MX11_step 3 200 [.ref 0, .int w] T I J R (CP [exA, exS] I J m c (fun k v m2 => (((0 ≤ w ∧ w ≤ 2) ∧ 0 ≤ m 44 43) ∧ k = 0 ∧ ∃ m0 M P S N u a, StEq m m0 ∧ SolR m0 M n P S ∧ m 44 43 = nI u ∧ u < p ∧ m 44 44 = nI a ∧ a < iN m 79 u ∧ (∀ y, y < 16 * g → N y = sCmp (a_ur (a_u m 44 57 (M 44 57)) 91 N) (fun _ => S) y) ∧ v = nI (iN m 80 (128 * u + a)) ∧ m2 = stS (a_ur (a_u m 44 57 (M 44 57)) 91 N) (fun _ => S) (acN m u a) (acW m u a) w.toNatClampNeg r u a) ∨ (((0 ≤ w ∧ w ≤ 2) ∧ ¬ 0 ≤ m 44 43) ∧ k = 2 ∧ m2 = m) ∨ (¬ (0 ≤ w ∧ w ≤ 2) ∧ k = 1 ∧ m2 = m))) := by
  refine a_met (by decide +kernel) a_le (fun X hC hq => ?_)
  show AW X 0 0 0 [some (.ref 0), some (.int w)] [] T I J R
  have hT := h9.hT
  have hR := h9.hR
  refine aw_iload_n hC dX11_step_0 rfl ?_
  refine aw_iconst (v := 0) hC dX11_step_1 (by decide) ?_
  refine aw_iconst (v := 2) hC dX11_step_2 (by decide) ?_
  refine kX11_126 hC rfl (m_X11_isWithin w (0 : Int32) (2 : Int32)) dX11_step_3 rfl a_le a_le a_le a_le a_le rfl aPure_x (aPure_k ?_)
  show AW X 0 0 6 [some (.ref 0), some (.int w)] [.int (bI (decide ((0 : Int32) ≤ w ∧ w ≤ (2 : Int32))))] T I J R
  by_cases hn1 : bI (decide ((0 : Int32) ≤ w ∧ w ≤ (2 : Int32))) = 0
  · rw [hn1]
    exact kX11_130 hC rfl (m_X11_needArgumentF (T := T) (I := I) (J := J) (R := R)) dX11_step_6 rfl a_le a_le a_le a_le a_le rfl (aTh_x (ae_out hC hq a_le a_le (CP.th (j := 0) rfl (Or.inr (Or.inr ⟨of_decide_eq_false (bI_e0.mp (by assumption)), rfl, rfl⟩)) h9.gi))) aTh_k
  · refine kX11_130 hC rfl (m_X11_needArgumentT (T := T) (I := I) (J := J) (R := R) (x := bI (decide ((0 : Int32) ≤ w ∧ w ≤ (2 : Int32)))) hn1) dX11_step_6 rfl a_le a_le a_le a_le a_le rfl aPure_x (aPure_k ?_)
    show AW X 0 0 9 [some (.ref 0), some (.int w)] [] T I J R
    have hwc : (0 ≤ w ∧ w ≤ 2) := of_decide_eq_true (bI_n0.mp (by assumption))
    obtain ⟨w1, hw1, ew1⟩ := i_nat (x := w) (z := 3) (b := 3) hwc.1 (i_lt3 hwc.2) rfl (by decide)
    subst ew1
    show AW X 0 0 9 [some (.ref 0), some (.int (nI w1))] [] T I J R
    refine aw_aload_n hC dX11_step_9 rfl ?_
    refine aw_getR hC dX11_step_10 aF_X11_46 rfl (tg_0 hT) (pr_0_4 hR) ?_
    refine kX11_312 hC rfl (m_X0_isOn (I := I) hT hR rfl) dX11_step_13 (tg_38 hT) rfl a_le a_le a_le a_le a_le rfl aPure_x (aPure_k ?_)
    show AW X 0 0 16 [some (.ref 0), some (.int (nI w1))] [.int (bI (decide (R 38 3 ≠ none)))] T I J R
    rw [(ison_g9 h9)]
    by_cases hn2 : bI (decide (0 ≤ m 44 43)) = 0
    · rw [hn2]
      exact kX11_88 hC rfl (m_X11_needStateF (T := T) (I := I) (J := J) (R := R)) dX11_step_16 rfl a_le a_le a_le a_le a_le rfl (aTh_x (ae_out hC hq a_le a_le (CP.th (j := 1) rfl (Or.inr (Or.inl ⟨⟨hwc, of_decide_eq_false (bI_e0.mp (by assumption))⟩, rfl, rfl⟩)) h9.gi))) aTh_k
    · refine kX11_88 hC rfl (m_X11_needStateT (T := T) (I := I) (J := J) (R := R) (x := bI (decide (0 ≤ m 44 43))) hn2) dX11_step_16 rfl a_le a_le a_le a_le a_le rfl aPure_x (aPure_k ?_)
      show AW X 0 0 19 [some (.ref 0), some (.int (nI w1))] [] T I J R
      have hon : 0 ≤ m 44 43 := of_decide_eq_true (bI_n0.mp (by assumption))
      refine aw_aload_n hC dX11_step_19 rfl ?_
      refine aw_getR hC dX11_step_20 aF_X11_21 rfl (tg_0 hT) (pr_0_1 hR) ?_
      refine kX11_113 hC rfl (m_settleG h9) dX11_step_23 (tg_8 hT) rfl a_le a_le a_le a_le a_le rfl aRelT_x (aRelT_k (fun v9 T9 I9 J9 R9 hp9 hQ => ?_))
      obtain ⟨ev9, hT9, hf9, hg9, m0, hs9, hl9⟩ := hQ
      rw [ev9, hT9]
      have hR9 := hg9.hR
      obtain ⟨M, P, S, hso, hD9, hC9, hP9, hS9, h57, hfo, htn, hcf, hSM, hcs, h53, hfx⟩ := hl9.use hs9 h9.bk hg9.cb.1
      show AW X 0 0 26 [some (.ref 0), some (.int (nI w1))] [] T I9 J9 R9
      obtain ⟨mq, hmq⟩ : ∃ mq, mq = (a_u m 44 57 (M 44 57)) := ⟨_, rfl⟩
      have hle : LEq m mq := by rw [hmq]; exact ⟨fun o u v => a_u_row (by omega), fun k _ z _ _ => a_u_ne (fun w => z w.2)⟩
      have hq9 := hg9.cgm hle
      have hV9 : CFo I9 mq (fun _ => S) := fun f hf => by rw [hfo f hf, hmq]; show _ = (if _ = _ then _ else _); rw [a_u_self]
      have e44 : ∀ k, k ≠ 57 → mq 44 k = m 44 k := fun k z => by rw [hmq]; exact a_u_ne (fun w => z w.2)
      have eqo : ∀ q, q ≠ 44 → mq q = m q := fun q z => by rw [hmq]; exact a_u_row z
      have hap := hq9.pl.2.2.2.2
      have hp40 := hq9.pl.2.1
      obtain ⟨u, a, hu1, hu2, hu3, hu4, hu5, hu6⟩ := hap.2.2.2.resolve_left (fun z => by rw [e44 43 (by decide)] at z; rw [z] at hon; exact absurd hon (by decide))
      have hcp := hq9.cpl.2 u hu2
      have hPu := hq9.pl.2.2.1 u hu2
      have h128 := hPu.1.1
      have haw := hPu.2.1 a hu4
      have n74 : NR mq 74 64 61 := fun y hy => by have z := hq9.es.2.2.1 y hy; exact ⟨z.1, by have := hq9.ces.rs.r60; omega⟩
      have hu0 := hu6 a (Nat.le_refl _) hu4
      refine aw_aload_n hC dX11_step_26 rfl ?_
      refine aw_getR hC dX11_step_27 aF_X11_46 rfl (tg_0 hT) (pr_0_4 hR9) ?_
      refine aw_iload_n hC dX11_step_30 rfl ?_
      refine kX11_315 hC rfl (m_X0_doNext hT hR9 hq9.ces hq9.es.1 hq9.es.2.1 (mj := fun _ => S) hV9 hq9.cap hu1 (by omega) hcp.2.1 hcp.2.2.1 (M := iN mq 79 u) hcp.2.2.2.1 rfl hPu.1 hcp.2.2.2.2.2.2.2.2 (fun k hk => (hPu.2.1 k hk).1) hu3 hu4 (x := acN mq u a) rfl (wh := acW mq u a) rfl haw.2 hu0.2 hu0.1 n74 hq9.es.2.2.2.1 hap.2.1 hap.1 (hw := w1) hw1) dX11_step_31 (tg_38 hT) rfl a_le a_le a_le a_le a_le rfl aRelT_x (aRelT_k (fun v9 T9 I8 J8 R8 hp9 hQ => ?_))
      obtain ⟨ev8, hJ8, hDn⟩ := hQ
      rw [ev8, hJ8]
      have hR8 := hDn.choose_spec.2.2.2.2.2
      obtain ⟨N8, eq8, r8, hN8, hG8⟩ := stn_g9 hq9 hp9 hu1 hu2 hu3 hu4 rfl rfl hDn
      have hFr8 : ∀ o, 44 ≤ o → o < 44 → I8 o = I9 o := fun o z1 z2 => hDn.choose_spec.2.2.2.1 o (by have := hT.len; omega) (enO_lo hT z2) (fun z => by omega)
      show AW X (0 + 3) (0 + 11) 34 [some (.ref 0), some (.int (nI w1))] [.int (nI (iN mq 80 (128 * u + a)))] T9 I8 J9 R8
      exact aw_ireturn hC hq rfl dX11_step_34 a_le a_le (CP.ok (Or.inl ⟨⟨hwc, hon⟩, rfl, m0, M, P, S, N8, u, a, hs9, hso, by rw [← e44 43 (by decide)]; exact hu1, hu2, by rw [← e44 44 (by decide)]; exact hu3, by have z := hu4; unfold iN at *; rw [eqo 79 (by decide)] at z; exact z, by rw [← hmq]; exact hN8, by unfold iN; rw [eqo 80 (by decide)], by rw [nI_clamp (by omega), ← hmq, show acN m u a = acN mq u a from (by unfold acN iN; rw [eqo 80 (by decide)]), show acW m u a = acW mq u a from by unfold acW iN; rw [eqo 80 (by decide)]]⟩) (fun o u v => ⟨(hFr8 o u v).trans (hf9 o u v).1, (hf9 o u v).2⟩) hG8.gi)
