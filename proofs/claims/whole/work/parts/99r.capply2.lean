theorem sCmp_en {I : aI} {J : aJ} {x : Nat} (h : sCmp I J x = 2 ∨ sCmp I J x = 3 ∨ sCmp I J x = 4) : 0 < I 69 x := by
  by_cases zc : 0 < I 69 x
  · exact zc
  · exfalso
    have e : sCmp I J x = 0 ∨ sCmp I J x = 1 := by
      unfold sCmp
      by_cases zd : sKept I x = false
      · rw [if_pos zd, if_neg zc]; exact Or.inl rfl
      · rw [if_neg zd, if_pos zc]; exact Or.inr rfl
    rcases e with e | e <;> rw [e] at h <;> exact absurd h (by decide)
theorem PlQ.en {m : aI} {n g : Nat} {l : List Nat} (h : PlQ m n g (some l)) (hg : g ≤ 4) : ∀ a, a ∈ l → (a / 100 = 2 ∨ a / 100 = 3) → m 69 (a % 100) ≠ 0 := by
  obtain ⟨m0, M, P, S, mj, w, zz1, zz2, zz3, zz4, zz5⟩ := h
  rcases zz5 with zz6 | zz6
  · cases zz6.2
  · obtain ⟨zz7, zzN, zzG, zz8, zz9⟩ := zz6
    cases zz9
    intro a ha hw e
    have q := allA_m (n := 16 * g) (by omega) ha
    have q2 := q.2.2 hw
    rw [a_ur_self, (zz8 _ q.1).1] at q2
    have q3 := sCmp_en q2
    rw [a_ur_ne (by decide), gst_lo (by decide) (by decide), e] at q3
    exact absurd q3 (by decide)
abbrev apB (m : aI) (x : Nat) : aI := a_ur (a_ur (a_u (a_u (a_u (a_u m 78 x 1) 44 43 (nI x)) 44 44 0) 44 45 (m 44 13 + 3)) 81 (apR 64 (m 81))) 82 (apR 64 (m 82))
theorem apB_o {m : aI} {x q : Nat} (h : q ≠ 78) (h1 : q ≠ 44) (h2 : q ≠ 81) (h3 : q ≠ 82) : apB m x q = m q := by unfold apB; rw [a_ur_ne h3, a_ur_ne h2, a_u_row h1, a_u_row h1, a_u_row h1, a_u_row h]
theorem apB_4 {m : aI} {x j : Nat} (h : j ≠ 43) (h1 : j ≠ 44) (h2 : j ≠ 45) : apB m x 44 j = m 44 j := by unfold apB; rw [a_ur_ne (by decide), a_ur_ne (by decide), a_u_ne (fun z => h2 z.2), a_u_ne (fun z => h1 z.2), a_u_ne (fun z => h z.2), a_u_row (by decide)]
theorem apB_43 {m : aI} {x : Nat} : apB m x 44 43 = nI x := by unfold apB; rw [a_ur_ne (by decide), a_ur_ne (by decide), a_u_ne (fun z => absurd z.2 (by decide)), a_u_ne (fun z => absurd z.2 (by decide)), a_u_self]
theorem apB_44 {m : aI} {x : Nat} : apB m x 44 44 = 0 := by unfold apB; rw [a_ur_ne (by decide), a_ur_ne (by decide), a_u_ne (fun z => absurd z.2 (by decide)), a_u_self]
theorem apB_45 {m : aI} {x : Nat} : apB m x 44 45 = m 44 13 + 3 := by unfold apB; rw [a_ur_ne (by decide), a_ur_ne (by decide), a_u_self]
theorem apB_78 {m : aI} {x j : Nat} : apB m x 78 j = if j = x then 1 else m 78 j := by
  unfold apB; rw [a_ur_ne (by decide), a_ur_ne (by decide), a_u_row (by decide), a_u_row (by decide), a_u_row (by decide)]
  by_cases zc : j = x
  · rw [if_pos zc, zc, a_u_self]
  · rw [if_neg zc, a_u_ne (fun z => zc z.2)]
theorem apB_81 {m : aI} {x : Nat} : apB m x 81 = apR 64 (m 81) := by unfold apB; rw [a_ur_ne (by decide), a_ur_self]
theorem apB_82 {m : aI} {x : Nat} : apB m x 82 = apR 64 (m 82) := by unfold apB; rw [a_ur_self]
/-- what a plan that can be applied still finds -/
theorem hasA_en {m : aI} {n g x : Nat} {l : List Nat} (hg : g ≤ 4) (hA : PlQ m n g (some l)) (hh : hasA m x (some l) = true) : ∀ k, k < iN m 79 x → (acW m x k = 2 ∨ acW m x k = 3) → m 69 (acN m x k) ≠ 0 := by
  intro k hk hw
  have h2 : allB (fun i => anyB (fun k => decide (nI (l.getD k 0) = m 80 (128 * x + i))) l.length) (iN m 79 x) = true := hh
  have h3 := allB_iff.mp h2 k hk
  obtain ⟨j, hj, e⟩ := anyB_iff.mp h3
  have e2 : nI (l.getD j 0) = m 80 (128 * x + k) := of_decide_eq_true e
  have hm := gD_mem hj
  have hb := (hA.ok hg).2.1 _ hm
  have e3 : iN m 80 (128 * x + k) = l.getD j 0 := by unfold iN; rw [← e2, nI_clamp (by omega)]
  unfold acN
  unfold acW at hw
  rw [e3] at hw ⊢
  exact hA.en hg _ hm hw
theorem bg_g9 {T : List aT} {I : aI} {J : aJ} {R : aR} {m : aI} {c n : Nat} {sq : Nat → Nat} {g : Nat} {gq eq : Nat → Nat} {r p : Nat} {pq : Nat → Nat} {k : Nat} (h9 : G9 T I J R m c n sq g gq eq r p pq k) {x : Nat} (hx : x < p) (hc : c ≤ 1000) (h0 : 0 < iN m 79 x) (hu : m 44 45 < 0) (hen : ∀ k, k < iN m 79 x → (acW m x k = 2 ∨ acW m x k = 3) → m 69 (acN m x k) ≠ 0) : G9 T (a_fill (a_fill (a_u (a_u (a_u (a_u I (pq x) 4 1) 38 4 0) 38 0 1) 38 5 (m 44 13 + 3)) 40 64 (fun _ => (-1))) 39 64 (fun _ => 0)) J (a_u R 38 3 (some (pq x))) (apB m x) c n sq g gq eq r p pq k := by
  have hT := h9.hT
  have h95 := hT.len
  have t := (h9.cpl.2 x hx).2.1
  have q95 := (h9.cpl.pq hT hx).1.2.2
  have ea : ∀ q, q ≠ 78 → q ≠ 44 → q ≠ 81 → q ≠ 82 → apB m x q = m q := fun q z1 z2 z3 z4 => apB_o z1 z2 z3 z4
  have lo : ∀ o, o < 38 ∨ 40 < o → o ≠ pq x → (a_fill (a_fill (a_u (a_u (a_u (a_u I (pq x) 4 1) 38 4 0) 38 0 1) 38 5 (m 44 13 + 3)) 40 64 (fun _ => (-1))) 39 64 (fun _ => 0)) o = I o := fun o u v => by rw [a_fill_ne (by omega), a_fill_ne (by omega), a_u_row (by omega), a_u_row (by omega), a_u_row (by omega), a_u_row v]
  have ne : ∀ o u, T[o]? = some u → u ≠ .inr 6 → o ≠ pq x := fun o u a b z => by rw [z, t] at a; cases a; exact b rfl
  have lr : ∀ o, o ≠ 38 → a_u R 38 3 (some (pq x)) o = R o := fun o u => a_u_row u
  have hq := h9.pl
  obtain ⟨d, d1, d2⟩ := h9.dy
  have e45 : apB m x 44 45 = nI (d + 3) := by rw [apB_45, d1]; exact nI_add d 3
  have n79 : iN (apB m x) 79 x = iN m 79 x := by unfold iN; rw [ea 79 (by decide) (by decide) (by decide) (by decide)]
  refine ⟨hT, h9.hR.put (by decide +kernel), ⟨MBk_cg h9.bk (fun o u v => ea o (by omega) (by omega) (by omega) (by omega)) (apB_4 (by decide) (by decide) (by decide)), MEs_cg h9.es (fun o u v => ea o (by omega) (by omega) (by omega) (by omega)) (apB_4 (by decide) (by decide) (by decide)), ⟨(apB_4 (by decide) (by decide) (by decide)).trans hq.1, hq.2.1, fun i hi => PlOK_cg (ea 79 (by decide) (by decide) (by decide) (by decide)) (ea 80 (by decide) (by decide) (by decide) (by decide)) (hq.2.2.1 i hi), ⟨NR_cg (ea 79 (by decide) (by decide) (by decide) (by decide)) hq.2.2.2.1.1, fun i hi1 hi2 => ?_⟩, ?_⟩, MPo_cg h9.po (ea 57 (by decide) (by decide) (by decide) (by decide)) (apB_4 (by decide) (by decide) (by decide)), ⟨d, (apB_4 (by decide) (by decide) (by decide)).trans d1, d2⟩⟩, ?_, ?_, ?_, ⟨?_, fun i hi => ?_⟩, h9.cpi, ?_⟩
  · rw [ea 77 (by decide) (by decide) (by decide) (by decide), apB_78, if_neg (by omega)]; exact hq.2.2.2.1.2 i hi1 hi2
  · refine ⟨fun j => ?_, fun y hy => ?_, Or.inr (by rw [e45]; exact nI_pos' (by omega)), Or.inr ⟨x, 0, apB_43, hx, apB_44, by rw [n79]; exact h0, by rw [e45]; exact nI_pos' (by omega), fun k u v => ?_⟩⟩
    · rw [apB_81]
      by_cases zc : j < 64
      · exact Or.inl (if_pos zc)
      · have := hq.2.2.2.2.1 j
        show (if j < 64 then (0 : Int32) else m 81 j) = 0 ∨ (if j < 64 then (0 : Int32) else m 81 j) = 1
        rw [if_neg zc]; exact this
    · unfold iN
      rw [apB_82, show apR 64 (m 82) y = 0 from if_pos hy]
      exact ⟨rfl, Nat.zero_le _⟩
    · rw [n79] at v
      have eW : acW (apB m x) x k = acW m x k := by unfold acW iN; rw [ea 80 (by decide) (by decide) (by decide) (by decide)]
      have eN : acN (apB m x) x k = acN m x k := by unfold acN iN; rw [ea 80 (by decide) (by decide) (by decide) (by decide)]
      have hn := (hq.2.2.1 x hx).2.1 k v
      have hg := h9.es.1.1.1
      rw [eW, eN, ea 69 (by decide) (by decide) (by decide) (by decide), apB_82]
      exact ⟨hen k v, fun _ => if_pos (by omega)⟩
  · exact (h9.cb.fr (List.prefix_refl _) (fun o u => ⟨lo o (by omega) (by omega), rfl⟩) (fun s hs => by have q := h9.cb.sq hT hs; exact ⟨lo _ (by omega) (ne _ _ (h9.cb.1.at hs).1 (by decide)), lr _ (by omega)⟩) (lr 2 (by decide))).cgm ⟨fun o u => ea o (by omega) (by omega) (by omega) (by omega), apB_4 (by decide) (by decide) (by decide), apB_4 (by decide) (by decide) (by decide)⟩
  · have q := h9.cpo.fr (I2 := (a_fill (a_fill (a_u (a_u (a_u (a_u I (pq x) 4 1) 38 4 0) 38 0 1) 38 5 (m 44 13 + 3)) 40 64 (fun _ => (-1))) 39 64 (fun _ => 0))) (J2 := J) (by rw [lo 0 (by decide) (by omega)]) (lo 41 (by decide) (by omega)) rfl
    unfold CPo iN at *; rw [ea 57 (by decide) (by decide) (by decide) (by decide)]; exact q
  · exact (h9.ces.frt hT (List.prefix_refl _) (fun o u v => lo o (by omega) (by omega)) (fun o u v w z => ⟨lo o (by omega) (fun y => z (by rw [y]; exact t)), lr o (by omega)⟩) (lr 21 (by decide)) (lr 25 (by decide))).cgm (fun o u v => ea o (by omega) (by omega) (by omega) (by omega)) (apB_4 (by decide) (by decide) (by decide)) (apB_4 (by decide) (by decide) (by decide))
  · rw [lo 0 (by decide) (by omega)]; exact h9.cpl.1
  · have q := h9.cpl.2 i hi
    have u := h9.cpl.pq hT hi
    have e79 : iN (apB m x) 79 i = iN m 79 i := by unfold iN; rw [ea 79 (by decide) (by decide) (by decide) (by decide)]
    have sl : ∀ j, j ≠ 4 → (a_fill (a_fill (a_u (a_u (a_u (a_u I (pq x) 4 1) 38 4 0) 38 0 1) 38 5 (m 44 13 + 3)) 40 64 (fun _ => (-1))) 39 64 (fun _ => 0)) (pq i) j = I (pq i) j := fun j z => by rw [a_fill_ne (by omega), a_fill_ne (by omega), a_u_row (by omega), a_u_row (by omega), a_u_row (by omega), a_u_ne (fun w => z w.2)]
    rw [e79, lo (pq i + 1) (by omega) (ne _ _ q.2.2.2.1 (fun z => by cases z)), lr _ (by omega), lr _ (by omega), sl 0 (by decide), sl 1 (by decide), sl 3 (by decide), ea 75 (by decide) (by decide) (by decide) (by decide), ea 76 (by decide) (by decide) (by decide) (by decide), ea 77 (by decide) (by decide) (by decide) (by decide), ea 80 (by decide) (by decide) (by decide) (by decide)]
    refine ⟨q.1, q.2.1, q.2.2.1, q.2.2.2.1, q.2.2.2.2.1, q.2.2.2.2.2.1, q.2.2.2.2.2.2.1, ?_, q.2.2.2.2.2.2.2.2⟩
    rw [a_fill_ne (by omega), a_fill_ne (by omega), a_u_row (by omega), a_u_row (by omega), a_u_row (by omega), apB_78]
    by_cases zd : i = x
    · rw [if_pos zd, zd, a_u_self]
    · rw [if_neg zd, a_u_ne (fun w => zd (h9.cpi i x hi hx w.1))]; exact q.2.2.2.2.2.2.2.1
  · refine ⟨fun z => ?_, fun i hi e => ?_, ?_, fun _ => ?_⟩
    · rw [apB_43] at z; exact absurd z (Int32.not_lt.mpr (nI_pos' (by have := hq.2.1; omega)))
    · rw [apB_43] at e
      have e2 := (nI_eq (by have := hq.2.1; omega) (by omega)).mp e
      subst e2
      refine ⟨a_u_self, ?_, fun y hy => ?_, fun y hy => ?_⟩
      · rw [apB_44, a_fill_ne (by decide), a_fill_ne (by decide), a_u_ne (fun z => absurd z.2 (by decide)), a_u_ne (fun z => absurd z.2 (by decide)), a_u_self]
      · rw [apB_81, a_fill_in hy]; exact (if_pos hy).symm
      · rw [apB_82, a_fill_ne (by decide), a_fill_in hy, show apR 64 (m 82) y = 0 from if_pos hy]; rfl
    · rw [e45, decide_eq_true (nI_pos' (by omega) : (0 : Int32) ≤ nI (d + 3)), a_fill_ne (by decide), a_fill_ne (by decide), a_u_ne (fun z => absurd z.2 (by decide)), a_u_self]; rfl
    · rw [apB_45, a_fill_ne (by decide), a_fill_ne (by decide), a_u_self]
theorem hasA_so {m : aI} {x : Nat} {A : Option (List Nat)} (h : hasA m x A = true) : ∃ l, A = some l := by
  cases A with
  | none => cases h
  | some l => exact ⟨l, rfl⟩
theorem hasA_e2 {m : aI} {n g x : Nat} {A : Option (List Nat)} (hg : g ≤ 4) (hA : PlQ m n g A) (h : hasA m x A = true) : ∀ k, k < iN m 79 x → (acW m x k = 2 ∨ acW m x k = 3) → m 69 (acN m x k) ≠ 0 := by
  obtain ⟨l, zz1⟩ := hasA_so h
  subst zz1
  exact hasA_en hg hA h
