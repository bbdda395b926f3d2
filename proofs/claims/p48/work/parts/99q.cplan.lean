/-! THE ACTIONS OF A LIST -/
abbrev PwR (a b : Nat) : Prop := a % 100 = b % 100 → (a / 100 = 3 ∧ b / 100 = 1) ∨ (a / 100 = 1 ∧ b / 100 = 4)
theorem upL_m {I : aI} {x a : Nat} (hx : x < 64) (h : a ∈ upL I x) : a % 100 = x ∧ ((a / 100 = 3 ∧ I 91 x = 3 ∧ I 59 (iN I 62 (x / 16)) = 0) ∨ (a / 100 = 1 ∧ (I 91 x = 1 ∨ I 91 x = 3)) ∨ (a / 100 = 2 ∧ I 91 x = 2)) := by
  unfold upL at h
  rcases List.mem_append.mp h with q | q
  · by_cases zc : I 91 x = 3 ∧ I 59 (iN I 62 (x / 16)) = 0
    · rw [if_pos zc] at q
      have e := List.mem_singleton.mp q
      exact ⟨by omega, Or.inl ⟨by omega, zc⟩⟩
    · rw [if_neg zc] at q; cases q
  · rcases List.mem_append.mp q with q | q
    · by_cases zc : I 91 x = 1 ∨ I 91 x = 3
      · rw [if_pos zc] at q
        have e := List.mem_singleton.mp q
        exact ⟨by omega, Or.inr (Or.inl ⟨by omega, zc⟩)⟩
      · rw [if_neg zc] at q; cases q
    · by_cases zc : I 91 x = 2
      · rw [if_pos zc] at q
        have e := List.mem_singleton.mp q
        exact ⟨by omega, Or.inr (Or.inr ⟨by omega, zc⟩)⟩
      · rw [if_neg zc] at q; cases q
theorem dnL_m {I : aI} {x a : Nat} (hx : x < 64) (h : a ∈ dnL I x) : a % 100 = x ∧ ((a / 100 = 3 ∧ I 91 x = 4) ∨ (a / 100 = 4 ∧ I 91 x = 3 ∧ I 59 (iN I 62 (x / 16)) ≠ 0)) := by
  unfold dnL at h
  rcases List.mem_append.mp h with q | q
  · by_cases zc : I 91 x = 4
    · rw [if_pos zc] at q
      have e := List.mem_singleton.mp q
      exact ⟨by omega, Or.inl ⟨by omega, zc⟩⟩
    · rw [if_neg zc] at q; cases q
  · by_cases zc : I 91 x = 3 ∧ I 59 (iN I 62 (x / 16)) ≠ 0
    · rw [if_pos zc] at q
      have e := List.mem_singleton.mp q
      exact ⟨by omega, Or.inr ⟨by omega, zc⟩⟩
    · rw [if_neg zc] at q; cases q
theorem aUp_m {I : aI} {a : Nat} : ∀ {n : Nat}, a ∈ aUp I n → ∃ y, y < n ∧ a ∈ upL I y
  | 0, h => by cases h
  | n + 1, h => by
    rcases List.mem_append.mp h with q | q
    · obtain ⟨y, hy, zz1⟩ := aUp_m q
      exact ⟨y, by omega, zz1⟩
    · exact ⟨n, by omega, q⟩
theorem aDn_m {I : aI} {n a : Nat} : ∀ {j : Nat}, a ∈ aDn I n j → ∃ y, y < j ∧ a ∈ dnL I (n - 1 - y)
  | 0, h => by cases h
  | j + 1, h => by
    rcases List.mem_append.mp h with q | q
    · obtain ⟨y, hy, zz1⟩ := aDn_m q
      exact ⟨y, by omega, zz1⟩
    · exact ⟨j, by omega, q⟩
theorem upL_p {I : aI} {x : Nat} (hx : x < 64) : (upL I x).Pairwise PwR := by
  by_cases h3 : I 91 x = 3
  · by_cases h59 : I 59 (iN I 62 (x / 16)) = 0
    · have e : upL I x = [300 + x, 100 + x] := by unfold upL; rw [if_pos ⟨h3, h59⟩, if_pos (Or.inr h3), if_neg (by rw [h3]; decide)]; rfl
      rw [e]
      refine List.Pairwise.cons (fun b hb => ?_) (List.pairwise_singleton _ _)
      have e2 := List.mem_singleton.mp hb
      intro e3; omega
    · have e : upL I x = [100 + x] := by unfold upL; rw [if_neg (fun q => h59 q.2), if_pos (Or.inr h3), if_neg (by rw [h3]; decide)]; rfl
      rw [e]; exact List.pairwise_singleton _ _
  · by_cases h1 : I 91 x = 1
    · have e : upL I x = [100 + x] := by unfold upL; rw [if_neg (fun q => h3 q.1), if_pos (Or.inl h1), if_neg (by rw [h1]; decide)]; rfl
      rw [e]; exact List.pairwise_singleton _ _
    · by_cases h2 : I 91 x = 2
      · have e : upL I x = [200 + x] := by unfold upL; rw [if_neg (fun q => h3 q.1), if_neg (fun q => q.elim h1 h3), if_pos h2]; rfl
        rw [e]; exact List.pairwise_singleton _ _
      · have e : upL I x = [] := by unfold upL; rw [if_neg (fun q => h3 q.1), if_neg (fun q => q.elim h1 h3), if_neg h2]; rfl
        rw [e]; exact List.Pairwise.nil
theorem dnL_p {I : aI} {x : Nat} : (dnL I x).Pairwise PwR := by
  by_cases h4 : I 91 x = 4
  · have e : dnL I x = [300 + x] := by unfold dnL; rw [if_pos h4, if_neg (by rw [h4]; exact fun q => absurd q.1 (by decide))]; rfl
    rw [e]; exact List.pairwise_singleton _ _
  · by_cases h3 : I 91 x = 3 ∧ I 59 (iN I 62 (x / 16)) ≠ 0
    · have e : dnL I x = [400 + x] := by unfold dnL; rw [if_neg h4, if_pos h3]; rfl
      rw [e]; exact List.pairwise_singleton _ _
    · have e : dnL I x = [] := by unfold dnL; rw [if_neg h4, if_neg h3]; rfl
      rw [e]; exact List.Pairwise.nil
theorem aUp_p {I : aI} : ∀ {n : Nat}, n ≤ 64 → (aUp I n).Pairwise PwR
  | 0, _ => List.Pairwise.nil
  | n + 1, hn => List.pairwise_append.mpr ⟨aUp_p (by omega), upL_p (by omega), fun a ha b hb e => by
    obtain ⟨y, hy, zz1⟩ := aUp_m ha
    have q1 := (upL_m (by omega) zz1).1
    have q2 := (upL_m (by omega) hb).1
    omega⟩
theorem aDn_p {I : aI} {n : Nat} (hn : n ≤ 64) : ∀ {j : Nat}, j ≤ n → (aDn I n j).Pairwise PwR
  | 0, _ => List.Pairwise.nil
  | j + 1, hj => List.pairwise_append.mpr ⟨aDn_p hn (by omega), dnL_p, fun a ha b hb e => by
    obtain ⟨y, hy, zz1⟩ := aDn_m ha
    have q1 := (dnL_m (by omega) zz1).1
    have q2 := (dnL_m (by omega) hb).1
    omega⟩
theorem allA_p {I : aI} {n : Nat} (hn : n ≤ 64) : (allA I n).Pairwise PwR := List.pairwise_append.mpr ⟨aUp_p hn, aDn_p hn (Nat.le_refl _), fun a ha b hb e => by
  obtain ⟨y, hy, zz1⟩ := aUp_m ha
  obtain ⟨z, hz, zz2⟩ := aDn_m hb
  have q1 := upL_m (by omega) zz1
  have q2 := dnL_m (by omega) zz2
  have ey : n - 1 - z = y := by omega
  rw [ey] at q2
  rcases q2.2 with d | d
  · exfalso
    rcases q1.2 with u | u | u
    · exact absurd (d.2.symm.trans u.2.1) (by decide)
    · rcases u.2 with u | u
      · exact absurd (d.2.symm.trans u) (by decide)
      · exact absurd (d.2.symm.trans u) (by decide)
    · exact absurd (d.2.symm.trans u.2) (by decide)
  · rcases q1.2 with u | u | u
    · exact absurd u.2.2 d.2.2
    · exact Or.inr ⟨u.1, d.1⟩
    · exact absurd (d.2.1.symm.trans u.2) (by decide)⟩
theorem allA_m {I : aI} {n a : Nat} (hn : n ≤ 64) (h : a ∈ allA I n) : a % 100 < n ∧ (1 ≤ a / 100 ∧ a / 100 ≤ 4) ∧ (a / 100 = 2 ∨ a / 100 = 3 → I 91 (a % 100) = 2 ∨ I 91 (a % 100) = 3 ∨ I 91 (a % 100) = 4) := by
  rcases List.mem_append.mp h with q | q
  · obtain ⟨y, hy, zz1⟩ := aUp_m q
    have q1 := upL_m (by omega) zz1
    rw [q1.1]
    rcases q1.2 with u | u | u
    · exact ⟨hy, by omega, fun _ => Or.inr (Or.inl u.2.1)⟩
    · exact ⟨hy, by omega, fun z => by omega⟩
    · exact ⟨hy, by omega, fun _ => Or.inl u.2⟩
  · obtain ⟨y, hy, zz1⟩ := aDn_m q
    have q1 := dnL_m (by omega) zz1
    rw [q1.1]
    rcases q1.2 with u | u
    · exact ⟨by omega, by omega, fun _ => Or.inr (Or.inr u.2)⟩
    · exact ⟨by omega, by omega, fun z => by omega⟩
/-- what a plan can be made of -/
def PlL (g : Nat) (l : List Nat) : Prop := l.length ≤ 128 ∧ (∀ a, a ∈ l → a % 100 < 16 * g ∧ 1 ≤ a / 100 ∧ a / 100 ≤ 4) ∧ l.Pairwise PwR
theorem PlQ.ok {m : aI} {n g : Nat} {l : List Nat} (h : PlQ m n g (some l)) (hg : g ≤ 4) : PlL g l := by
  refine ⟨h.le hg, ?_⟩
  obtain ⟨m0, M, P, S, mj, w, zz1, zz2, zz3, zz4, zz5⟩ := h
  rcases zz5 with zz6 | zz6
  · cases zz6.2
  · obtain ⟨zz7, zzN, zzG, zz8, zz9⟩ := zz6
    cases zz9
    exact ⟨fun a ha => by have q := allA_m (n := 16 * g) (by omega) ha; exact ⟨q.1, q.2.1⟩, allA_p (by omega)⟩
/-- what making a plan does -/
abbrev plRw (m : aI) (p : Nat) (l : List Nat) : Nat → Int32 := fun j => if 128 * p ≤ j ∧ j < 128 * p + l.length then nI (l.getD (j - 128 * p) 0) else m 80 j
def plB (m : aI) (p : Nat) (l : List Nat) (x : Int32) : aI := a_u (a_ur (a_u (a_u (a_u m 75 p x) 76 p (m 44 35)) 79 p (nI l.length)) 80 (plRw m p l)) 44 36 (nI (p + 1))
theorem plB_o {m : aI} {p q : Nat} {l : List Nat} {x : Int32} (h : q ≠ 75) (h1 : q ≠ 76) (h2 : q ≠ 79) (h3 : q ≠ 80) (h4 : q ≠ 44) : plB m p l x q = m q := by unfold plB; rw [a_u_row h4, a_ur_ne h3, a_u_row h2, a_u_row h1, a_u_row h]
theorem plB_4 {m : aI} {p j : Nat} {l : List Nat} {x : Int32} (h : j ≠ 36) : plB m p l x 44 j = m 44 j := by unfold plB; rw [a_u_ne (fun z => h z.2), a_ur_ne (by decide), a_u_row (by decide), a_u_row (by decide), a_u_row (by decide)]
theorem plB_36 {m : aI} {p : Nat} {l : List Nat} {x : Int32} : plB m p l x 44 36 = nI (p + 1) := by unfold plB; exact a_u_self
theorem plB_75 {m : aI} {p j : Nat} {l : List Nat} {x : Int32} : plB m p l x 75 j = if j = p then x else m 75 j := by
  unfold plB; rw [a_u_row (by decide), a_ur_ne (by decide), a_u_row (by decide), a_u_row (by decide)]
  by_cases zc : j = p
  · rw [if_pos zc, zc, a_u_self]
  · rw [if_neg zc, a_u_ne (fun z => zc z.2)]
theorem plB_76 {m : aI} {p j : Nat} {l : List Nat} {x : Int32} : plB m p l x 76 j = if j = p then m 44 35 else m 76 j := by
  unfold plB; rw [a_u_row (by decide), a_ur_ne (by decide), a_u_row (by decide)]
  by_cases zc : j = p
  · rw [if_pos zc, zc, a_u_self]
  · rw [if_neg zc, a_u_ne (fun z => zc z.2), a_u_row (by decide)]
theorem plB_79 {m : aI} {p j : Nat} {l : List Nat} {x : Int32} : plB m p l x 79 j = if j = p then nI l.length else m 79 j := by
  unfold plB; rw [a_u_row (by decide), a_ur_ne (by decide)]
  by_cases zc : j = p
  · rw [if_pos zc, zc, a_u_self]
  · rw [if_neg zc, a_u_ne (fun z => zc z.2), a_u_row (by decide), a_u_row (by decide)]
theorem plB_80 {m : aI} {p : Nat} {l : List Nat} {x : Int32} : plB m p l x 80 = plRw m p l := by unfold plB; rw [a_u_row (by decide), a_ur_self]
theorem PlOK_at {m m2 : aI} {g i : Nat} (h79 : m2 79 i = m 79 i) (h80 : ∀ k, k < 128 → m2 80 (128 * i + k) = m 80 (128 * i + k)) (h : PlOK m g i) : PlOK m2 g i := by
  obtain ⟨⟨a1, a2, a3⟩, b1, b2⟩ := h
  have e79 : iN m2 79 i = iN m 79 i := by unfold iN; rw [h79]
  have e80 : ∀ k, k < 128 → iN m2 80 (128 * i + k) = iN m 80 (128 * i + k) := fun k hk => by unfold iN; rw [h80 k hk]
  have eN : ∀ k, k < 128 → acN m2 i k = acN m i k := fun k hk => by unfold acN; rw [e80 k hk]
  have eW : ∀ k, k < 128 → acW m2 i k = acW m i k := fun k hk => by unfold acW; rw [e80 k hk]
  refine ⟨⟨by omega, by rw [h79, e79]; exact a2, fun k hk => ?_⟩, fun k hk => ?_, fun j k hj hk e => ?_⟩
  · rw [e79] at hk
    rw [h80 k (by omega), e80 k (by omega), eN k (by omega)]; exact a3 k hk
  · rw [e79] at hk
    rw [eN k (by omega), eW k (by omega)]; exact b1 k hk
  · rw [e79] at hk
    rw [eN k (by omega), eN j (by omega)] at e
    rw [eW k (by omega), eW j (by omega)]; exact b2 j k hj hk e
theorem gD_mem {l : List Nat} {k : Nat} (h : k < l.length) : l.getD k 0 ∈ l := by
  rw [show l.getD k 0 = l[k] from by simp [List.getD, h]]
  exact List.getElem_mem h
theorem plB_new {m : aI} {g p : Nat} {l : List Nat} {x : Int32} (hg : g ≤ 4) (h : PlL g l) : PlOK (plB m p l x) g p := by
  obtain ⟨hl1, hl2, hl3⟩ := h
  have e79 : plB m p l x 79 p = nI l.length := by rw [plB_79, if_pos rfl]
  have i79 : iN (plB m p l x) 79 p = l.length := by unfold iN; rw [e79, nI_clamp (by omega)]
  have e80 : ∀ k, k < l.length → plB m p l x 80 (128 * p + k) = nI (l.getD k 0) := fun k hk => by
    rw [plB_80]
    show (if 128 * p ≤ 128 * p + k ∧ 128 * p + k < 128 * p + l.length then nI (l.getD (128 * p + k - 128 * p) 0) else m 80 (128 * p + k)) = _
    rw [if_pos (by omega), show 128 * p + k - 128 * p = k by omega]
  have lb : ∀ k, k < l.length → _ := fun k hk => hl2 _ (gD_mem hk)
  have i80 : ∀ k, k < l.length → iN (plB m p l x) 80 (128 * p + k) = l.getD k 0 := fun k hk => by
    have := lb k hk
    unfold iN; rw [e80 k hk, nI_clamp (by omega)]
  refine ⟨⟨by omega, by rw [i79]; exact e79, fun k hk => ?_⟩, fun k hk => ?_, fun j k hj hk e => ?_⟩
  · rw [i79] at hk
    have := lb k hk
    unfold acN
    rw [i80 k hk]
    exact ⟨e80 k hk, by omega, by omega⟩
  · rw [i79] at hk
    have := lb k hk
    unfold acN acW
    rw [i80 k hk]
    exact this
  · rw [i79] at hk
    unfold acN at e
    unfold acW
    rw [i80 k hk, i80 j (by omega)] at e
    rw [i80 k hk, i80 j (by omega)]
    have q := List.pairwise_iff_getElem.mp hl3 j k (by omega) hk hj
    rw [show l.getD k 0 = l[k] from by simp [List.getD, hk], show l.getD j 0 = l[j] from by simp [List.getD, show j < l.length by omega]] at *
    exact q e
theorem pl_g9 {T : List aT} {I : aI} {J : aJ} {R : aR} {m : aI} {c n : Nat} {sq : Nat → Nat} {g : Nat} {gq eq : Nat → Nat} {r p : Nat} {pq : Nat → Nat} {k : Nat} (h9 : G9 T I J R m c n sq g gq eq r p pq k) {T2 : List aT} {x : Int32} {l : List Nat} {GG : Nat → Int32} (hp4 : p < 40) (hl : PlL g l) (hT2 : T2 = T ++ [.inr 6, .inl (.int, l.length)]) (hz : ∀ o, T.length ≤ o → I o = fun _ => 0) (hG : ∀ k, k < l.length → GG k = nI (l.getD k 0)) : G9 T2 (a_u (a_u (a_u (a_ur I (T.length + 1) GG) T.length 0 x) T.length 1 (m 44 35)) 0 9 (nI (p + 1))) J (a_u (a_u R T.length 2 (some (T.length + 1))) 43 p (some T.length)) (plB m p l x) c n sq g gq eq r (p + 1) (fun i => if i = p then T.length else pq i) k := by
  have hT := h9.hT
  have h95 := hT.len
  have hp : T <+: T2 := by rw [hT2]; exact List.prefix_append _ _
  have t0 : T2[T.length]? = some (.inr 6) := by rw [hT2]; simp
  have t1 : T2[T.length + 1]? = some (.inl (.int, l.length)) := by rw [hT2]; simp
  have ea : ∀ q, q ≠ 75 → q ≠ 76 → q ≠ 79 → q ≠ 80 → q ≠ 44 → plB m p l x q = m q := fun q z1 z2 z3 z4 z5 => plB_o z1 z2 z3 z4 z5
  have lo : ∀ o, o < T.length → o ≠ 0 → (a_u (a_u (a_u (a_ur I (T.length + 1) GG) T.length 0 x) T.length 1 (m 44 35)) 0 9 (nI (p + 1))) o = I o := fun o u v => by rw [a_u_row v, a_u_row (by omega), a_u_row (by omega), a_ur_ne (by omega)]
  have l0 : ∀ j, j ≠ 9 → (a_u (a_u (a_u (a_ur I (T.length + 1) GG) T.length 0 x) T.length 1 (m 44 35)) 0 9 (nI (p + 1))) 0 j = I 0 j := fun j v => by rw [a_u_ne (fun z => v z.2), a_u_row (by omega), a_u_row (by omega), a_ur_ne (by omega)]
  have lr : ∀ o, o < T.length → o ≠ 43 → (a_u (a_u R T.length 2 (some (T.length + 1))) 43 p (some T.length)) o = R o := fun o u v => by rw [a_u_row v, a_u_row (by omega)]
  have n79 : ∀ i, i ≠ p → iN (plB m p l x) 79 i = iN m 79 i := fun i hi => by unfold iN; rw [plB_79, if_neg hi]
  have e80 : ∀ i, i < p → ∀ k, k < 128 → plB m p l x 80 (128 * i + k) = m 80 (128 * i + k) := fun i hi k hk => by
    rw [plB_80]; exact if_neg (by omega)
  have hq := h9.pl
  refine ⟨hT.next hp, ((h9.hR.putD (by omega)).put (fun q9 hq9 e9 => by have := a_refs_no43 q9 hq9; omega)), ⟨MBk_cg h9.bk (fun o u v => ea o (by omega) (by omega) (by omega) (by omega) (by omega)) (plB_4 (by decide)), MEs_cg h9.es (fun o u v => ea o (by omega) (by omega) (by omega) (by omega) (by omega)) (plB_4 (by decide)), ⟨plB_36, by omega, fun i hi => ?_, ⟨fun i hi => ?_, fun i hi1 hi2 => ?_⟩, ?_⟩, MPo_cg h9.po (ea 57 (by decide) (by decide) (by decide) (by decide) (by decide)) (plB_4 (by decide)), ?_⟩, ?_, ?_, ?_, ⟨a_u_self, fun i hi => ?_⟩, fun i j hi hj e => ?_, ?_⟩
  · by_cases zd : i = p
    · subst zd; exact plB_new h9.es.1.1.1 hl
    · exact PlOK_at (by rw [plB_79, if_neg zd]) (e80 i (by omega)) (hq.2.2.1 i (by omega))
  · unfold iN
    rw [plB_79]
    by_cases zd : i = p
    · rw [if_pos zd, nI_clamp (by have := hl.1; omega)]; exact ⟨rfl, by have := hl.1; omega⟩
    · rw [if_neg zd]; exact hq.2.2.2.1.1 i hi
  · rw [ea 77 (by decide) (by decide) (by decide) (by decide) (by decide), ea 78 (by decide) (by decide) (by decide) (by decide) (by decide)]; exact hq.2.2.2.1.2 i (by omega) hi2
  · have w := hq.2.2.2.2
    refine ⟨by have w1 := w.1; unfold B01 at *; rw [ea 81 (by decide) (by decide) (by decide) (by decide) (by decide)]; exact w1, fun y hy => by have w2 := w.2.1 y hy; unfold iN at *; rw [ea 82 (by decide) (by decide) (by decide) (by decide) (by decide)]; exact w2, by rw [plB_4 (by decide)]; exact w.2.2.1, ?_⟩
    rw [plB_4 (by decide), plB_4 (by decide), plB_4 (by decide)]
    rcases w.2.2.2 with e | ⟨i, a, z1, z2, z3, z4, z5, z6⟩
    · exact Or.inl e
    · have h128 := (hq.2.2.1 i z2).1.1
      refine Or.inr ⟨i, a, z1, by omega, z3, by rw [n79 i (by omega)]; exact z4, z5, fun k u v => ?_⟩
      rw [n79 i (by omega)] at v
      have t := z6 k u v
      have eW : acW (plB m p l x) i k = acW m i k := by unfold acW iN; rw [e80 i z2 k (by omega)]
      have eN : acN (plB m p l x) i k = acN m i k := by unfold acN iN; rw [e80 i z2 k (by omega)]
      rw [eW, eN, ea 82 (by decide) (by decide) (by decide) (by decide) (by decide), ea 69 (by decide) (by decide) (by decide) (by decide) (by decide)]; exact t
  · obtain ⟨d, d1, d2⟩ := h9.dy
    exact ⟨d, by rw [plB_4 (by decide)]; exact d1, d2⟩
  · exact (h9.cb.fr0 hp (fun o u v => ⟨lo o (by omega) (by omega), rfl⟩) (fun s hs => by have q := h9.cb.sq hT hs; exact ⟨lo _ q.1 (by omega), lr _ q.1 (by omega)⟩) (lr 2 (by omega) (by decide))).cgm ⟨fun o u => ea o (by omega) (by omega) (by omega) (by omega) (by omega), plB_4 (by decide), plB_4 (by decide)⟩
  · have q := h9.cpo.fr (I2 := (a_u (a_u (a_u (a_ur I (T.length + 1) GG) T.length 0 x) T.length 1 (m 44 35)) 0 9 (nI (p + 1)))) (J2 := J) (l0 7 (by decide)) (lo 41 (by omega) (by decide)) rfl
    unfold CPo iN at *; rw [ea 57 (by decide) (by decide) (by decide) (by decide) (by decide)]; exact q
  · exact (h9.ces.frt hT hp (fun o u v => lo o (by omega) (by omega)) (fun o u v _ _ => ⟨lo o u (by omega), lr o u (by omega)⟩) (lr 21 (by omega) (by decide)) (lr 25 (by omega) (by decide))).cgm (fun o u v => ea o (by omega) (by omega) (by omega) (by omega) (by omega)) (plB_4 (by decide)) (plB_4 (by decide))
  · by_cases zd : i = p
    · subst zd
      have z0 := hz T.length (Nat.le_refl _)
      have u7 := hq.2.2.2.1.2 i (Nat.le_refl _) hp4
      have i79 : iN (plB m i l x) 79 i = l.length := by unfold iN; rw [plB_79, if_pos rfl, nI_clamp (by have := hl.1; omega)]
      dsimp only
      rw [if_pos rfl, i79, plB_75, if_pos rfl, plB_76, if_pos rfl, ea 77 (by decide) (by decide) (by decide) (by decide) (by decide), ea 78 (by decide) (by decide) (by decide) (by decide) (by decide), u7.1, u7.2]
      refine ⟨a_u_self, t0, by rw [a_u_row (by omega), a_u_self], t1, by rw [a_u_row (by omega), a_u_ne (fun z => absurd z.2 (by decide)), a_u_self], by rw [a_u_row (by omega), a_u_self], ?_, ?_, fun k hk => ?_⟩
      · rw [a_u_row (by omega), a_u_ne (fun z => absurd z.2 (by decide)), a_u_ne (fun z => absurd z.2 (by decide)), a_ur_ne (by omega), z0]
      · rw [a_u_row (by omega), a_u_ne (fun z => absurd z.2 (by decide)), a_u_ne (fun z => absurd z.2 (by decide)), a_ur_ne (by omega), z0]
      · rw [a_u_row (by omega), a_u_row (by omega), a_u_row (by omega), a_ur_self, hG k hk, plB_80]
        show _ = (if 128 * i ≤ 128 * i + k ∧ 128 * i + k < 128 * i + l.length then nI (l.getD (128 * i + k - 128 * i) 0) else m 80 (128 * i + k))
        rw [if_pos (by omega), show 128 * i + k - 128 * i = k by omega]
    · have ip : i < p := by omega
      have q := h9.cpl.2 i ip
      have u := h9.cpl.pq hT ip
      have h128 := (hq.2.2.1 i ip).1.1
      dsimp only
      rw [if_neg zd, n79 i zd, plB_75, if_neg zd, plB_76, if_neg zd, ea 77 (by decide) (by decide) (by decide) (by decide) (by decide), ea 78 (by decide) (by decide) (by decide) (by decide) (by decide), lo _ u.1.1 (by omega), lo _ u.2.1 (by omega), lr _ u.1.1 (by omega), a_u_ne (fun z => zd z.2), a_u_row (by omega)]
      exact ⟨q.1, a_pfx hp q.2.1, q.2.2.1, a_pfx hp q.2.2.2.1, q.2.2.2.2.1, q.2.2.2.2.2.1, q.2.2.2.2.2.2.1, q.2.2.2.2.2.2.2.1, fun k hk => by rw [e80 i ip k (by omega)]; exact q.2.2.2.2.2.2.2.2 k hk⟩
  · have e9 : (if i = p then T.length else pq i) = (if j = p then T.length else pq j) := e
    by_cases zd : i = p
    · by_cases zc : j = p
      · omega
      · rw [if_pos zd, if_neg zc] at e9
        have := (h9.cpl.pq hT (show j < p by omega)).1.1; omega
    · by_cases zc : j = p
      · rw [if_neg zd, if_pos zc] at e9
        have := (h9.cpl.pq hT (show i < p by omega)).1.1; omega
      · rw [if_neg zd, if_neg zc] at e9
        exact h9.cpi i j (by omega) (by omega) e9
  · have q := (h9.cap.fr (I2 := (a_u (a_u (a_u (a_ur I (T.length + 1) GG) T.length 0 x) T.length 1 (m 44 35)) 0 9 (nI (p + 1)))) (R2 := (a_u (a_u R T.length 2 (some (T.length + 1))) 43 p (some T.length))) (fun o u v => lo o (by omega) (by omega)) (lr 38 (by omega) (by decide))).cgm (m2 := plB m p l x) (ea 81 (by decide) (by decide) (by decide) (by decide) (by decide)) (ea 82 (by decide) (by decide) (by decide) (by decide) (by decide)) (fun k hk => plB_4 (by omega))
    refine ⟨q.1, fun i hi e => ?_, q.2.2⟩
    have w := q.2.1 i hi e
    have ip : i ≠ p := by
      rw [plB_4 (by decide)] at e
      rcases hq.2.2.2.2.2.2.2 with z | ⟨i2, a, z1, z2, _⟩
      · rw [z] at e; exact absurd e.symm (nI_ne1b (by omega))
      · have := (nI_eq (by omega) (by omega)).mp (e.symm.trans z1); omega
    dsimp only
    rw [if_neg ip]; exact w
set_option maxRecDepth 100000 in
theorem m_X11_plan {T : List aT} {I : aI} {J : aJ} {R : aR} {m : aI} {c n : Nat} {sq : Nat → Nat} {g : Nat} {gq eq : Nat → Nat} {r p : Nat} {pq : Nat → Nat} {k : Nat} (h9 : G9 T I J R m c n sq g gq eq r p pq k) (x : Int32) : MX11_plan 3 200 [.ref 0, .int x] T I J R (CP [exI, exS] I J m c (fun k v m2 => (((0 ≤ x ∧ x ≤ 2) ∧ p ≠ 40) ∧ ∃ A, PlQ m n g A ∧ ((∃ l, A = some l ∧ k = 0 ∧ v = nI p ∧ m2 = plB m p l x) ∨ (A = none ∧ k = 2 ∧ m2 = m))) ∨ (((0 ≤ x ∧ x ≤ 2) ∧ p = 40) ∧ k = 2 ∧ m2 = m) ∨ (¬ (0 ≤ x ∧ x ≤ 2) ∧ k = 1 ∧ m2 = m))) := by
  refine a_met (by decide +kernel) a_le (fun X hC hq => ?_)
  show AW X 0 0 0 [some (.ref 0), some (.int x), none] [] T I J R
  have hT := h9.hT
  have hR := h9.hR
  have hp40 := h9.pl.2.1
  refine aw_iload_n hC dX11_plan_0 rfl ?_
  refine aw_iconst (v := 3) hC dX11_plan_1 (by decide) ?_
  refine kX11_64 hC rfl (m_X11_isBelow x (3 : Int32)) dX11_plan_2 rfl a_le a_le a_le a_le a_le rfl aPure_x (aPure_k ?_)
  show AW X 0 0 5 [some (.ref 0), some (.int x), none] [.int (bI (decide (0 ≤ x ∧ x < (3 : Int32))))] T I J R
  by_cases hn1 : bI (decide (0 ≤ x ∧ x < (3 : Int32))) = 0
  · rw [hn1]
    exact kX11_68 hC rfl (m_X11_needIndexF (T := T) (I := I) (J := J) (R := R)) dX11_plan_5 rfl a_le a_le a_le a_le a_le rfl (aTh_x (ae_out hC hq a_le a_le (CP.th (j := 0) rfl (Or.inr (Or.inr ⟨fun q => absurd (show 0 ≤ x ∧ x < 3 from ⟨q.1, i_lt3 q.2⟩) (of_decide_eq_false (bI_e0.mp (by assumption))), rfl, rfl⟩)) h9.gi))) aTh_k
  · refine kX11_68 hC rfl (m_X11_needIndexT (T := T) (I := I) (J := J) (R := R) (x := bI (decide (0 ≤ x ∧ x < (3 : Int32)))) hn1) dX11_plan_5 rfl a_le a_le a_le a_le a_le rfl aPure_x (aPure_k ?_)
    show AW X 0 0 8 [some (.ref 0), some (.int x), none] [] T I J R
    have hxb := of_decide_eq_true (bI_n0.mp (by assumption))
    refine aw_aload_n hC dX11_plan_8 rfl ?_
    refine aw_getI hC dX11_plan_9 aF_X11_275 rfl (tg_0 hT) ?_
    rw [h9.cpl.1]
    refine aw_bipush (v := 40) hC dX11_plan_12 (by decide) ?_
    refine aw_icmp_ge (tgt := 21) hC dX11_plan_14 (by decide) (fun h2 => ?_) (fun h2 => ?_)
    · show AW X 0 0 21 [some (.ref 0), some (.int x), none] [] T I J R
      have h2n : 40 ≤ p := (nI_leI (a := 40) (b := p) (by omega) (by omega)).mp h2
      refine aw_iconst (v := 0) hC dX11_plan_21 (by decide) ?_
      exact kX11_88 hC rfl (m_X11_needStateF (T := T) (I := I) (J := J) (R := R)) dX11_plan_22 rfl a_le a_le a_le a_le a_le rfl (aTh_x (ae_out hC hq a_le a_le (CP.th (j := 1) rfl (Or.inr (Or.inl ⟨⟨⟨hxb.1, i_le2 hxb.2⟩, by omega⟩, rfl, rfl⟩)) h9.gi))) aTh_k
    · show AW X 0 0 17 [some (.ref 0), some (.int x), none] [] T I J R
      have h2n : ¬ 40 ≤ p := fun q9 => h2 ((nI_leI (a := 40) (b := p) (by omega) (by omega)).mpr q9)
      refine aw_iconst (v := 1) hC dX11_plan_17 (by decide) ?_
      refine aw_goto (tgt := 22) hC dX11_plan_18 (by decide) ?_
      refine kX11_88 hC rfl (m_X11_needStateT (T := T) (I := I) (J := J) (R := R) (x := 1) (by decide)) dX11_plan_22 rfl a_le a_le a_le a_le a_le rfl aPure_x (aPure_k ?_)
      show AW X 0 0 25 [some (.ref 0), some (.int x), none] [] T I J R
      refine aw_aload_n hC dX11_plan_25 rfl ?_
      refine aw_getR hC dX11_plan_26 aF_X11_21 rfl (tg_0 hT) (pr_0_1 hR) ?_
      refine kX11_113 hC rfl (m_settleG h9) dX11_plan_29 (tg_8 hT) rfl a_le a_le a_le a_le a_le rfl aRelT_x (aRelT_k (fun v9 T9 I9 J9 R9 hp9 hQ => ?_))
      obtain ⟨ev9, hT9, hf9, hg9, m0, hs9, hl9⟩ := hQ
      rw [ev9, hT9]
      have hR9 := hg9.hR
      obtain ⟨M, P, S, hso, hD9, hC9, hP9, hS9, h57, hfo, htn, hcf, hSM, hcs, h53, hfx⟩ := hl9.use hs9 h9.bk hg9.cb.1
      show AW X 0 0 32 [some (.ref 0), some (.int x), none] [] T I9 J9 R9
      refine aw_aload_n hC dX11_plan_32 rfl ?_
      refine aw_getR hC dX11_plan_33 aF_X11_37 rfl (tg_0 hT) (pr_0_3 hR9) ?_
      refine kX11_269 hC rfl (m_listG hg9 hs9 hso hD9 h57 hfo htn) dX11_plan_36 (tg_33 hT) rfl a_le a_le a_le a_le a_le rfl aRelV_x (aRelV_k (fun v9 I8 J8 hQ => ?_))
      obtain ⟨hJ8, hI8, A8, hA8, hL8, ev8⟩ := hQ
      rw [ev8, hJ8]
      have hg8 := hg9.cmp (I2 := I8) (fun o ho => hI8 o (by omega))
      show AW X 0 0 39 [some (.ref 0), some (.int x), none] [.int (aLen A8)] T I8 J9 R9
      have hl8 := hL8
      have ha8 := hA8
      cases A8 with
      | none =>
        show AW X 0 0 39 [some (.ref 0), some (.int x), none] [.int (-1)] T I8 J9 R9
        refine aw_istore_n (L2 := [some (.ref 0), some (.int x), some (.int (-1))]) hC dX11_plan_39 rfl (by decide) rfl ?_
        refine aw_iload_n hC dX11_plan_40 rfl ?_
        refine aw_iconst (v := (-1)) hC dX11_plan_41 (by decide) ?_
        refine aw_icmp_eq (tgt := 49) hC dX11_plan_42 (by decide) (fun _ => ?_) (fun h3 => absurd h3 (by decide))
        show AW X 0 0 49 [some (.ref 0), some (.int x), some (.int (-1))] [] T I8 J9 R9
        refine aw_iconst (v := 0) hC dX11_plan_49 (by decide) ?_
        exact kX11_88 hC rfl (m_X11_needStateF (T := T) (I := I8) (J := J9) (R := R9)) dX11_plan_50 rfl a_le a_le a_le a_le a_le rfl (aTh_x (ae_out hC hq a_le a_le ⟨(fun o u v => ⟨(hI8 o (by omega)).trans (hf9 o u v).1, (hf9 o u v).2⟩), Or.inr ⟨1, exS, rfl, rfl, Or.inl ⟨⟨⟨hxb.1, i_le2 hxb.2⟩, by omega⟩, none, ha8, Or.inr ⟨rfl, rfl, rfl⟩⟩, hg8.gi⟩⟩)) aTh_k
      | some l =>
        have hl28 := hA8.le h9.es.1.1.1
        have hL2 : CLI I8 l := hL8
        show AW X 0 0 39 [some (.ref 0), some (.int x), none] [.int (nI l.length)] T I8 J9 R9
        refine aw_istore_n (L2 := [some (.ref 0), some (.int x), some (.int (nI l.length))]) hC dX11_plan_39 rfl (by decide) rfl ?_
        refine aw_iload_n hC dX11_plan_40 rfl ?_
        refine aw_iconst (v := (-1)) hC dX11_plan_41 (by decide) ?_
        refine aw_icmp_eq (tgt := 49) hC dX11_plan_42 (by decide) (fun h8 => absurd h8 (nI_ne1b (by omega))) (fun _ => ?_)
        show AW X 0 0 45 [some (.ref 0), some (.int x), some (.int (nI l.length))] [] T I8 J9 R9
        refine aw_iconst (v := 1) hC dX11_plan_45 (by decide) ?_
        refine aw_goto (tgt := 50) hC dX11_plan_46 (by decide) ?_
        refine kX11_88 hC rfl (m_X11_needStateT (T := T) (I := I8) (J := J9) (R := R9) (x := 1) (by decide)) dX11_plan_50 rfl a_le a_le a_le a_le a_le rfl aPure_x (aPure_k ?_)
        show AW X 0 0 53 [some (.ref 0), some (.int x), some (.int (nI l.length))] [] T I8 J9 R9
        refine aw_ok (fun hz8 => ?_)
        obtain ⟨L9, hL9⟩ : ∃ L9, T.length = L9 := ⟨_, rfl⟩
        have h95 := hT.len
        rw [hL9] at h95
        show AW X 0 0 53 [some (.ref 0), some (.int x), some (.int (nI l.length))] [] T I8 J9 R9
        refine aw_aload_n hC dX11_plan_53 rfl ?_
        refine aw_getR hC dX11_plan_54 aF_X11_60 rfl (tg_0 hT) (pr_0_8 hR9) ?_
        refine aw_aload_n hC dX11_plan_57 rfl ?_
        refine aw_getI hC dX11_plan_58 aF_X11_275 rfl (tg_0 hT) ?_
        rw [hg8.cpl.1]
        refine aw_new hC dX11_plan_61 aK_X6 gW_X11_58 gB_X6 gN_X6 a_le a_le ?_
        rw [hL9]
        obtain ⟨T1, hTT1⟩ : ∃ T1, T1 = T ++ [.inr 6] := ⟨_, rfl⟩
        rw [← hTT1]
        have hA1 := T_ap1 hL9 hTT1
        have hp1 : T <+: T1 := hA1.1
        show AW X (0 + 1) (0 + a_nf 6) 64 [some (.ref 0), some (.int x), some (.int (nI l.length))] [.ref L9, .int (nI p), .ref 43] T1 I8 J9 R9
        refine aw_dup hC dX11_plan_64 rfl ?_
        refine aw_iload_n hC dX11_plan_65 rfl ?_
        refine aw_aload_n hC dX11_plan_66 rfl ?_
        refine aw_getR hC dX11_plan_67 aF_X11_28 rfl (tg_0 (hT.next hp1)) (pr_0_2 hR9) ?_
        refine aw_getI hC dX11_plan_70 aF_X11_278 rfl (tg_19 (hT.next hp1)) ?_
        rw [hg8.ces.sr]
        refine aw_aload_n hC dX11_plan_73 rfl ?_
        refine aw_getR hC dX11_plan_74 aF_X11_37 rfl (tg_0 (hT.next hp1)) (pr_0_3 hR9) ?_
        refine aw_getR hC dX11_plan_77 aF_X11_281 rfl (tg_33 (hT.next hp1)) (pr_33_1 hR9) ?_
        refine aw_iload_n hC dX11_plan_80 rfl ?_
        refine kX11_284 hC rfl (m_J7_copyOf_59c91 (T := T1) (I := I8) (a := 35) (n := 128) (c := l.length) (tg_35 (hT.next hp1)) (by omega) (by omega)) dX11_plan_81 rfl a_le a_le a_le a_le a_le rfl aRelT_x (aRelT_k (fun v9 T9 I7 J7 R7 hp9 hQ => ?_))
        obtain ⟨GG, ev9, hTT9, hI7, hG7, eJ7, eR7⟩ := hQ
        rw [ev9, hA1.2.1, eJ7, eR7]
        have htq : T9[L9 + 1]? = some (.inl (.int, l.length)) := by rw [hTT9, ← hA1.2.1]; simp
        have hT79 : T9 = T ++ [.inr 6, .inl (.int, l.length)] := by rw [hTT9, hTT1]; simp
        have h709 : I7 0 9 = nI p := by rw [hI7, hA1.2.1, a_ur_ne (by omega)]; exact hg8.cpl.1
        show AW X ((0 + 1) + 1) ((0 + a_nf 6) + 128) 84 [some (.ref 0), some (.int x), some (.int (nI l.length))] [.ref (L9 + 1), .int (m 44 35), .int x, .ref L9, .ref L9, .int (nI p), .ref 43] T9 I7 J9 R9
        refine kX11_290 hC rfl (m_X6_init (I := I7) (q := L9) (a := (L9 + 1)) (a_pfx hp9 hA1.2.2) hR9 (by omega) x (m 44 35)) dX11_plan_84 rfl a_le a_le a_le a_le a_le rfl aPure_x (aPure_k ?_)
        have hR4 : aPR (a_u R9 L9 2 (some (L9 + 1))) := hR9.putD (by omega)
        show AW X ((0 + 1) + 1) ((0 + a_nf 6) + 128) 87 [some (.ref 0), some (.int x), some (.int (nI l.length))] [.ref L9, .int (nI p), .ref 43] T9 (a_u (a_u I7 L9 0 x) L9 1 (m 44 35)) J9 (a_u R9 L9 2 (some (L9 + 1)))
        refine aw_aastoreR_k (j := p) hC dX11_plan_87 (tg_43 ((hT.next hp1).next hp9)) (nI_clamp (by omega)) (vp_in_nI (by omega) (by decide)) (a_pfx hp9 hA1.2.2) rfl ?_
        have hR5 : aPR (a_u (a_u R9 L9 2 (some (L9 + 1))) 43 p (some L9)) := hR4.put (fun q9 h9 e9 => by have := a_refs_no43 q9 h9; omega)
        refine aw_aload_n hC dX11_plan_88 rfl ?_
        refine aw_dup hC dX11_plan_89 rfl ?_
        refine aw_getI hC dX11_plan_90 aF_X11_275 rfl (tg_0 ((hT.next hp1).next hp9)) ?_
        rw [a_u_ne (f := a_u I7 L9 0 x) (o := L9) (k := 1) (a := 0) (b := 9) (v := m 44 35) (fun q => absurd q.2 (by decide))]
        rw [a_u_ne (f := I7) (o := L9) (k := 0) (a := 0) (b := 9) (v := x) (fun q => absurd q.2 (by decide))]
        rw [h709]
        refine aw_iconst (v := 1) hC dX11_plan_93 (by decide) ?_
        refine aw_iadd hC dX11_plan_94 ?_
        rw [show (nI p) + 1 = nI (p + 1) from nI_add p 1]
        refine aw_putI hC dX11_plan_95 aF_X11_275 rfl rfl (tg_0 ((hT.next hp1).next hp9)) ?_
        refine aw_aload_n hC dX11_plan_98 rfl ?_
        refine aw_getI hC dX11_plan_99 aF_X11_275 rfl (tg_0 ((hT.next hp1).next hp9)) ?_
        rw [a_u_self (f := a_u (a_u I7 L9 0 x) L9 1 (m 44 35)) (o := 0) (k := 9) (v := nI (p + 1))]
        refine aw_iconst (v := 1) hC dX11_plan_102 (by decide) ?_
        refine aw_isub hC dX11_plan_103 ?_
        rw [show (nI (p + 1)) - 1 = nI ((p + 1) - 1) from pk_sub (a := (p + 1)) (b := 1) (by omega)]
        exact aw_ireturn hC hq rfl dX11_plan_104 a_le a_le (CP.ok (Or.inl ⟨⟨⟨hxb.1, i_le2 hxb.2⟩, by omega⟩, some l, ha8, Or.inl ⟨l, rfl, rfl, by rw [Nat.add_sub_cancel], rfl⟩⟩) (fun o u v => ⟨by rw [a_u_row (by omega), a_u_row (by omega), a_u_row (by omega), hI7, hA1.2.1, a_ur_ne (by omega)]; exact (hI8 o (by omega)).trans (hf9 o u v).1, (hf9 o u v).2⟩) (by have q9 := pl_g9 hg8 (x := x) (GG := GG) (by omega) (hA8.ok h9.es.1.1.1) hT79 (fun o ho => (hz8 o ho).1) (fun k hk => by rw [hG7 k hk, hL2.2 k hk, show l.getD k 0 = l[k] from by simp [List.getD, hk]]); rw [hL9, ← hA1.2.1, ← hI7, hA1.2.1] at q9; exact q9.gi))
