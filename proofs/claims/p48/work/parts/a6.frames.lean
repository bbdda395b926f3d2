/-! WHERE EACH CALL CHANGES A GHOST -/
theorem f_one {m : aI} {o1 k1 : Nat} {v : Int32} : ∀ o j, (∀ q ∈ ([(o1, k1, 1)] : List (Nat × Nat × Nat)), ¬ inR q o j) → (a_u m o1 k1 v) o j = m o j := by
  intro o j hn
  simp only [List.mem_cons, List.not_mem_nil, or_false, forall_eq_or_imp, forall_eq, inR] at hn
  rw [a_u_ne (by omega)]
theorem f_put {m : aI} {n : Nat} {fl pk its f a b : Int32} : ∀ o j, (∀ q ∈ ([(44, 0, 1), (44, 61, 1), (45, n, 1), (46, n, 1), (47, n, 1), (48, n, 1), (49, n, 1), (50, n, 1)] : List (Nat × Nat × Nat)), ¬ inR q o j) → (mPut m n fl pk its f a b) o j = m o j := by
  intro o j hn
  simp only [List.mem_cons, List.not_mem_nil, or_false, forall_eq_or_imp, forall_eq, inR] at hn
  unfold mPut
  rw [a_u_ne (by omega)]
  rw [a_u_ne (by omega)]
  rw [a_u_ne (by omega)]
  rw [a_u_ne (by omega)]
  rw [a_u_ne (by omega)]
  rw [a_u_ne (by omega)]
  rw [a_u_ne (by omega)]
  rw [a_u_ne (by omega)]
theorem f_pass9 {m : aI} {d : Int32} : ∀ o j, (∀ q ∈ ([(44, 13, 1), (44, 43, 1), (44, 45, 1)] : List (Nat × Nat × Nat)), ¬ inR q o j) → (if 0 ≤ m 44 45 ∧ m 44 45 ≤ m 44 13 + d then a_u (a_u (a_u m 44 13 (m 44 13 + d)) 44 43 (-1)) 44 45 (-1) else (a_u m 44 13 (m 44 13 + d))) o j = m o j := by
  intro o j hn
  simp only [List.mem_cons, List.not_mem_nil, or_false, forall_eq_or_imp, forall_eq, inR] at hn
  split
  · rw [a_u_ne (by omega), a_u_ne (by omega), a_u_ne (by omega)]
  · rw [a_u_ne (by omega)]
theorem f_po {m : aI} {k f a b : Nat} : ∀ o j, (∀ q ∈ ([(57, 3 * k, 3), (44, 14, 1)] : List (Nat × Nat × Nat)), ¬ inR q o j) → (poM m k f a b) o j = m o j := by
  intro o j hn
  simp only [List.mem_cons, List.not_mem_nil, or_false, forall_eq_or_imp, forall_eq, inR] at hn
  unfold poM
  rw [a_u_ne (by omega)]
  rw [a_u_ne (by omega)]
  rw [a_u_ne (by omega)]
  rw [a_u_ne (by omega)]
theorem f_mk {m : aI} {r : Nat} {t : Int32} : ∀ o j, (∀ q ∈ ([(66, r, 1), (44, 25, 1)] : List (Nat × Nat × Nat)), ¬ inR q o j) → (mkT m r t) o j = m o j := by
  intro o j hn
  simp only [List.mem_cons, List.not_mem_nil, or_false, forall_eq_or_imp, forall_eq, inR] at hn
  unfold mkT
  rw [a_u_ne (by omega)]
  rw [a_u_ne (by omega)]
theorem f_ky {m : aI} {a y n : Nat} {z : Int32} (h1 : y ≤ n) (h2 : n < 8) : ∀ o j, (∀ q ∈ ([(64, 8 * a, 8), (63, a, 1)] : List (Nat × Nat × Nat)), ¬ inR q o j) → (kyM m a y n z) o j = m o j := by
  intro o j hn
  simp only [List.mem_cons, List.not_mem_nil, or_false, forall_eq_or_imp, forall_eq, inR] at hn
  unfold kyM
  rw [a_u_ne (by omega)]
  by_cases e1 : o = 64
  · subst e1
    rw [a_ur_self]
    show (if j = 8 * a + y then _ else if 8 * a + y < j ∧ j ≤ 8 * a + n then _ else m 64 j) = m 64 j; rw [if_neg (by omega), if_neg (by omega)]
  · rw [a_ur_ne e1]
theorem f_kd {m : aI} {a y n : Nat} (h2 : n ≤ 8) : ∀ o j, (∀ q ∈ ([(64, 8 * a, 8), (63, a, 1)] : List (Nat × Nat × Nat)), ¬ inR q o j) → (kdM m a y n) o j = m o j := by
  intro o j hn
  simp only [List.mem_cons, List.not_mem_nil, or_false, forall_eq_or_imp, forall_eq, inR] at hn
  unfold kdM
  rw [a_u_ne (by omega)]
  by_cases e1 : o = 64
  · subst e1
    rw [a_ur_self]
    exact if_neg (by omega)
  · rw [a_ur_ne e1]
theorem f_gn {m : aI} {g : Nat} {t : Int32} : ∀ o j, (∀ q ∈ ([(62, g, 1), (44, 20, 1)] : List (Nat × Nat × Nat)), ¬ inR q o j) → (gnM m g t) o j = m o j := by
  intro o j hn
  simp only [List.mem_cons, List.not_mem_nil, or_false, forall_eq_or_imp, forall_eq, inR] at hn
  unfold gnM
  rw [a_u_ne (by omega)]
  rw [a_u_ne (by omega)]
theorem f_ty {m : aI} {t : Nat} {u v w d e : Int32} : ∀ o j, (∀ q ∈ ([(58, 3 * t, 3), (59, t, 1), (60, t, 1)] : List (Nat × Nat × Nat)), ¬ inR q o j) → (tyM m t u v w d e) o j = m o j := by
  intro o j hn
  simp only [List.mem_cons, List.not_mem_nil, or_false, forall_eq_or_imp, forall_eq, inR] at hn
  unfold tyM
  rw [a_u_ne (by omega)]
  rw [a_u_ne (by omega)]
  rw [a_u_ne (by omega)]
  rw [a_u_ne (by omega)]
  rw [a_u_ne (by omega)]
theorem f_mv {m : aI} {x y : Nat} : ∀ o j, (∀ q ∈ ([(69, y, 1), (71, y, 1), (72, y, 1), (70, 3 * y, 3), (73, 3 * y, 3), (69, x, 1), (44, 35, 1)] : List (Nat × Nat × Nat)), ¬ inR q o j) → (mvB m x y) o j = m o j := by
  intro o j hn
  simp only [List.mem_cons, List.not_mem_nil, or_false, forall_eq_or_imp, forall_eq, inR] at hn
  unfold mvB
  rw [a_u_ne (by omega)]
  rw [a_u_ne (by omega)]
  by_cases e2 : o = 73
  · subst e2
    rw [a_ur_self]
    exact if_neg (by omega)
  · rw [a_ur_ne e2]
    by_cases e3 : o = 70
    · subst e3
      rw [a_ur_self]
      exact if_neg (by omega)
    · rw [a_ur_ne e3]
      rw [a_u_ne (by omega)]
      rw [a_u_ne (by omega)]
      rw [a_u_ne (by omega)]
theorem f_tk {m : aI} {x y : Nat} : ∀ o j, (∀ q ∈ ([(69, x, 1), (71, x, 1), (72, x, 1), (70, 3 * x, 3), (44, 35, 1)] : List (Nat × Nat × Nat)), ¬ inR q o j) → (tkM m x y) o j = m o j := by
  intro o j hn
  simp only [List.mem_cons, List.not_mem_nil, or_false, forall_eq_or_imp, forall_eq, inR] at hn
  unfold tkM
  rw [a_u_ne (by omega)]
  unfold tkE
  by_cases e0 : o = 70
  · subst e0
    rw [a_ur_self]
    show (if (3 * x ≤ j ∧ j < 3 * x + 3) ∧ _ then _ else (if 3 * x ≤ j ∧ j < 3 * x + 3 then _ else m 70 j)) = m 70 j; rw [if_neg (fun z => absurd z.1 (by omega)), if_neg (by omega)]
  · rw [a_ur_ne e0]
    show a_ur (a_u (a_u (a_u m 69 x _) 71 x 0) 72 x 0) 70 _ o j = m o j
    rw [a_ur_ne e0, a_u_ne (by omega), a_u_ne (by omega), a_u_ne (by omega)]
theorem f_pb {m : aI} {z n : Nat} : ∀ o j, (∀ q ∈ ([(53, z, 1), (51, 0, n)] : List (Nat × Nat × Nat)), ¬ inR q o j) → (pbM m z n) o j = m o j := by
  intro o j hn
  simp only [List.mem_cons, List.not_mem_nil, or_false, forall_eq_or_imp, forall_eq, inR] at hn
  unfold pbM
  by_cases e0 : o = 51
  · subst e0
    rw [a_ur_self]
    exact if_neg (fun z => absurd z.1 (by omega))
  · rw [a_ur_ne e0]
    rw [a_u_ne (by omega)]
theorem f_pl {m : aI} {p : Nat} {l : List Nat} {x : Int32} : ∀ o j, (∀ q ∈ ([(75, p, 1), (76, p, 1), (79, p, 1), (80, 128 * p, l.length), (44, 36, 1)] : List (Nat × Nat × Nat)), ¬ inR q o j) → (plB m p l x) o j = m o j := by
  intro o j hn
  simp only [List.mem_cons, List.not_mem_nil, or_false, forall_eq_or_imp, forall_eq, inR] at hn
  unfold plB
  rw [a_u_ne (by omega)]
  by_cases e1 : o = 80
  · subst e1
    rw [a_ur_self]
    exact if_neg (by omega)
  · rw [a_ur_ne e1]
    rw [a_u_ne (by omega)]
    rw [a_u_ne (by omega)]
    rw [a_u_ne (by omega)]
theorem f_ap {m : aI} {x : Nat} : ∀ o j, (∀ q ∈ ([(78, x, 1), (44, 43, 3), (81, 0, 64), (82, 0, 64)] : List (Nat × Nat × Nat)), ¬ inR q o j) → (apB m x) o j = m o j := by
  intro o j hn
  simp only [List.mem_cons, List.not_mem_nil, or_false, forall_eq_or_imp, forall_eq, inR] at hn
  unfold apB
  by_cases e0 : o = 82
  · subst e0
    rw [a_ur_self]
    exact if_neg (by omega)
  · rw [a_ur_ne e0]
    by_cases e1 : o = 81
    · subst e1
      rw [a_ur_self]
      exact if_neg (by omega)
    · rw [a_ur_ne e1]
      rw [a_u_ne (by omega)]
      rw [a_u_ne (by omega)]
      rw [a_u_ne (by omega)]
      rw [a_u_ne (by omega)]
theorem f_up {m : aI} {t g r : Nat} : ∀ o j, (∀ q ∈ ([(61, t, 1), (58, 3 * t, 2), (44, 35, 1), (65, 0, 3 * g), (70, 0, 48 * g), (73, 0, 48 * g), (72, 0, 16 * g), (67, 0, 3 * r)] : List (Nat × Nat × Nat)), ¬ inR q o j) → (upB m t g r) o j = m o j := by
  intro o j hn
  simp only [List.mem_cons, List.not_mem_nil, or_false, forall_eq_or_imp, forall_eq, inR] at hn
  unfold upB
  by_cases e0 : o = 67
  · subst e0
    rw [a_ur_self]
    exact if_neg (fun z => absurd z.1 (by omega))
  · rw [a_ur_ne e0]
    by_cases e1 : o = 72
    · subst e1
      rw [a_ur_self]
      exact if_neg (fun z => absurd z.1 (by omega))
    · rw [a_ur_ne e1]
      by_cases e2 : o = 73
      · subst e2
        rw [a_ur_self]
        exact if_neg (fun z => absurd z.1 (by omega))
      · rw [a_ur_ne e2]
        by_cases e3 : o = 70
        · subst e3
          rw [a_ur_self]
          exact if_neg (fun z => absurd z.1 (by omega))
        · rw [a_ur_ne e3]
          by_cases e4 : o = 65
          · subst e4
            rw [a_ur_self]
            exact if_neg (by omega)
          · rw [a_ur_ne e4]
            unfold upH
            rw [a_u_ne (by omega), a_u_ne (by omega), a_u_ne (by omega), a_u_ne (by omega)]
theorem f_rdD {m : aI} {v : Int32} {x k : Nat} : ∀ o j, ¬ (o = 72 ∧ j = x) → ¬ (o = 73 ∧ j = 3 * x + k) → rdD m v x k o j = m o j := by
  intro o j h1 h2
  unfold rdD
  grind [a_u]
theorem f_rdK {m : aI} {c : Int32} {mj : aJ} {g x k : Nat} : ∀ o j, ¬ (o = 72 ∧ j = x) → ¬ (o = 73 ∧ j = 3 * x + k) → ¬ (o = 70 ∧ j = 3 * x + k) → rdK m c mj g x k o j = m o j := by
  intro o j h1 h2 h3
  unfold rdK
  rw [f_rdD o j h1 h2, a_u_ne h3]
theorem f_rdA {m : aI} {c : Int32} {mj : aJ} {g x : Nat} : ∀ k, k ≤ 3 → ∀ o j, ¬ (o = 72 ∧ j = x) → ¬ (o = 73 ∧ 3 * x ≤ j ∧ j < 3 * x + 3) → ¬ (o = 70 ∧ 3 * x ≤ j ∧ j < 3 * x + 3) → (rdA m c mj g x k).1 o j = m o j
  | 0, _, o, j, _, _, _ => rfl
  | k + 1, hk, o, j, h1, h2, h3 => by
    have ih := f_rdA (m := m) (c := c) (mj := mj) (g := g) (x := x) k (by omega) o j h1 h2 h3
    unfold rdA
    split
    · show rdK _ c mj g x k o j = m o j
      rw [f_rdK o j h1 (fun z => h2 ⟨z.1, by omega, by omega⟩) (fun z => h3 ⟨z.1, by omega, by omega⟩)]; exact ih
    · exact ih
theorem f_rdX {m : aI} {c : Int32} {mj : aJ} {g x : Nat} : ∀ o j, ¬ (o = 69 ∧ j = x) → ¬ (o = 72 ∧ j = x) → ¬ (o = 73 ∧ 3 * x ≤ j ∧ j < 3 * x + 3) → ¬ (o = 70 ∧ 3 * x ≤ j ∧ j < 3 * x + 3) → (rdX m c mj g x).1 o j = m o j := by
  intro o j h0 h1 h2 h3
  unfold rdX
  split
  · split
    · exact a_u_ne h0
    · exact f_rdA 3 (Nat.le_refl _) o j h1 h2 h3
  · rfl
theorem f_rdN {m : aI} {c : Int32} {mj : aJ} {g : Nat} : ∀ k, ∀ o j, ¬ (o = 69 ∧ j < k) → ¬ (o = 72 ∧ j < k) → ¬ (o = 73 ∧ j < 3 * k) → ¬ (o = 70 ∧ j < 3 * k) → (rdN m c mj g k).1 o j = m o j
  | 0, o, j, _, _, _, _ => rfl
  | k + 1, o, j, h0, h1, h2, h3 => by
    show (rdX (rdN m c mj g k).1 c mj g k).1 o j = m o j
    rw [f_rdX o j (fun z => h0 ⟨z.1, by omega⟩) (fun z => h1 ⟨z.1, by omega⟩) (fun z => h2 ⟨z.1, by omega⟩) (fun z => h3 ⟨z.1, by omega⟩)]
    exact f_rdN k o j (fun z => h0 ⟨z.1, by omega⟩) (fun z => h1 ⟨z.1, by omega⟩) (fun z => h2 ⟨z.1, by omega⟩) (fun z => h3 ⟨z.1, by omega⟩)
theorem f_rd {m : aI} {c : Int32} {mj : aJ} {g : Nat} : ∀ o j, (∀ q ∈ ([(69, 0, 16 * g), (70, 0, 48 * g), (72, 0, 16 * g), (73, 0, 48 * g), (44, 35, 1)] : List (Nat × Nat × Nat)), ¬ inR q o j) → (rdS m c mj g) o j = m o j := by
  intro o j hn
  simp only [List.mem_cons, List.not_mem_nil, or_false, forall_eq_or_imp, forall_eq, inR] at hn
  unfold rdS
  rw [a_u_ne (fun z => hn.2.2.2.2 ⟨z.1, by omega, by omega⟩)]
  exact f_rdN (16 * g) o j (fun z => hn.1 ⟨z.1, by omega, by omega⟩) (fun z => hn.2.2.1 ⟨z.1, by omega, by omega⟩) (fun z => hn.2.2.2.1 ⟨z.1, by omega, by omega⟩) (fun z => hn.2.1 ⟨z.1, by omega, by omega⟩)
/-- a step -/
abbrev stR (m : aI) (x r : Nat) : List (Nat × Nat × Nat) := [(44, 25, 1), (44, 35, 1), (44, 43, 3), (66, r, 1), (67, 3 * r, 3), (67, 3 * (iN m 69 x - 1), 3), (68, r, 1), (68, iN m 69 x - 1, 1), (68, iN m 82 x - 1, 1), (69, x, 1), (70, 3 * x, 3), (71, x, 1), (72, x, 1), (74, x, 1), (82, x, 1), (81, 0, 128)]
theorem f_mkS {m : aI} {mj : aJ} {x r : Nat} {w t : Bool} : ∀ o j, ¬ (o = 44 ∧ j = 25) → ¬ (o = 66 ∧ j = r) → ¬ (o = 67 ∧ 3 * r ≤ j ∧ j < 3 * r + 3) → ¬ (o = 68 ∧ j = r) → ¬ (o = 69 ∧ j = x) → ¬ (o = 70 ∧ 3 * x ≤ j ∧ j < 3 * x + 3) → ¬ (o = 71 ∧ j = x) → ¬ (o = 72 ∧ j = x) → ¬ (o = 74 ∧ j = x) → ¬ (o = 82 ∧ j = x) → mkS m mj x r w t o j = m o j := by
  intro o j h1 h2 h3 h4 h5 h6 h7 h8 h9 h10
  have hb : mkB m mj x r o j = m o j := by
    show a_u (mkA m mj x r) 74 x _ o j = m o j
    rw [a_u_ne h9]
    show a_ur (a_u (a_u (a_u m 66 r _) 68 r 0) 44 25 _) 67 _ o j = m o j
    by_cases e : o = 67
    · subst e
      rw [a_ur_self]
      exact if_neg (fun z => h3 ⟨rfl, z.1, z.2⟩)
    · rw [a_ur_ne e, a_u_ne h1, a_u_ne h4, a_u_ne h2]
  unfold mkS
  by_cases c : w = true
  · rw [if_pos c, a_u_ne h7]
    show a_ur (a_u (a_u (a_u (a_u (mkB m mj x r) 82 x (m 69 x)) 69 x (nI (r + 1))) 71 x 0) 72 x 0) 70 (wrS (a_u (mkB m mj x r) 82 x (m 69 x)) x r 3) o j = m o j
    by_cases e : o = 70
    · subst e
      rw [a_ur_self]
      show (if 3 * x ≤ j ∧ j < 3 * x + 3 then _ else a_u (mkB m mj x r) 82 x (m 69 x) 70 j) = m 70 j
      rw [if_neg (fun z => h6 ⟨rfl, z.1, z.2⟩), a_u_ne (fun z => absurd z.1 (by decide))]; exact hb
    · rw [a_ur_ne e, a_u_ne h8, a_u_ne h7, a_u_ne h5, a_u_ne h10]; exact hb
  · rw [if_neg c]; exact hb
theorem f_chS {m : aI} {mj : aJ} {x r0 : Nat} {w : Bool} : ∀ o j, ¬ (o = 67 ∧ 3 * r0 ≤ j ∧ j < 3 * r0 + 3) → ¬ (o = 70 ∧ 3 * x ≤ j ∧ j < 3 * x + 3) → ¬ (o = 72 ∧ j = x) → chS m mj x r0 w 3 o j = m o j := by
  intro o j h1 h2 h3
  unfold chS
  by_cases e : o = 72
  · subst e
    rw [a_ur_self]; unfold ch72
    exact if_neg (fun z => h3 ⟨rfl, z⟩)
  · rw [a_ur_ne e]
    by_cases e : o = 70
    · subst e
      rw [a_ur_self]; unfold ch70
      exact if_neg (fun z => h2 ⟨rfl, z.1.1, z.1.2⟩)
    · rw [a_ur_ne e]
      by_cases e : o = 67
      · subst e
        rw [a_ur_self]; unfold ch67
        exact if_neg (fun z => h1 ⟨rfl, z.1.1, z.1.2⟩)
      · rw [a_ur_ne e]
theorem f_doS {m : aI} {mj : aJ} {x wh hw r : Nat} : ∀ o j, (∀ q ∈ stR m x r, ¬ inR q o j) → (doS m mj x wh hw r).2 o j = m o j := by
  intro o j hn
  simp only [List.mem_cons, List.not_mem_nil, or_false, forall_eq_or_imp, forall_eq, inR] at hn
  obtain ⟨n1, n2, n3, n4, n5, n6, n7, n8, n9, n10, n11, n12, n13, n14, n15, n16⟩ := hn
  have k35 : ¬ (o = 44 ∧ j = 35) := fun z => n2 ⟨z.1, by omega, by omega⟩
  have kx : ¬ (o = 69 ∧ j = x) := fun z => n10 ⟨z.1, by omega, by omega⟩
  have ch : ∀ w, chS m mj x (iN m 69 x - 1) w 3 o j = m o j := fun w => f_chS o j (fun z => n6 ⟨z.1, by omega, by omega⟩) (fun z => n11 ⟨z.1, by omega, by omega⟩) (fun z => n13 ⟨z.1, by omega, by omega⟩)
  have mk : ∀ w t, mkS m mj x r w t o j = m o j := fun w t => f_mkS o j (fun z => n1 ⟨z.1, by omega, by omega⟩) (fun z => n4 ⟨z.1, by omega, by omega⟩) (fun z => n5 ⟨z.1, by omega, by omega⟩) (fun z => n7 ⟨z.1, by omega, by omega⟩) kx (fun z => n11 ⟨z.1, by omega, by omega⟩) (fun z => n12 ⟨z.1, by omega, by omega⟩) (fun z => n13 ⟨z.1, by omega, by omega⟩) (fun z => n14 ⟨z.1, by omega, by omega⟩) (fun z => n15 ⟨z.1, by omega, by omega⟩)
  unfold doS
  by_cases c1 : wh = 1
  · rw [if_pos c1]
    by_cases c2 : r = 60 ∨ allB (cgS m mj x true) 3 = false
    · rw [if_pos c2]
    · rw [if_neg c2]
      show a_u _ 44 35 _ o j = m o j
      rw [a_u_ne k35]; exact mk _ _
  · rw [if_neg c1]
    by_cases c2 : hw = 1 ∨ (wh = 2 ∧ allB (cgS m mj x false) 3 = false)
    · rw [if_pos c2]
    · rw [if_neg c2]
      show a_u _ 44 35 _ o j = m o j
      rw [a_u_ne k35]
      by_cases c3 : wh = 2
      · rw [if_pos c3]; exact ch _
      · rw [if_neg c3]
        by_cases c4 : wh = 3
        · rw [if_pos c4, a_u_ne kx, a_u_ne (fun z => n8 ⟨z.1, by omega, by omega⟩)]
        · rw [if_neg c4]
          by_cases c5 : 0 < iN m 82 x
          · rw [if_pos c5, a_u_ne (fun z => n9 ⟨z.1, by omega, by omega⟩)]
          · rw [if_neg c5]
theorem f_psF {A : aI} {p : Nat} : ∀ (k a : Nat) (F : Nat → Int32) (j : Nat), 128 ≤ j → (psF A p k a F).2 j = F j
  | 0, a, F, j, _ => rfl
  | k + 1, a, F, j, h => by
    unfold psF
    split
    · rw [f_psF k _ _ j h, if_neg (fun z => by have q : acN A p a < 100 := Nat.mod_lt _ (by decide); omega)]
    · rfl
theorem f_st {m : aI} {mj : aJ} {x wh hw r p a : Nat} (hx : x < 64) : ∀ o j, (∀ q ∈ stR m x r, ¬ inR q o j) → stS m mj x wh hw r p a o j = m o j := by
  intro o j hn0
  have hd := f_doS (mj := mj) (wh := wh) (hw := hw) o j hn0
  have hn := hn0
  simp only [List.mem_cons, List.not_mem_nil, or_false, forall_eq_or_imp, forall_eq, inR] at hn
  obtain ⟨n1, n2, n3, n4, n5, n6, n7, n8, n9, n10, n11, n12, n13, n14, n15, n16⟩ := hn
  have k4 : ∀ k, 43 ≤ k → k < 46 → ¬ (o = 44 ∧ j = k) := fun k u v z => n3 ⟨z.1, by omega, by omega⟩
  have k81 : o = 81 → 128 ≤ j := fun z => by
    by_cases c : j < 128
    · exact (n16 ⟨z, by omega, by omega⟩).elim
    · omega
  have hF : stF m mj x wh hw r a o j = m o j := by
    show a_u (a_u (doS m mj x wh hw r).2 81 x _) 44 44 _ o j = m o j
    rw [a_u_ne (k4 44 (by decide) (by decide)), a_u_ne (fun z => by have := k81 z.1; omega)]; exact hd
  unfold stS
  by_cases c : hw = 2
  · rw [if_pos c, a_u_ne (k4 43 (by decide) (by decide))]; exact hF
  · rw [if_neg c]
    have hT : ∀ (b : Nat) (F : Nat → Int32), (∀ i, 128 ≤ i → F i = stF m mj x wh hw r a 81 i) → psT (stF m mj x wh hw r a) b F o j = m o j := fun b F hFF => by
      show a_ur (a_u (stF m mj x wh hw r a) 44 44 (nI b)) 81 F o j = m o j
      by_cases e : o = 81
      · have q := hF
        rw [e] at q ⊢
        rw [a_ur_self, hFF j (k81 e)]; exact q
      · rw [a_ur_ne e, a_u_ne (k4 44 (by decide) (by decide))]; exact hF
    unfold psS
    split
    · rw [a_u_ne (k4 45 (by decide) (by decide)), a_u_ne (k4 43 (by decide) (by decide))]
      exact hT _ _ (fun i hi9 => f_psF _ _ _ i hi9)
    · exact hT _ _ (fun i hi9 => f_psF _ _ _ i hi9)
