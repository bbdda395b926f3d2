theorem aw_forget {X : aX} {cells slots pc : Nat} {L : List (Option Value)} {st : List Value} {T : List aT} {I : aI} {J : aJ} {R : aR} (i : Nat) {L2 : List (Option Value)} (hL : L.set i none = L2) (k : AW X cells slots pc L2 st T I J R) : AW X cells slots pc L st T I J R := by
  subst hL
  obtain ⟨p, l, e, Rm, s, m, args, below, meth, c, Q, A, D, ad0, T0⟩ := X
  intro tys ad ws H locs ls h1 h2 h3 h4 h5 h6 hK hP hD hS hl
  refine k tys ad ws H locs ls h1 h2 (fun v hv => ?_) h4 h5 h6 hK hP hD hS (a_lv_le hl (fun q hq => ?_))
  · rcases List.mem_or_eq_of_mem_set hv with h | h
    · exact h3 v h
    · cases h
  · obtain ⟨v, g1, g2⟩ := a_lv_mem.mp hq
    refine a_lv_mem.mpr ⟨v, ?_, g2⟩
    rw [List.getElem?_set] at g1
    split at g1
    · split at g1 <;> simp at g1
    · exact g1
theorem a_u_swap {α : Type} {f : Nat → Nat → α} {o o2 k : Nat} {g : Nat → α} {v : α} (h : o ≠ o2) : a_u (a_ur f o2 g) o k v = a_ur (a_u f o k v) o2 g := by
  funext a b; simp only [a_u, a_ur]; by_cases h1 : a = o <;> by_cases h2 : a = o2 <;> by_cases h3 : b = k <;> simp_all [a_u]
theorem a_ur_swap {α : Type} {f : Nat → Nat → α} {o o2 : Nat} {g g2 : Nat → α} (h : o ≠ o2) : a_ur (a_ur f o2 g2) o g = a_ur (a_ur f o g) o2 g2 := by
  funext a; simp only [a_ur]; by_cases h1 : a = o <;> by_cases h2 : a = o2 <;> simp_all
theorem a_ur_2 {α : Type} {f : Nat → Nat → α} {o : Nat} {g g2 : Nat → α} : a_ur (a_ur f o g) o g2 = a_ur f o g2 := by
  funext a; simp only [a_ur]; by_cases h1 : a = o <;> simp_all
theorem a_ur_cg {α : Type} {f f2 : Nat → Nat → α} {o : Nat} {g h : Nat → α} (e1 : f = f2) (e : ∀ j, g j = h j) : a_ur f o g = a_ur f2 o h := by rw [e1, show g = h from funext e]
abbrev pubS (I : aI) (a v n : Nat) : Nat → Int32 := fun j => if j < n ∧ I 50 j = nI a ∧ I 51 j = 0 then nI v else I 51 j
def sTurn (I : aI) (t s : Int32) : Int32 := if s < 10 then s else if I 62 ((s - 10) / 3).toNatClampNeg ≠ t then s else if (s - 10) - (s - 10) / 3 * 3 = 2 then s else if (s - 10) - (s - 10) / 3 * 3 = 0 then s + 1 else s - 1
abbrev chgR (f : Nat → Int32) (at0 : Nat) : Nat → Int32 := fun j => if j = at0 + 2 then 2 * f (at0 + 2) else if j = at0 + 1 then 2 * f at0 else if j = at0 then 2 * f (at0 + 1) else f j
theorem chg_lem {I : aI} {r m : Nat} : a_u (a_u (a_u I r m (2 * I r (m + 1))) r (m + 1) (2 * I r m)) r (m + 2) (2 * a_u (a_u I r m (2 * I r (m + 1))) r (m + 1) (2 * I r m) r (m + 2)) = a_ur I r (chgR (I r) m) := by
  funext x9 y9
  by_cases h9 : x9 = r
  · subst h9; rw [a_ur_self]; simp only [a_u, true_and]; grind
  · rw [a_ur_ne h9, a_u_ne (fun q => h9 q.1), a_u_ne (fun q => h9 q.1), a_u_ne (fun q => h9 q.1)]
theorem sTurn_cg {I I2 : aI} (h : I 62 = I2 62) (t s : Int32) : sTurn I t s = sTurn I2 t s := by unfold sTurn; rw [h]
abbrev tr9 (I : aI) (t : Nat) (j : Nat) : Int32 := sTurn I (nI t) (I 65 j)
abbrev upS (I : aI) (t j : Nat) : Int32 := if I 62 (j / 3) = nI t then (if j % 3 = 0 then tr9 I t (j + 1) else if j % 3 = 1 then tr9 I t (j - 1) else tr9 I t j) else tr9 I t j
abbrev S65 (I : aI) (t k : Nat) : Nat → Int32 := fun j => if j < 3 * k then upS I t j else I 65 j
abbrev S65m (I : aI) (t k m : Nat) : Nat → Int32 := fun j => if j < 3 * k then upS I t j else if j < 3 * k + m then tr9 I t j else I 65 j
abbrev chgA (f : Nat → Int32) (j : Nat) : Int32 := if j % 3 = 0 then 2 * f (j + 1) else if j % 3 = 1 then 2 * f (j - 1) else 2 * f j
abbrev SV (I : aI) (r t k : Nat) : Nat → Int32 := fun j => if j < 48 * k ∧ I 62 (j / 48) = nI t then chgA (I r) j else I r j
abbrev SVn (I : aI) (r t k n : Nat) : Nat → Int32 := fun j => if (j < 48 * k ∧ I 62 (j / 48) = nI t) ∨ (48 * k ≤ j ∧ j < 3 * n) then chgA (I r) j else I r j
abbrev adT (x : Int32) : Int32 := ((x &&& 4) ||| ((x &&& 1) <<< ((1 : Int32) &&& 31))) ||| ((x >>> ((1 : Int32) &&& 31)) &&& 1)
abbrev SA (I : aI) (t k : Nat) : Nat → Int32 := fun j => if j < 16 * k ∧ I 62 (j / 16) = nI t then adT (I 72 j) else I 72 j
abbrev SAn (I : aI) (t k n : Nat) : Nat → Int32 := fun j => if (j < 16 * k ∧ I 62 (j / 16) = nI t) ∨ (16 * k ≤ j ∧ j < n) then adT (I 72 j) else I 72 j
abbrev SR (I : aI) (t k : Nat) : Nat → Int32 := fun j => if j < 3 * k ∧ I 66 (j / 3) = nI t then chgA (I 67) j else I 67 j
theorem up65a {I : aI} {t k : Nat} (h : I 62 k = nI t) (j : Nat) : (if j = 3 * k + 1 then S65m I t k 3 (3 * k) else if j = 3 * k then S65m I t k 3 (3 * k + 1) else S65m I t k 3 j) = S65 I t (k + 1) j := by
  simp only [S65, S65m]
  rcases (show j < 3 * k ∨ j = 3 * k ∨ j = 3 * k + 1 ∨ j = 3 * k + 2 ∨ 3 * k + 3 ≤ j by omega) with c | rfl | rfl | rfl | c
  · rw [if_neg (by omega), if_neg (by omega), if_pos c, if_pos (by omega)]
  · rw [if_neg (by omega), if_pos rfl, if_neg (by omega), if_pos (by omega), if_pos (by omega)]
    simp only [upS]; rw [show 3 * k / 3 = k by omega, if_pos h, if_pos (by omega)]
  · rw [if_pos rfl, if_neg (by omega), if_pos (by omega), if_pos (by omega)]
    simp only [upS]; rw [show (3 * k + 1) / 3 = k by omega, if_pos h, if_neg (by omega), if_pos (by omega), show 3 * k + 1 - 1 = 3 * k by omega]
  · rw [if_neg (by omega), if_neg (by omega), if_neg (by omega), if_pos (by omega), if_pos (by omega)]
    simp only [upS]; rw [show (3 * k + 2) / 3 = k by omega, if_pos h, if_neg (by omega), if_neg (by omega)]
  · rw [if_neg (by omega), if_neg (by omega), if_neg (by omega), if_neg (by omega), if_neg (by omega)]
theorem up65b {I : aI} {t k : Nat} (h : I 62 k ≠ nI t) (j : Nat) : S65m I t k 3 j = S65 I t (k + 1) j := by
  simp only [S65, S65m]
  rcases (show j < 3 * k ∨ (3 * k ≤ j ∧ j < 3 * k + 3) ∨ 3 * k + 3 ≤ j by omega) with c | c | c
  · rw [if_pos c, if_pos (by omega)]
  · rw [if_neg (by omega), if_pos c.2, if_pos (by omega)]
    simp only [upS]; rw [show j / 3 = k by omega, if_neg h]
  · rw [if_neg (by omega), if_neg (by omega), if_neg (by omega)]
theorem upSVn {I : aI} {r t k n : Nat} (h1 : 16 * k ≤ n) (j : Nat) : chgR (SVn I r t k n) (3 * n) j = SVn I r t k (n + 1) j := by
  have q : ∀ m, m < 3 → SVn I r t k n (3 * n + m) = I r (3 * n + m) := fun m hm => by simp only [SVn]; rw [if_neg (by omega)]
  have p : ∀ m, m < 3 → SVn I r t k (n + 1) (3 * n + m) = chgA (I r) (3 * n + m) := fun m hm => by simp only [SVn]; rw [if_pos (by omega)]
  rcases (show j = 3 * n ∨ j = 3 * n + 1 ∨ j = 3 * n + 2 ∨ j < 3 * n ∨ 3 * n + 3 ≤ j by omega) with rfl | rfl | rfl | c | c
  · have p0 : SVn I r t k (n + 1) (3 * n) = chgA (I r) (3 * n) := p 0 (by omega)
    rw [p0]; simp only [chgR, chgA]; rw [if_neg (by omega), if_neg (by omega), q 1 (by omega)]; simp
  · rw [p 1 (by omega)]; have q0 : SVn I r t k n (3 * n) = I r (3 * n) := q 0 (by omega)
    simp only [chgR, chgA]; rw [if_neg (by omega), if_pos trivial, q0, if_neg (by omega), if_pos (by omega), show 3 * n + 1 - 1 = 3 * n by omega]
  · rw [p 2 (by omega)]
    simp only [chgR, chgA]; rw [if_pos trivial, q 2 (by omega), if_neg (by omega), if_neg (by omega)]
  · simp only [chgR]; rw [if_neg (by omega), if_neg (by omega), if_neg (by omega)]
    simp only [SVn]
    by_cases e : (j < 48 * k ∧ I 62 (j / 48) = nI t) ∨ (48 * k ≤ j ∧ j < 3 * n)
    · rw [if_pos e, if_pos (e.imp id (fun x => ⟨x.1, by omega⟩))]
    · rw [if_neg e, if_neg (fun x => e (x.imp id (fun y => ⟨y.1, c⟩)))]
  · simp only [chgR]; rw [if_neg (by omega), if_neg (by omega), if_neg (by omega)]
    simp only [SVn]
    by_cases e : j < 48 * k ∧ I 62 (j / 48) = nI t
    · rw [if_pos (Or.inl e), if_pos (Or.inl e)]
    · rw [if_neg (fun x => x.elim e (fun y => by omega)), if_neg (fun x => x.elim e (fun y => by omega))]
