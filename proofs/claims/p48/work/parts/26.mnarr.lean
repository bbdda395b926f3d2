/-- the values from lo to hi -/
def sRng (lo : Nat) (hi : Int32) : Int64 := sOf (fun j => decide (lo ≤ j) && decide ((j : Int) ≤ hi.toInt)) 64
theorem xb_rng {lo : Nat} {hi : Int32} {j : Nat} : xb (sRng lo hi) j = (decide (j < 64) && (decide (lo ≤ j) && decide ((j : Int) ≤ hi.toInt))) := xb_of (Nat.le_refl _)
theorem rng_step {lo k : Nat} {its : Int64} (hk : k < 64) (h : ∀ j, j < 64 → xb its j = (decide (lo ≤ j) && decide (j < k))) (hlo : lo ≤ k) : ∀ j, j < 64 → xb (its ||| sBit k) j = (decide (lo ≤ j) && decide (j < k + 1)) := fun j hj => by
  rw [xb_or, h j hj, xb_bit hk]
  by_cases e : j = k
  · subst e; simp [hlo]
  · have e2 : decide (j < k + 1) = decide (j < k) := by simp only [decide_eq_decide]; omega
    simp [e, e2]
theorem rng_end {lo k : Nat} {hi : Int32} {its : Int64} (hk : k ≤ 64) (hhi : hi.toInt ≤ 63) (h : ∀ j, j < 64 → xb its j = (decide (lo ≤ j) && decide (j < k))) (hle : ∀ j, j < k → lo ≤ j → (j : Int) ≤ hi.toInt) (hx : ¬ nI k ≤ hi) : its = sRng lo hi := xb_ext fun j hj => by
  rw [h j hj, xb_rng]
  rw [i_le, i_nl k (by omega)] at hx
  by_cases c : lo ≤ j
  · by_cases d : j < k
    · have := hle j d c; simp [c, d, hj, this]
    · have : ¬ (j : Int) ≤ hi.toInt := by omega
      simp [c, d, this]
  · simp [c]
theorem sGreat_eq {x : Int64} {m : Nat} (hm : m ≤ 64) (h : ∀ j, m ≤ j → j < 64 → xb x j = false) (h2 : m = 0 ∨ (0 < m ∧ xb x (m - 1) = true)) : sGreat x = m := by
  have g : ∀ d, m + d ≤ 64 → sGr x (m + d) = m := fun d => by
    induction d with
    | zero =>
      intro _
      rcases h2 with rfl | ⟨h3, h4⟩
      · rfl
      · obtain ⟨q, rfl⟩ : ∃ q, m = q + 1 := ⟨m - 1, by omega⟩
        simp only [Nat.add_zero, sGr]; rw [if_pos (by simpa using h4)]
    | succ d ih =>
      intro hd
      rw [show m + (d + 1) = (m + d) + 1 by omega, sGr, if_neg (by rw [h (m + d) (by omega) (by omega)]; simp)]
      exact ih (by omega)
  have := g (64 - m) (by omega)
  rwa [show m + (64 - m) = 64 by omega] at this
theorem a_u_ur {α : Type} {f : Nat → Nat → α} {o k : Nat} {v : α} : a_u f o k v = a_ur f o (fun j => if j = k then v else f o j) := by
  funext a b; simp only [a_u, a_ur]; by_cases h : a = o <;> by_cases h2 : b = k <;> simp_all
def sUpd (S : Nat → Int64) (f : Nat) (v : Int64) : Nat → Int64 := fun j => if j = f then S f &&& v else S j
theorem lv_lem {J : aJ} {S : Nat → Int64} {f : Nat} {x : Int64} : a_u (a_ur J 88 S) 88 f (S f &&& x) = a_ur J 88 (sUpd S f x) := by
  rw [a_ur_put]; rfl
def sBelow (x : Int64) : Int64 := sRng 0 (nI (sGreat x) + (-1) - 1)
def sAbove (x : Int64) : Int64 := if x = 0 then 0 else sRng (sLeast x + 1) 63
def nBy (I : aI) (s : Nat) (S : Nat → Int64) : Nat → Int64 :=
  if I 45 s = 0 then sUpd S (iN I 46 s) (sBit (iN I 47 s))
  else if I 45 s = 1 then sUpd S (iN I 46 s) (sRng (iN I 47 s) (I 48 s))
  else if I 45 s = 2 then sUpd S (iN I 46 s) (sBit (iN I 47 s) ||| sBit (iN I 48 s))
  else if I 45 s = 3 then sUpd S (iN I 46 s) (sBit (iN I 47 s) ^^^ (-1))
  else if I 45 s = 5 then sUpd (sUpd S (iN I 46 s) (sShift (S (iN I 47 s)) (I 48 s))) (iN I 47 s) (sShift (sUpd S (iN I 46 s) (sShift (S (iN I 47 s)) (I 48 s)) (iN I 46 s)) (-(I 48 s)))
  else if I 45 s = 6 then sUpd (sUpd S (iN I 46 s) (sBelow (S (iN I 47 s)))) (iN I 47 s) (sAbove (sUpd S (iN I 46 s) (sBelow (S (iN I 47 s))) (iN I 46 s)))
  else S
theorem sAb0 {x : Int64} (h : lg_cmp x 0 = 0) : sAbove x = 0 := if_pos ((lgc0 _ _).mp h)
theorem sAb1 {x : Int64} (h : ¬ lg_cmp x 0 = 0) : sAbove x = sRng (sLeast x + 1) 63 := if_neg (fun q => h ((lgc0 _ _).mpr q))
theorem gr_ub (x : Int64) : (nI (sGreat x) + (-1) - 1 : Int32).toInt ≤ 63 := by
  have h : sGreat x ≤ 64 := sGr_le x 64
  have e : (nI (sGreat x) + (-1) - 1 : Int32) = nI (sGreat x) - nI 2 := by
    rw [Int32.sub_eq_add_neg, Int32.sub_eq_add_neg, Int32.add_assoc]; rfl
  rw [e, pk_sub_toInt (by omega) (by decide)]; omega
theorem sLeast_le (x : Int64) (h : x ≠ 0) : sLeast x < 64 := by
  rcases Nat.lt_or_ge (sLeast x) 64 with c | c
  · exact c
  · exfalso; apply h
    refine xb_zero_iff.mpr fun j hj => ?_
    cases e : xb x j with
    | false => rfl
    | true =>
      exfalso
      unfold sLeast at c
      cases f : (List.range 64).find? (fun j => xb x j) with
      | none => rw [List.find?_eq_none] at f; exact f j (List.mem_range.mpr hj) e
      | some v => rw [f] at c; have := List.mem_of_find?_eq_some f; rw [List.mem_range] at this; simp at c; omega
