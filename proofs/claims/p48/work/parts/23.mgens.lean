theorem i0_and (x : Int32) : 0 &&& x = 0 := Int32.zero_and
theorem i1_and (b : Bool) : 1 &&& bI b = bI b := by cases b <;> rfl
def iN (I : aI) (a j : Nat) : Nat := (I a j).toNatClampNeg
/-- a row of naturals below b -/
def NR (I : aI) (a n b : Nat) : Prop := ∀ j, j < n → I a j = nI (iN I a j) ∧ iN I a j < b
theorem NR.of {I : aI} {a n b : Nat} (hb : b < 2147483648) (h : ∀ j, j < n → ∃ m, m < b ∧ I a j = nI m) : NR I a n b := fun j hj => by
  obtain ⟨m, h1, h2⟩ := h j hj
  have h3 : iN I a j = m := by rw [iN, h2, nI_clamp (by omega)]
  exact ⟨by rw [h3, h2], by omega⟩
theorem NR.le {I : aI} {a n m b : Nat} (h : NR I a n b) (hm : m ≤ n) : NR I a m b := fun j hj => h j (by omega)
theorem NR.ne {I : aI} {a n b o k : Nat} {x : Int32} (h : NR I a n b) (ho : o ≠ a) : NR (a_u I o k x) a n b := fun j hj => by
  have e : a_u I o k x a j = I a j := a_u_ne (fun q => ho q.1.symm)
  unfold iN; rw [e]; exact h j hj
theorem NR.put {I : aI} {a n b k m : Nat} (h : NR I a n b) (hm : m < b) (hb : b < 2147483648) : NR (a_u I a k (nI m)) a n b := NR.of hb fun j hj => by
  by_cases e : j = k
  · subst e; exact ⟨m, hm, by rw [a_u_self]⟩
  · exact ⟨iN I a j, (h j hj).2, by rw [a_u_ne (fun q => e q.2)]; exact (h j hj).1⟩
theorem nI_decs {k : Nat} (h : 1 ≤ k) : nI k + Int32.ofInt (-1) = nI (k - 1) := by
  obtain ⟨j, rfl⟩ : ∃ j, k = j + 1 := ⟨k - 1, by omega⟩
  exact nI_dec j
theorem bI_one {p : Prop} [Decidable p] (h : p) : bI (decide p) = 1 := (bI_yes h).symm
theorem bI_zero {p : Prop} [Decidable p] (h : ¬ p) : bI (decide p) = 0 := (bI_no h).symm
theorem nI_btw {a n : Nat} (h : a < n) (hn : n < 2147483648) : 0 ≤ nI a ∧ nI a < nI n := ⟨nI_pos' (by omega), nI_lt h hn⟩
theorem nI_ex {x : Int32} {n : Nat} (h : 0 ≤ x ∧ x < nI n) (hn : n < 2147483648) : ∃ a, a < n ∧ x = nI a := by
  obtain ⟨j, h1, rfl⟩ := nI_of (Int32.not_lt.mpr h.1)
  exact ⟨j, (nI_ltI h1 hn).mp h.2, rfl⟩
theorem a_ur_put {α : Type} {f : Nat → Nat → α} {o k : Nat} {g : Nat → α} {v : α} : a_u (a_ur f o g) o k v = a_ur f o (fun j => if j = k then v else g j) := by
  funext a b; simp only [a_u, a_ur]; by_cases h1 : a = o <;> by_cases h2 : b = k <;> simp [h1, h2]
theorem a_ur_ext {α : Type} {f : Nat → Nat → α} {o : Nat} {g h : Nat → α} (e : ∀ j, g j = h j) : a_ur f o g = a_ur f o h := by rw [show g = h from funext e]
theorem a_ur_id {α : Type} {f : Nat → Nat → α} {o : Nat} {g : Nat → α} (e : ∀ j, g j = f o j) : a_ur f o g = f := by
  funext a b; simp only [a_ur]; split
  · next h => subst h; exact e b
  · rfl
theorem upN {P : Nat → Prop} (step : ∀ k, (∀ j, j < k → P j) → P k) : ∀ k, P k := fun k => Nat.strongRecOn k step
abbrev mPlaces (its f a : Int32) : Prop := (if its = 12 then 0 ≤ f ∧ f ≤ 2 else 0 ≤ f ∧ f ≤ 9) ∧ (¬ (its = 5 ∨ its = 6) ∨ (0 ≤ a ∧ a ≤ 9))
abbrev mCode (its f a b : Int32) (n : Nat) : Int32 := if ¬ mPlaces its f a then 1 else if ¬ mRange its a b then 2 else if n = 30 then 3 else 0
abbrev mPut (I : aI) (n : Nat) (fl pk its f a b : Int32) : aI := a_u (a_u (a_u (a_u (a_u (a_u (a_u (a_u I 44 61 0) 45 n its) 46 n f) 47 n a) 48 n b) 49 n fl) 50 n pk) 44 0 (nI (n + 1))
theorem NR.ner {I : aI} {a n b o : Nat} {g : Nat → Int32} (h : NR I a n b) (ho : o ≠ a) : NR (a_ur I o g) a n b := fun j hj => by
  have e : a_ur I o g a j = I a j := by rw [a_ur_ne (fun q => ho q.symm)]
  unfold iN; rw [e]; exact h j hj
/-- the keys with one put in -/
abbrev kIns (f : Nat → Int32) (b p n : Nat) (x : Int32) : Nat → Int32 := fun j => if j = b + p then x else if b + p < j ∧ j ≤ b + n then f (j - 1) else f j
abbrev kDel (f : Nat → Int32) (b p n : Nat) : Nat → Int32 := fun j => if b + p ≤ j ∧ j + 1 < b + n then f (j + 1) else f j
