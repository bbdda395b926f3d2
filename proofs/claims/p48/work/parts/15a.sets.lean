/-! SETS OF VALUES: a long by its bits -/
def xb (x : Int64) (k : Nat) : Bool := x.toBitVec.getLsbD k
theorem xb_ext {x z : Int64} (h : ∀ j, j < 64 → xb x j = xb z j) : x = z := Int64.toBitVec_inj.mp (BitVec.eq_of_getLsbD_eq (fun i hi => h i hi))
theorem xb_and (x z : Int64) (j : Nat) : xb (x &&& z) j = (xb x j && xb z j) := by simp [xb]
theorem xb_or (x z : Int64) (j : Nat) : xb (x ||| z) j = (xb x j || xb z j) := by simp [xb]
theorem xb_0 (j : Nat) : xb 0 j = false := by simp [xb]
theorem xb_m1 {j : Nat} (h : j < 64) : xb (-1) j = true := by
  show (BitVec.ofInt 64 (-1)).getLsbD j = true
  have e : BitVec.ofInt 64 (-1) = BitVec.allOnes 64 := by decide
  rw [e, BitVec.getLsbD_allOnes]; simpa using h
theorem xb_not {x : Int64} {j : Nat} (h : j < 64) : xb (x ^^^ (-1)) j = !xb x j := by
  show (x.toBitVec ^^^ BitVec.ofInt 64 (-1)).getLsbD j = _
  have e : BitVec.ofInt 64 (-1) = BitVec.allOnes 64 := by decide
  rw [e, BitVec.getLsbD_xor, BitVec.getLsbD_allOnes]
  simp [xb, h]
theorem xb_hi {x : Int64} {j : Nat} (h : 64 ≤ j) : xb x j = false := BitVec.getLsbD_of_ge _ _ h
/-- one bit -/
def sBit (k : Nat) : Int64 := lN (2 ^ k)
theorem xb_bit {k j : Nat} (hk : k < 64) : xb (sBit k) j = decide (j = k) := by
  unfold xb sBit
  rw [wb_tb]
  simp only [BitVec.getLsbD_ofNat, Nat.testBit_two_pow]
  by_cases e : k = j
  · subst e; simp [hk]
  · simp [e, Ne.symm e]
theorem sBit_shl {k : Nat} (hk : k < 64) : (1 : Int64) <<< ((nI k).toInt64 &&& 63) = sBit k := by
  have h := wb_shl 1 hk
  rw [Nat.one_mul] at h
  exact h
theorem s_cu {k : Nat} (hk : k < 64) : ((nI k).toInt64.toUInt64 &&& Int64.toUInt64 63).toNat = k := by
  rw [wb_cu k hk, UInt64.toNat_ofNat']
  exact Nat.mod_eq_of_lt (by omega)
theorem xb_test {x : Int64} {k : Nat} (hk : k < 64) : (((x.toUInt64 >>> ((nI k).toInt64.toUInt64 &&& Int64.toUInt64 63)).toInt64) &&& 1) = 0 ↔ xb x k = false := ts_bit hk (s_cu hk)
theorem xb_ushr {x : Int64} {k j : Nat} (hk : k < 64) : xb ((x.toUInt64 >>> ((nI k).toInt64.toUInt64 &&& Int64.toUInt64 63)).toInt64) j = xb x (k + j) := by
  have e : (x.toUInt64 >>> ((nI k).toInt64.toUInt64 &&& Int64.toUInt64 63)).toInt64.toBitVec = x.toBitVec >>> k := by
    apply BitVec.eq_of_toNat_eq
    show (x.toUInt64 >>> _).toNat = _
    rw [UInt64.toNat_shiftRight, s_cu hk, Nat.mod_eq_of_lt hk, BitVec.toNat_ushiftRight]
    rfl
  unfold xb
  rw [e, BitVec.getLsbD_ushiftRight]
theorem xb_one (j : Nat) : xb 1 j = decide (j = 0) := xb_bit (k := 0) (by omega)
theorem xb_low {x : Int64} {k : Nat} (hk : k < 64) : (((x.toUInt64 >>> ((nI k).toInt64.toUInt64 &&& Int64.toUInt64 63)).toInt64) &&& 1) = if xb x k then 1 else 0 := by
  apply xb_ext
  intro j hj
  rw [xb_and, xb_ushr hk, xb_one]
  by_cases e : j = 0
  · subst e
    cases h : xb x k
    · simp [h, xb_0]
    · simp only [Nat.add_zero, h, decide_true, Bool.and_self, if_true]; rw [xb_one]; rfl
  · cases h : xb x k
    · simp [e, xb_0]
    · simp [e, xb_one]
theorem xb_zero_iff {x : Int64} : x = 0 ↔ ∀ j, j < 64 → xb x j = false := ⟨fun h j _ => by rw [h, xb_0], fun h => xb_ext (fun j hj => by rw [h j hj, xb_0])⟩
/-- the set of a test -/
def sOf (p : Nat → Bool) : Nat → Int64
  | 0 => 0
  | k + 1 => if p k then sOf p k ||| sBit k else sOf p k
theorem xb_of {p : Nat → Bool} {j : Nat} : ∀ {n : Nat}, n ≤ 64 → xb (sOf p n) j = (decide (j < n) && p j)
  | 0, _ => by simp [sOf, xb_0]
  | n + 1, h => by
    have ih := xb_of (p := p) (j := j) (n := n) (by omega)
    unfold sOf
    by_cases hp : p n = true
    · rw [if_pos hp, xb_or, ih, xb_bit (by omega)]
      by_cases e : j = n
      · subst e; simp [hp]
      · have e2 : decide (j < n + 1) = decide (j < n) := by simp only [decide_eq_decide]; omega
        simp [e, e2]
    · rw [if_neg hp, ih]
      by_cases e : j = n
      · subst e; simp at hp; simp [hp]
      · have e2 : decide (j < n + 1) = decide (j < n) := by simp only [decide_eq_decide]; omega
        simp [e2]
/-- least, greatest, how many -/
def sLeast (x : Int64) : Nat := ((List.range 64).find? (fun j => xb x j)).getD 64
theorem sLeast_eq {x : Int64} {k : Nat} (h : ∀ j, j < k → xb x j = false) (hk : k = 64 ∨ (k < 64 ∧ xb x k = true)) : sLeast x = k := by
  unfold sLeast
  rcases hk with rfl | ⟨hk, hb⟩
  · rw [List.find?_eq_none.mpr (fun j hj => by rw [h j (List.mem_range.mp hj)]; simp)]; rfl
  · rw [List.find?_range_eq_some.mpr ⟨hb, by simpa using hk, fun j hj => by simpa using h j hj⟩]; rfl
def cntN (x : Int64) : Nat → Nat
  | 0 => 0
  | k + 1 => cntN x k + if xb x k then 1 else 0
def sCount (x : Int64) : Nat := cntN x 64
theorem cntN_le (x : Int64) : ∀ k, cntN x k ≤ k
  | 0 => Nat.le_refl 0
  | k + 1 => by have := cntN_le x k; unfold cntN; split <;> omega
/-- the greatest, one more; 0 for none -/
def sGr (x : Int64) : Nat → Nat
  | 0 => 0
  | k + 1 => if xb x k then k + 1 else sGr x k
def sGreat (x : Int64) : Nat := sGr x 64
theorem sGr_le (x : Int64) : ∀ k, sGr x k ≤ k
  | 0 => Nat.le_refl 0
  | k + 1 => by have := sGr_le x k; unfold sGr; split <;> omega
/-- rows filled up to n -/
def a_fill {α : Type} (f : Nat → Nat → α) (o n : Nat) (g : Nat → α) : Nat → Nat → α := fun a b => if a = o ∧ b < n then g b else f a b
theorem a_fill_0 {α : Type} {f : Nat → Nat → α} {o : Nat} {g : Nat → α} : a_fill f o 0 g = f := by
  funext a b; simp [a_fill]
theorem a_fill_succ {α : Type} {f : Nat → Nat → α} {o k : Nat} {g : Nat → α} : a_u (a_fill f o k g) o k (g k) = a_fill f o (k + 1) g := by
  funext a b
  unfold a_u a_fill
  by_cases h1 : a = o
  · by_cases h2 : b = k
    · subst h1; subst h2; simp
    · have e : (b < k + 1) = (b < k) := by apply propext; omega
      simp [h1, h2, e]
  · simp [h1]
theorem a_fill_in {α : Type} {f : Nat → Nat → α} {o n b : Nat} {g : Nat → α} (h : b < n) : a_fill f o n g o b = g b := by simp [a_fill, h]
theorem a_fill_out {α : Type} {f : Nat → Nat → α} {o n b : Nat} {g : Nat → α} (h : n ≤ b) : a_fill f o n g o b = f o b := by simp [a_fill, Nat.not_lt.mpr h]
theorem a_fill_ne {α : Type} {f : Nat → Nat → α} {o n a : Nat} {g : Nat → α} (h : a ≠ o) : a_fill f o n g a = f a := by funext b; simp [a_fill, h]
