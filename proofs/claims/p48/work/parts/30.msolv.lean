abbrev LaysR (I I2 : aI) (n : Nat) : Prop := ∃ I1, Least I I1 n ∧ I2 = a_ur (a_ur (a_ur I1 84 (S84 I1 n)) 85 (S85 (a_ur I1 84 (S84 I1 n)) n)) 86 (S86 (a_ur I1 84 (S84 I1 n)) n n)
theorem LaysR.fr {I I2 : aI} {n : Nat} (h : LaysR I I2 n) : ∀ o, o ≠ 83 ∧ o ≠ 84 ∧ o ≠ 85 ∧ o ≠ 86 → I2 o = I o := by
  obtain ⟨I1, h1, rfl⟩ := h
  intro o ho
  rw [a_ur_ne ho.2.2.2, a_ur_ne ho.2.2.1, a_ur_ne ho.2.1]; exact h1.1 o ho.1
theorem NR_cg {I I2 : aI} {a n b : Nat} (h : I2 a = I a) (g : NR I a n b) : NR I2 a n b := by unfold NR iN; rw [h]; exact g
theorem SW_cg {I I2 : aI} {n : Nat} (h0 : I2 44 0 = I 44 0) (h45 : I2 45 = I 45) (h46 : I2 46 = I 46) (h47 : I2 47 = I 47) (h48 : I2 48 = I 48) (h49 : I2 49 = I 49) (h50 : I2 50 = I 50) (h51 : I2 51 = I 51) (h53 : I2 53 = I 53) (g : SW I n) : SW I2 n := by
  unfold SW NR iN at *; rw [h0, h45, h46, h47, h48, h49, h50, h51, h53]; exact g
theorem LaysR.sw {I I2 : aI} {n : Nat} (h : LaysR I I2 n) (g : SW I n) : SW I2 n := by
  have f := h.fr
  exact SW_cg (by rw [f 44 (by decide)]) (f 45 (by decide)) (f 46 (by decide)) (f 47 (by decide)) (f 48 (by decide)) (f 49 (by decide)) (f 50 (by decide)) (f 51 (by decide)) (f 53 (by decide)) g
theorem mGuard_ok {I : aI} {n s : Nat} (hs : s < n) (hn : n ≤ 30) (hf : NR I 46 n 10) (h : 0 ≤ mGuard I s) : vp_in (mGuard I s) 30 ∧ vp_in (I 46 (mGuard I s).toNatClampNeg) 10 := by
  unfold mGuard at *
  dsimp only at *
  split at h
  · next q =>
    rw [if_pos q]
    rcases mLast_lt (p := fun j => decide (I 84 j ≠ 0) && decide (mTog I s j)) (N := 30) (by decide) (n := s) (by omega) with e | ⟨k, h1, h2, -⟩
    · rw [e] at q; exact absurd q.1 (by decide)
    · rw [h2, nI_clamp (by omega)]
      obtain ⟨f1, f2⟩ := hf k (by omega)
      exact ⟨vp_in_nI (by omega) (by decide), by rw [f1]; exact vp_in_nI f2 (by decide)⟩
  · exact absurd h (by decide)
theorem LaysR.gok {I I2 : aI} {n : Nat} (h : LaysR I I2 n) (g : SW I n) : GOK I2 n := by
  have f := h.fr
  obtain ⟨I1, h1, e⟩ := h
  intro s hs h0
  have e85 : I2 85 s = if a_ur I1 84 (S84 I1 n) 45 s < 7 then mGuard (a_ur I1 84 (S84 I1 n)) s else -1 := by
    rw [e, a_ur_ne (by decide), a_ur_self]; simp only [S85]; rw [if_pos hs]
  have e46 : (a_ur I1 84 (S84 I1 n)) 46 = I 46 := by rw [a_ur_ne (by decide)]; exact h1.1 46 (by decide)
  rw [e85] at h0 ⊢
  rw [f 46 (by decide), ← e46]
  split at h0
  · next q => rw [if_pos q]; exact mGuard_ok hs g.n30 (NR_cg e46 g.fd) h0
  · exact absurd h0 (by decide)
theorem cOn_cg {I I2 : aI} (h : ∀ o, o ≠ 44 → I2 o = I o) (h53 : I2 44 53 = I 44 53) (S : Nat → Int64) (s : Nat) : cOn I2 S s ↔ cOn I S s := by
  unfold cOn hOn; rw [h 84 (by decide), h 45 (by decide), h 86 (by decide), h 85 (by decide), h 46 (by decide), h 47 (by decide), h 87 (by decide), h53]
theorem nBy_cg {I I2 : aI} (h : ∀ o, o ≠ 44 → I2 o = I o) (s : Nat) (S : Nat → Int64) : nBy I2 s S = nBy I s S := by
  unfold nBy iN; rw [h 45 (by decide), h 46 (by decide), h 47 (by decide), h 48 (by decide)]
theorem Stb_cg {I I2 : aI} (h : ∀ o, o ≠ 44 → I2 o = I o) (h53 : I2 44 53 = I 44 53) {n : Nat} {S : Nat → Int64} : Stb I2 n S ↔ Stb I n S := by
  unfold Stb
  exact ⟨fun g s hs c => by rw [← nBy_cg h]; exact g s hs ((cOn_cg h h53 S s).mpr c), fun g s hs c => by rw [nBy_cg h]; exact g s hs ((cOn_cg h h53 S s).mp c)⟩
theorem Fix_cg {I I2 : aI} (h : ∀ o, o ≠ 44 → I2 o = I o) (h53 : I2 44 53 = I 44 53) {n : Nat} {S0 S : Nat → Int64} (g : Fix I n S0 S) : Fix I2 n S0 S :=
  ⟨g.1, (Stb_cg h h53).mpr g.2.1, fun T hT hs => g.2.2 T hT ((Stb_cg h h53).mp hs)⟩
/-- field after field, the defaults -/
def Ch (I : aI) (n : Nat) (P : Nat → Int64) : Nat → (Nat → Int64) → Prop
  | 0, S => S = P
  | f + 1, S => ∃ M, Ch I n P f M ∧ (if 1 < sCount (M f) then DefR I n f M S else S = M)
abbrev full : Nat → Int64 := fun j => if j < 10 then -1 else 0
abbrev Zr (J : aJ) : Prop := ∀ j, 10 ≤ j → J 88 j = 0 ∧ J 89 j = 0
theorem fill_full {J : aJ} (h : Zr J) : (a_fill J 88 10 (fun _ => -1)) 88 = full := funext fun j => by
  by_cases c : j < 10
  · rw [a_fill_in c, full, if_pos c]
  · rw [a_fill_out (by omega), full, if_neg c]; exact (h j (by omega)).1
theorem DefR_z {I : aI} {n f : Nat} {S S2 : Nat → Int64} (hf : f < 10) (h : DefR I n f S S2) (z : ∀ j, 10 ≤ j → S j = 0) : ∀ j, 10 ≤ j → S2 j = 0 := by
  unfold DefR at h
  split at h
  · obtain ⟨S3, h1, h2⟩ := h
    rw [h2]; split
    · exact z
    · exact Fix_z h1 (fun j hj => by rw [if_neg (by omega)]; exact z j hj)
  · rw [h]; exact z
theorem Ch_z {I : aI} {n : Nat} {P : Nat → Int64} (z : ∀ j, 10 ≤ j → P j = 0) : ∀ (f : Nat) (S : Nat → Int64), f ≤ 10 → Ch I n P f S → ∀ j, 10 ≤ j → S j = 0
  | 0, S, _, h => by rw [show S = P from h]; exact z
  | f + 1, S, hf, h => by
    obtain ⟨M, h1, h2⟩ := h
    have q := Ch_z z f M (by omega) h1
    split at h2
    · exact DefR_z (by omega) h2 q
    · rw [h2]; exact q
/-- what solves leaves: the store of ints, the sets without and with defaults -/
def SolR (I I2 : aI) (n : Nat) (P S : Nat → Int64) : Prop :=
  ∃ I3, LaysR I I3 n ∧ I2 = a_u (a_u I3 44 53 0) 44 57 (bI (anyB (fun j => decide (P j = 0)) 10)) ∧ Fix I2 n full P ∧ (if anyB (fun j => decide (P j = 0)) 10 = true then S = P else Ch I2 n P 10 S)
theorem fill_ur {J : aJ} {S : Nat → Int64} : a_ur (a_fill J 88 10 (fun _ => -1)) 88 S = a_ur J 88 S := by
  funext a b; by_cases h : a = 88
  · subst h; rw [a_ur_self, a_ur_self]
  · rw [a_ur_ne h, a_ur_ne h, a_fill_ne h]
