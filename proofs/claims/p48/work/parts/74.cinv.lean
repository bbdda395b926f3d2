theorem shl_n : ∀ u, u < 3 → ∀ v, v < 1024 → nI v <<< (nI u &&& 31) = nI (v * 2 ^ u) := by decide +kernel
theorem shr_n : ∀ u, u < 3 → ∀ v, v < 1024 → nI v >>> (nI u &&& 31) = nI (v / 2 ^ u) := by decide +kernel
theorem p2_4 : ∀ u, u < 3 → 1 ≤ 2 ^ u ∧ 2 ^ u ≤ 4 := by decide
/-- how much a value of a type can be -/
abbrev upx (m : aI) (t : Nat) : Nat := iN m 61 t
abbrev uxn (m : aI) (x : Nat) : Nat := iN m 61 (iN m 62 (x / 16))
/-- the values of entries and resources are small; an entry is of a resource of its type -/
def InvV (m : aI) (g : Nat) : Prop := (∀ x a, x < 64 → a < 3 → m 69 x ≠ 0 → m 70 (3 * x + a) = nI (iN m 70 (3 * x + a)) ∧ iN m 70 (3 * x + a) ≤ 255 * 2 ^ uxn m x) ∧ (∀ j a, j < 60 → a < 3 → m 68 j = 0 → m 67 (3 * j + a) = nI (iN m 67 (3 * j + a)) ∧ iN m 67 (3 * j + a) ≤ 255 * 2 ^ iN m 61 (iN m 66 j)) ∧ (∀ x, x < 64 → m 69 x ≠ 0 → x < 16 * g ∧ ∃ r, m 69 x = nI (r + 1) ∧ r < 60 ∧ m 66 r = m 62 (x / 16)) ∧ NR m 66 60 3
/-- what is adopted is of types that adopt -/
def InvZ (m : aI) (g : Nat) : Prop := ∀ x, x < 64 → (16 * g ≤ x → m 72 x = 0) ∧ (x < 16 * g → m 60 (iN m 62 (x / 16)) = 0 → m 72 x = 0)
theorem InvV.re {m : aI} {g x : Nat} (h : InvV m g) (hx : x < 64) (h0 : m 69 x ≠ 0) : ∃ r, m 69 x = nI (r + 1) ∧ iN m 69 x = r + 1 ∧ r < 60 ∧ m 66 r = m 62 (x / 16) := by
  obtain ⟨r, h1, h2, h3⟩ := (h.2.2.1 x hx h0).2
  exact ⟨r, h1, by unfold iN; rw [h1]; exact nI_clamp (by omega), h2, h3⟩
theorem sVal_rng {m : aI} {mj : aJ} {f : Nat} : sVal m mj f = -1 ∨ sVal m mj f = -2 ∨ ∃ v, sVal m mj f = nI v ∧ v < 64 := by
  unfold sVal
  split
  · split
    · next h =>
      refine Or.inr (Or.inr ⟨_, rfl, sLeast_le _ (fun q => ?_)⟩)
      rw [q] at h; exact absurd h (by decide +kernel)
    · exact Or.inl rfl
  · exact Or.inr (Or.inl rfl)
theorem ux3 {m : aI} {g x : Nat} (hg : GW m g) (hx : x < 64) : uxn m x < 3 := by
  have h1 := hg.ty (x / 16) (by omega)
  exact (hg.up _ h1.2).2
/-- a source gives nothing or a small value -/
theorem sg_rng {m : aI} {mj : aJ} {g x a : Nat} (hg : GW m g) (hx : x < 16 * g) (ha : a < 3) (h : InvV m g) : sGives m mj x a = -1 ∨ ∃ w, sGives m mj x a = nI w ∧ w ≤ 255 * 2 ^ uxn m x := by
  have hg4 := hg.g4
  have hu := ux3 hg (x := x) (by omega)
  have hp := p2_4 _ hu
  unfold sGives
  split
  · exact Or.inr ⟨0, rfl, Nat.zero_le _⟩
  · split
    · unfold gvA
      rcases sVal_rng (m := m) (mj := mj) (f := iN m 65 (3 * (x / 16) + a)) with e | e | ⟨v, e, hv⟩
      · rw [e]; exact Or.inl rfl
      · rw [e]; exact Or.inl rfl
      · rw [e, if_neg (Int32.not_lt.mpr (nI_pos' (by omega))), shl_n _ hu v (by omega)]
        exact Or.inr ⟨_, rfl, Nat.mul_le_mul_right _ (by omega)⟩
    · unfold gvB
      split
      · exact Or.inl rfl
      · next c d e =>
        have hs : (iN m 65 (3 * (x / 16) + a) - 10) / 3 < x / 16 := by
          rcases hg.so (3 * (x / 16) + a) (by omega) with q | q
          · exact absurd (Or.inl q) c
          · have := q.2.2 (by omega); omega
        have h0 : m 69 (16 * ((iN m 65 (3 * (x / 16) + a) - 10) / 3) + x % 16) ≠ 0 := fun q => e (Or.inl q)
        have hv := h.1 (16 * ((iN m 65 (3 * (x / 16) + a) - 10) / 3) + x % 16) ((iN m 65 (3 * (x / 16) + a) - 10) % 3) (by omega) (by omega) h0
        have e2 : (16 * ((iN m 65 (3 * (x / 16) + a) - 10) / 3) + x % 16) / 16 = (iN m 65 (3 * (x / 16) + a) - 10) / 3 := by omega
        have hv2 := hv.2
        unfold uxn at hv2
        rw [e2] at hv2
        have hu2 : iN m 61 (iN m 62 ((iN m 65 (3 * (x / 16) + a) - 10) / 3)) < 3 := (hg.up _ (hg.ty _ (by omega)).2).2
        have hp2 := p2_4 _ hu2
        have hw : iN m 70 (3 * (16 * ((iN m 65 (3 * (x / 16) + a) - 10) / 3) + x % 16) + (iN m 65 (3 * (x / 16) + a) - 10) % 3) < 1024 := by
          have := Nat.mul_le_mul_left 255 hp2.2; omega
        have hd : iN m 70 (3 * (16 * ((iN m 65 (3 * (x / 16) + a) - 10) / 3) + x % 16) + (iN m 65 (3 * (x / 16) + a) - 10) % 3) / 2 ^ iN m 61 (iN m 62 ((iN m 65 (3 * (x / 16) + a) - 10) / 3)) ≤ 255 := Nat.div_le_of_le_mul (Nat.le_trans hv2 (Nat.le_of_eq (Nat.mul_comm _ _)))
        rw [hv.1, shr_n _ hu2 _ hw, shl_n _ hu _ (by omega)]
        exact Or.inr ⟨_, rfl, Nat.mul_le_mul_right _ hd⟩
theorem sg_pos {m : aI} {mj : aJ} {g x a : Nat} (hg : GW m g) (hx : x < 16 * g) (ha : a < 3) (h : InvV m g) : sGives m mj x a = -1 ∨ 0 ≤ sGives m mj x a := by
  have hg4 := hg.g4
  have hu := ux3 hg (x := x) (by omega)
  have hp := p2_4 _ hu
  rcases sg_rng (mj := mj) hg hx ha h with e | ⟨w, e, hw⟩
  · exact Or.inl e
  · exact Or.inr (by rw [e]; exact nI_pos' (by have := Nat.mul_le_mul_left 255 hp.2; omega))
theorem InvV.cgm {m m2 : aI} {g : Nat} (h : InvV m g) (h61 : m2 61 = m 61) (h62 : m2 62 = m 62) (h66 : m2 66 = m 66) (h67 : m2 67 = m 67) (h68 : m2 68 = m 68) (h69 : m2 69 = m 69) (h70 : m2 70 = m 70) : InvV m2 g := by
  unfold InvV uxn NR iN at *; rw [h61, h62, h66, h67, h68, h69, h70]; exact h
theorem InvZ.cgm {m m2 : aI} {g : Nat} (h : InvZ m g) (h60 : m2 60 = m 60) (h62 : m2 62 = m 62) (h72 : m2 72 = m 72) : InvZ m2 g := by
  unfold InvZ iN at *; rw [h60, h62, h72]; exact h
theorem InvV.m91 {m : aI} {g : Nat} {N : Nat → Int32} (h : InvV m g) : InvV (a_ur m 91 N) g := h.cgm (a_ur_ne (by decide)) (a_ur_ne (by decide)) (a_ur_ne (by decide)) (a_ur_ne (by decide)) (a_ur_ne (by decide)) (a_ur_ne (by decide)) (a_ur_ne (by decide))
/-- all that holds of the rows -/
def InvR (m : aI) (g : Nat) : Prop := GW m g ∧ InvE m g ∧ InvV m g ∧ InvZ m g
theorem gv_pos {m : aI} {c : Int32} {mj : aJ} {g x a : Nat} (hg : GW m g) (hx : x < 16 * g) (ha : a < 3) (h : InvV m g) : gvV m c mj g x a = -1 ∨ 0 ≤ gvV m c mj g x a := by
  unfold gvV
  have hg2 : GW (a_u m 44 57 c) g := GW_cg (by rw [a_u_ne (by decide)]) (a_u_row (by decide)) (a_u_row (by decide)) (a_u_row (by decide)) (a_u_row (by decide)) (a_u_row (by decide)) hg
  exact sg_pos hg2.m91 hx ha (InvV.m91 (h.cgm (a_u_row (by decide)) (a_u_row (by decide)) (a_u_row (by decide)) (a_u_row (by decide)) (a_u_row (by decide)) (a_u_row (by decide)) (a_u_row (by decide))))
theorem gv_rng {m : aI} {c : Int32} {mj : aJ} {g x a : Nat} (hg : GW m g) (hx : x < 16 * g) (ha : a < 3) (h : InvV m g) : gvV m c mj g x a = -1 ∨ (0 ≤ gvV m c mj g x a ∧ (gvV m c mj g x a).toNatClampNeg ≤ bsM m x) := by
  have hg2 : GW (a_u m 44 57 c) g := GW_cg (by rw [a_u_ne (by decide)]) (a_u_row (by decide)) (a_u_row (by decide)) (a_u_row (by decide)) (a_u_row (by decide)) (a_u_row (by decide)) hg
  have hu := ux3 hg (x := x) (by have := hg.g4; omega)
  have hp := p2_4 _ hu
  unfold gvV
  rcases sg_rng hg2.m91 hx ha (InvV.m91 (h.cgm (a_u_row (by decide)) (a_u_row (by decide)) (a_u_row (by decide)) (a_u_row (by decide)) (a_u_row (by decide)) (a_u_row (by decide)) (a_u_row (by decide)))) with e | ⟨w, e, hw⟩
  · exact Or.inl e
  · have eu : ∀ N : Nat → Int32, uxn (a_ur (a_u m 44 57 c) 91 N) x = uxn m x := fun N => by unfold uxn iN; rw [a_ur_ne (by decide), a_ur_ne (by decide), a_u_row (by decide), a_u_row (by decide)]
    rw [eu] at hw
    have hw2 : w < 2147483648 := by have := Nat.mul_le_mul_left 255 hp.2; omega
    exact Or.inr (by rw [e]; exact ⟨nI_pos' hw2, by rw [nI_clamp hw2]; exact hw⟩)
theorem InvV.put {m : aI} {g x k r : Nat} (h : InvV m g) (hx : x < 64) (hk : k < 3) (h0 : m 69 x = nI (r + 1)) (hr : r < 60) (ht : m 66 r = m 62 (x / 16)) (hg : m 68 r = 0) : InvV (a_u m 70 (3 * x + k) (m 67 (3 * r + k))) g := by
  have e61 : a_u m 70 (3 * x + k) (m 67 (3 * r + k)) 61 = m 61 := a_u_row (by decide)
  have e62 : a_u m 70 (3 * x + k) (m 67 (3 * r + k)) 62 = m 62 := a_u_row (by decide)
  have e66 : a_u m 70 (3 * x + k) (m 67 (3 * r + k)) 66 = m 66 := a_u_row (by decide)
  have e67 : a_u m 70 (3 * x + k) (m 67 (3 * r + k)) 67 = m 67 := a_u_row (by decide)
  have e68 : a_u m 70 (3 * x + k) (m 67 (3 * r + k)) 68 = m 68 := a_u_row (by decide)
  have e69 : a_u m 70 (3 * x + k) (m 67 (3 * r + k)) 69 = m 69 := a_u_row (by decide)
  refine ⟨fun y a hy ha hz => ?_, ?_, ?_, ?_⟩
  · rw [e69] at hz
    unfold uxn iN
    rw [e61, e62]
    by_cases c : y = x ∧ a = k
    · rw [c.1, c.2, a_u_self]
      have q := h.2.1 r k hr hk hg
      unfold iN at q
      rw [ht] at q; exact q
    · rw [a_u_ne (fun q => c (by omega))]; exact h.1 y a hy ha hz
  · unfold iN; rw [e61, e66, e67, e68]; exact h.2.1
  · rw [e69, e66, e62]; exact h.2.2.1
  · unfold NR iN; rw [e66]; exact h.2.2.2
theorem InvE.put70 {m : aI} {g j : Nat} {v : Int32} (h : InvE m g) : InvE (a_u m 70 j v) g := h.cgm (a_u_row (by decide)) (a_u_row (by decide)) (a_u_row (by decide)) (a_u_row (by decide)) (a_u_row (by decide)) (a_u_row (by decide)) (a_u_row (by decide))
theorem InvZ.put70 {m : aI} {g j : Nat} {v : Int32} (h : InvZ m g) : InvZ (a_u m 70 j v) g := h.cgm (a_u_row (by decide)) (a_u_row (by decide)) (a_u_row (by decide))
theorem GW.put70 {m : aI} {g j : Nat} {v : Int32} (h : GW m g) : GW (a_u m 70 j v) g := GW_cg (by rw [a_u_row (by decide)]) (a_u_row (by decide)) (a_u_row (by decide)) (a_u_row (by decide)) (a_u_row (by decide)) (a_u_row (by decide)) h
theorem InvR.qD {m : aI} {g x k : Nat} {v : Int32} (hx : x < 16 * g) (hk : k < 3) (h : InvR m g) (hv : v = -1 ∨ (0 ≤ v ∧ v.toNatClampNeg ≤ bsM m x)) : InvR (rdD m v x k) g := by
  have hg4 := h.1.g4
  have fr : ∀ o, o ≠ 72 ∧ o ≠ 73 → rdD m v x k o = m o := fun o ho => rdD_fr ho
  refine ⟨GW_cg (by rw [fr 44 (by decide)]) (fr 65 (by decide)) (fr 62 (by decide)) (fr 61 (by decide)) (fr 63 (by decide)) (fr 71 (by decide)) h.1, ⟨?_, ?_, ?_⟩, h.2.2.1.cgm (fr 61 (by decide)) (fr 62 (by decide)) (fr 66 (by decide)) (fr 67 (by decide)) (fr 68 (by decide)) (fr 69 (by decide)) (fr 70 (by decide)), ?_⟩
  · unfold iN; rw [fr 58 (by decide), fr 62 (by decide), fr 65 (by decide)]; exact h.2.1.1
  · rw [fr 69 (by decide)]; exact h.2.1.2.1
  · intro y a hy ha
    have q := h.2.1.2.2 y a hy ha
    have eb : bsM (rdD m v x k) y = bsM m y := by unfold bsM iN; rw [fr 61 (by decide), fr 62 (by decide)]
    rw [eb]
    unfold rdD
    split
    · exact q
    · split
      · next c =>
        by_cases e : y = x
        · rw [e, a_u_row (by decide), a_u_self, b_or]
          intro hb
          by_cases d : a = k
          · rw [d, a_u_self]; rcases hv with hv | hv
            · rw [hv] at c; exact absurd c.1 (by decide)
            · exact hv
          · rw [bt_bK (by omega) (by omega), decide_eq_false d, Bool.or_false] at hb
            rw [a_u_ne (fun z => d (by omega)), a_u_row (by decide), ← e]; exact q (by rw [e]; exact hb)
        · rw [a_u_row (by decide), a_u_ne (fun z => e z.2), a_u_ne (fun z => e (by omega)), a_u_row (by decide)]; exact q
      · by_cases e : y = x
        · rw [e, a_u_row (by decide), a_u_self, b_and]
          intro hb
          simp only [Bool.and_eq_true] at hb
          by_cases d : a = k
          · rw [d, a_u_self, ← d, ← e]; exact q (by rw [e]; exact hb.1)
          · rw [a_u_ne (fun z => d (by omega)), a_u_row (by decide), ← e]; exact q (by rw [e]; exact hb.1)
        · rw [a_u_row (by decide), a_u_ne (fun z => e z.2), a_u_ne (fun z => e (by omega)), a_u_row (by decide)]; exact q
  · intro y hy
    have q := h.2.2.2 y hy
    have e60 : rdD m v x k 60 = m 60 := fr 60 (by decide)
    have e62 : rdD m v x k 62 = m 62 := fr 62 (by decide)
    unfold iN at q ⊢
    rw [e60, e62]
    by_cases e : y = x
    · refine ⟨fun z => by omega, fun _ z => ?_⟩
      rw [e] at z ⊢
      unfold rdD iN
      rw [if_pos z]; rw [e] at q; exact q.2 hx z
    · have e72 : rdD m v x k 72 y = m 72 y := by
        unfold rdD
        split
        · rfl
        · split <;> rw [a_u_row (by decide), a_u_ne (fun z => e z.2)]
      rw [e72]; exact q
theorem InvR.qA {m : aI} {c : Int32} {mj : aJ} {g x r : Nat} (hx : x < 16 * g) (h : InvR m g) (h0 : m 69 x = nI (r + 1)) (hr : r < 60) (ht : m 66 r = m 62 (x / 16)) (hgn : m 68 r = 0) : ∀ k, k ≤ 3 → InvR (rdA m c mj g x k).1 g
  | 0, _ => h
  | k + 1, hk => by
    have hg4 := h.1.g4
    have ih := InvR.qA (c := c) (mj := mj) hx h h0 hr ht hgn k (by omega)
    have fr : ∀ o, o ≠ 70 ∧ o ≠ 72 ∧ o ≠ 73 → (rdA m c mj g x k).1 o = m o := fun o ho => rdA_fr ho k
    simp only [rdA]
    split
    · show InvR (rdK (rdA m c mj g x k).1 c mj g x k) g
      have e69 : iN (rdA m c mj g x k).1 69 x - 1 = r := by unfold iN; rw [fr 69 (by decide), h0, nI_clamp (by omega)]; rfl
      unfold rdK
      rw [e69]
      have hV := ih.2.2.1.put (x := x) (k := k) (r := r) (by omega) (by omega) (by rw [fr 69 (by decide)]; exact h0) hr (by rw [fr 66 (by decide), fr 62 (by decide)]; exact ht) (by rw [fr 68 (by decide)]; exact hgn)
      exact InvR.qD hx (by omega) ⟨ih.1.put70, ih.2.1.put70, hV, ih.2.2.2.put70⟩ (gv_rng ih.1.put70 hx (by omega) hV)
    · exact ih
theorem InvR.drop {m : aI} {g x : Nat} (h : InvR m g) : InvR (a_u m 69 x 0) g := by
  have e61 : a_u m 69 x 0 61 = m 61 := a_u_row (by decide)
  have e62 : a_u m 69 x 0 62 = m 62 := a_u_row (by decide)
  have nz : ∀ y, a_u m 69 x 0 69 y ≠ 0 → m 69 y ≠ 0 ∧ a_u m 69 x 0 69 y = m 69 y := fun y q => by
    by_cases e : y = x
    · rw [e, a_u_self] at q; exact absurd rfl q
    · rw [a_u_ne (fun z => e z.2)] at q ⊢; exact ⟨q, rfl⟩
  refine ⟨GW_cg (by rw [a_u_row (by decide)]) (a_u_row (by decide)) (a_u_row (by decide)) (a_u_row (by decide)) (a_u_row (by decide)) (a_u_row (by decide)) h.1, ⟨?_, fun y hy q => ?_, ?_⟩, ⟨fun y a hy ha q => ?_, ?_, fun y hy q => ?_, ?_⟩, h.2.2.2.cgm (a_u_row (by decide)) (a_u_row (by decide)) (a_u_row (by decide))⟩
  · unfold iN; rw [a_u_row (by decide), e62, a_u_row (by decide)]; exact h.2.1.1
  · rw [(nz y q).2]; exact h.2.1.2.1 y hy (nz y q).1
  · have eb : ∀ y, bsM (a_u m 69 x 0) y = bsM m y := fun y => by unfold bsM iN; rw [e61, e62]
    intro y a; rw [eb, a_u_row (by decide), a_u_row (by decide)]; exact h.2.1.2.2 y a
  · unfold uxn iN; rw [e61, e62, a_u_row (by decide)]; exact h.2.2.1.1 y a hy ha (nz y q).1
  · unfold iN; rw [e61, a_u_row (by decide), a_u_row (by decide), a_u_row (by decide)]; exact h.2.2.1.2.1
  · rw [(nz y q).2, e62, a_u_row (by decide)]; exact h.2.2.1.2.2.1 y hy (nz y q).1
  · unfold NR iN; rw [a_u_row (by decide)]; exact h.2.2.1.2.2.2
theorem InvR.qX {m : aI} {c : Int32} {mj : aJ} {g x : Nat} (hx : x < 16 * g) (h : InvR m g) : InvR (rdX m c mj g x).1 g := by
  have hg4 := h.1.g4
  by_cases h0 : m 69 x = 0
  · rw [rdX_0 (by unfold iN; rw [h0]; rfl)]; exact h
  · obtain ⟨r, h1, h2, h3, h4⟩ := h.2.2.1.re (by omega) h0
    by_cases hg : m 68 r = 0
    · rw [rdX_2 h2 hg]; exact h.qA hx h1 h3 h4 hg 3 (Nat.le_refl _)
    · rw [rdX_1 h2 hg]; exact h.drop
theorem InvR.qN {m : aI} {c : Int32} {mj : aJ} {g : Nat} (h : InvR m g) : ∀ k, k ≤ 16 * g → InvR (rdN m c mj g k).1 g
  | 0, _ => h
  | k + 1, hk => InvR.qX (by omega) (InvR.qN h k (by omega))
