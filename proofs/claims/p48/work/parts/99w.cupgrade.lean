abbrev upV (m : aI) (r t k : Nat) : Nat → Int32 := fun j => if j < 3 * k ∧ m 62 (j / 48) = nI t then chgA (m r) j else m r j
abbrev upA (m : aI) (t k : Nat) : Nat → Int32 := fun j => if j < k ∧ m 62 (j / 16) = nI t then adT (m 72 j) else m 72 j
abbrev mD (m : aI) (t k : Nat) : aI := a_ur (a_ur (a_ur m 70 (upV m 70 t k)) 73 (upV m 73 t k)) 72 (upA m t k)
theorem mD_o {m : aI} {t k q : Nat} (h : q ≠ 70) (h2 : q ≠ 73) (h3 : q ≠ 72) : mD m t k q = m q := by unfold mD; rw [a_ur_ne h3, a_ur_ne h2, a_ur_ne h]
theorem mD_70 {m : aI} {t k : Nat} : mD m t k 70 = upV m 70 t k := by unfold mD; rw [a_ur_ne (by decide), a_ur_ne (by decide), a_ur_self]
theorem mD_73 {m : aI} {t k : Nat} : mD m t k 73 = upV m 73 t k := by unfold mD; rw [a_ur_ne (by decide), a_ur_self]
theorem mD_72 {m : aI} {t k : Nat} : mD m t k 72 = upA m t k := by unfold mD; rw [a_ur_self]
theorem chgA_at {f : Nat → Int32} {y a : Nat} (ha : a < 3) : chgA f (3 * y + a) = if a = 0 then 2 * f (3 * y + 1) else if a = 1 then 2 * f (3 * y) else 2 * f (3 * y + 2) := by
  show (if (3 * y + a) % 3 = 0 then 2 * f (3 * y + a + 1) else if (3 * y + a) % 3 = 1 then 2 * f (3 * y + a - 1) else 2 * f (3 * y + a)) = _
  rw [show (3 * y + a) % 3 = a by omega]
  rcases (show a = 0 ∨ a = 1 ∨ a = 2 by omega) with e | e | e <;> subst e <;> rfl
theorem ite_cg {α : Type} {p q : Prop} [Decidable p] [Decidable q] (h : p ↔ q) (a b : α) : (if p then a else b) = (if q then a else b) := by
  by_cases zc : p
  · rw [if_pos zc, if_pos (h.mp zc)]
  · rw [if_neg zc, if_neg (fun z => zc (h.mpr z))]
theorem upV_at {m : aI} {r t k y a : Nat} (ha : a < 3) : upV m r t k (3 * y + a) = if y < k ∧ m 62 (y / 16) = nI t then chgA (m r) (3 * y + a) else m r (3 * y + a) := by
  show (if 3 * y + a < 3 * k ∧ m 62 ((3 * y + a) / 48) = nI t then chgA (m r) (3 * y + a) else m r (3 * y + a)) = _
  rw [show (3 * y + a) / 48 = y / 16 by omega]
  exact ite_cg ⟨fun w => ⟨by omega, w.2⟩, fun w => ⟨by omega, w.2⟩⟩ _ _
theorem chgR_at {f : Nat → Int32} {a : Nat} (ha : a < 3) : chgR f 0 a = if a = 0 then 2 * f 1 else if a = 1 then 2 * f 0 else 2 * f 2 := by
  show (if a = 0 + 2 then 2 * f (0 + 2) else if a = 0 + 1 then 2 * f 0 else if a = 0 then 2 * f (0 + 1) else f a) = _
  rcases (show a = 0 ∨ a = 1 ∨ a = 2 by omega) with e | e | e <;> subst e <;> rfl
theorem CEn.up_0 {T : List aT} {I : aI} {R : aR} {m : aI} {t : Nat} {eq : Nat → Nat} (h : CEn T I R m eq) : CEn T I R (mD m t 0) eq := h.cgm (mD_o (by decide) (by decide) (by decide)) (by rw [mD_70]; exact funext fun j => if_neg (by omega)) (mD_o (by decide) (by decide) (by decide)) (by rw [mD_72]; exact funext fun j => if_neg (by omega)) (by rw [mD_73]; exact funext fun j => if_neg (by omega))
theorem up_k {k y : Nat} (h : y ≠ k) : (y < k + 1) = (y < k) := propext ⟨fun _ => by omega, fun _ => by omega⟩
theorem CEn.up_n {T : List aT} {I : aI} {R : aR} {m : aI} {t k : Nat} {eq : Nat → Nat} (h : CEn T I R (mD m t k) eq) (hs : m 69 k = 0 ∨ ¬ m 62 (k / 16) = nI t) : CEn T I R (mD m t (k + 1)) eq := by
  have e69 : ∀ j, mD m t j 69 = m 69 := fun j => mD_o (by decide) (by decide) (by decide)
  have e71 : ∀ j, mD m t j 71 = m 71 := fun j => mD_o (by decide) (by decide) (by decide)
  obtain ⟨h1, h2⟩ := h
  rw [e69] at h1 h2
  refine ⟨?_, by rw [e69]; exact h2⟩
  rw [e69]
  refine fun y hy => ⟨(h1 y hy).1, fun z => ⟨((h1 y hy).2 z).1, ?_⟩⟩
  have q := ((h1 y hy).2 z).2
  have ey : (y < k + 1 ∧ m 62 (y / 16) = nI t) ↔ (y < k ∧ m 62 (y / 16) = nI t) := by
    by_cases zc : y = k
    · subst zc
      refine ⟨fun w => ?_, fun w => absurd w.1 (by omega)⟩
      rcases hs with hs | hs
      · exact absurd hs z
      · exact absurd w.2 hs
    · rw [up_k zc]
  have e72 : mD m t (k + 1) 72 y = mD m t k 72 y := by
    rw [mD_72, mD_72]
    exact ite_cg ey _ _
  have e70 : ∀ a, a < 3 → mD m t (k + 1) 70 (3 * y + a) = mD m t k 70 (3 * y + a) := fun a ha => by rw [mD_70, mD_70, upV_at ha, upV_at ha]; exact ite_cg ey _ _
  have e73 : ∀ a, a < 3 → mD m t (k + 1) 73 (3 * y + a) = mD m t k 73 (3 * y + a) := fun a ha => by rw [mD_73, mD_73, upV_at ha, upV_at ha]; exact ite_cg ey _ _
  unfold EnAt at *
  rw [e72, e69, e71]
  rw [e69, e71] at q
  exact ⟨q.1, q.2.1, q.2.2.1, q.2.2.2.1, q.2.2.2.2.1, q.2.2.2.2.2.1, q.2.2.2.2.2.2.1, q.2.2.2.2.2.2.2.1, fun a ha => by rw [e70 a ha]; exact q.2.2.2.2.2.2.2.2.1 a ha, fun a ha hb => by rw [e73 a ha]; exact q.2.2.2.2.2.2.2.2.2 a ha hb⟩
abbrev tnI (I : aI) (q : Nat) : aI := a_u (a_ur (a_ur I (q + 1) (chgR (I (q + 1)) 0)) (q + 2) (chgR (I (q + 2)) 0)) q 3 (adC (I q 3))
theorem tnI_o {I : aI} {q z : Nat} (h : z ≠ q) (h1 : z ≠ q + 1) (h2 : z ≠ q + 2) : tnI I q z = I z := by unfold tnI; rw [a_u_row h, a_ur_ne h2, a_ur_ne h1]
theorem tnI_q {I : aI} {q j : Nat} : tnI I q q j = if j = 3 then adC (I q 3) else I q j := by
  unfold tnI
  by_cases zc : j = 3
  · rw [if_pos zc, zc, a_u_self]
  · rw [if_neg zc, a_u_ne (fun z => zc z.2), a_ur_ne (by omega), a_ur_ne (by omega)]
theorem tnI_1 {I : aI} {q : Nat} : tnI I q (q + 1) = chgR (I (q + 1)) 0 := by unfold tnI; rw [a_u_row (by omega), a_ur_ne (by omega), a_ur_self]
theorem tnI_2 {I : aI} {q : Nat} : tnI I q (q + 2) = chgR (I (q + 2)) 0 := by unfold tnI; rw [a_u_row (by omega), a_ur_self]
theorem CEn.up_y {T : List aT} {I : aI} {R : aR} {m : aI} {t k : Nat} {eq : Nat → Nat} (h : CEn T I R (mD m t k) eq) (hk : k < 64) (h0 : m 69 k ≠ 0) (ht : m 62 (k / 16) = nI t) : CEn T (tnI I (eq k)) R (mD m t (k + 1)) eq := by
  have e69 : ∀ j, mD m t j 69 = m 69 := fun j => mD_o (by decide) (by decide) (by decide)
  have e71 : ∀ j, mD m t j 71 = m 71 := fun j => mD_o (by decide) (by decide) (by decide)
  have hc := h
  obtain ⟨h1, h2⟩ := h
  rw [e69] at h1 h2
  refine ⟨?_, by rw [e69]; exact h2⟩
  rw [e69]
  refine fun y hy => ⟨(h1 y hy).1, fun z => ⟨((h1 y hy).2 z).1, ?_⟩⟩
  have q := ((h1 y hy).2 z).2
  have qk := ((h1 k hk).2 h0).2
  by_cases zc : y = k
  · subst zc
    have k72 : mD m t y 72 y = m 72 y := by rw [mD_72]; exact if_neg (by omega)
    have k72b : mD m t (y + 1) 72 y = adT (m 72 y) := by rw [mD_72]; exact if_pos ⟨by omega, ht⟩
    have k70 : ∀ a, a < 3 → mD m t y 70 (3 * y + a) = m 70 (3 * y + a) := fun a ha => by rw [mD_70, upV_at ha, if_neg (by omega)]
    have k73 : ∀ a, a < 3 → mD m t y 73 (3 * y + a) = m 73 (3 * y + a) := fun a ha => by rw [mD_73, upV_at ha, if_neg (by omega)]
    have k70b : ∀ a, a < 3 → mD m t (y + 1) 70 (3 * y + a) = chgA (m 70) (3 * y + a) := fun a ha => by rw [mD_70, upV_at ha, if_pos ⟨by omega, ht⟩]
    have k73b : ∀ a, a < 3 → mD m t (y + 1) 73 (3 * y + a) = chgA (m 73) (3 * y + a) := fun a ha => by rw [mD_73, upV_at ha, if_pos ⟨by omega, ht⟩]
    unfold EnAt at *
    rw [e69, e71, k72] at q
    rw [e69, e71, k72b, tnI_q, tnI_q, tnI_q, if_neg (by decide), if_neg (by decide), if_pos rfl, tnI_1, tnI_2]
    have v := q.2.2.2.2.2.2.2.2.1
    have b := q.2.2.2.2.2.2.2.2.2
    refine ⟨q.1, q.2.1, q.2.2.1, q.2.2.2.1, q.2.2.2.2.1, q.2.2.2.2.2.1, q.2.2.2.2.2.2.1, by rw [q.2.2.2.2.2.2.2.1]; exact adC_T, fun a ha => ?_, fun a ha hb => ?_⟩
    · rw [k70b a ha, chgR_at ha, chgA_at ha]
      have v0 := (v 0 (by decide)).trans (k70 0 (by decide))
      have v1 := (v 1 (by decide)).trans (k70 1 (by decide))
      have v2 := (v 2 (by decide)).trans (k70 2 (by decide))
      rw [v0, v1, v2]; rfl
    · rw [adT_b ha] at hb
      rw [k73b a ha, chgR_at ha, chgA_at ha]
      rcases (show a = 0 ∨ a = 1 ∨ a = 2 by omega) with e | e | e <;> subst e
      · rw [if_pos rfl] at hb ⊢
        rw [if_pos rfl, (b 1 (by decide) hb).trans (k73 1 (by decide))]
      · rw [if_neg (by decide), if_pos rfl] at hb ⊢
        rw [if_neg (by decide), if_pos rfl, (b 0 (by decide) hb).trans (k73 0 (by decide))]; rfl
      · rw [if_neg (by decide), if_neg (by decide)] at hb ⊢
        rw [if_neg (by decide), if_neg (by decide), (b 2 (by decide) hb).trans (k73 2 (by decide))]
  · have a1 : eq y ≠ eq k := fun w => zc (h2 y k hy hk z h0 w)
    have a2 : eq y ≠ eq k + 1 := fun w => by have u := qk.2.2.1; rw [← w, q.1] at u; cases u
    have a3 : eq y ≠ eq k + 2 := fun w => by have u := qk.2.2.2.2.1; rw [← w, q.1] at u; cases u
    have a4 : eq k ≠ eq y + 1 := fun w => by have u := q.2.2.1; rw [← w, qk.1] at u; cases u
    have a5 : eq k ≠ eq y + 2 := fun w => by have u := q.2.2.2.2.1; rw [← w, qk.1] at u; cases u
    have ey : (y < k + 1 ∧ m 62 (y / 16) = nI t) ↔ (y < k ∧ m 62 (y / 16) = nI t) := by rw [up_k zc]
    have e72 : mD m t (k + 1) 72 y = mD m t k 72 y := by
      rw [mD_72, mD_72]
      exact ite_cg ey _ _
    have e70 : ∀ a, a < 3 → mD m t (k + 1) 70 (3 * y + a) = mD m t k 70 (3 * y + a) := fun a ha => by rw [mD_70, mD_70, upV_at ha, upV_at ha]; exact ite_cg ey _ _
    have e73 : ∀ a, a < 3 → mD m t (k + 1) 73 (3 * y + a) = mD m t k 73 (3 * y + a) := fun a ha => by rw [mD_73, mD_73, upV_at ha, upV_at ha]; exact ite_cg ey _ _
    unfold EnAt at *
    rw [e72, e69, e71, tnI_o (by omega) (by omega) (by omega), tnI_o (by omega) (by omega) (by omega), tnI_o (by omega) (by omega) (by omega)]
    rw [e69, e71] at q
    exact ⟨q.1, q.2.1, q.2.2.1, q.2.2.2.1, q.2.2.2.2.1, q.2.2.2.2.2.1, q.2.2.2.2.2.2.1, q.2.2.2.2.2.2.2.1, fun a ha => by rw [e70 a ha]; exact q.2.2.2.2.2.2.2.2.1 a ha, fun a ha hb => by rw [e73 a ha]; exact q.2.2.2.2.2.2.2.2.2 a ha hb⟩
/-- the real values that have been turned -/
abbrev upF (F : Nat → Int32) (m : aI) (t k : Nat) : Nat → Int32 := fun j => if j < 3 * k ∧ m 66 (j / 3) = nI t then chgA F j else F j
theorem upF_0 {F : Nat → Int32} {m : aI} {t : Nat} : upF F m t 0 = F := funext fun j => if_neg (by omega)
theorem upF_n {F : Nat → Int32} {m : aI} {t k : Nat} (h : ¬ m 66 k = nI t) : upF F m t (k + 1) = upF F m t k := funext fun j => by
  show (if j < 3 * (k + 1) ∧ m 66 (j / 3) = nI t then chgA F j else F j) = (if j < 3 * k ∧ m 66 (j / 3) = nI t then chgA F j else F j)
  by_cases zc : j / 3 = k
  · rw [zc, if_neg (fun q => h q.2), if_neg (fun q => h q.2)]
  · exact ite_cg ⟨fun w => ⟨by omega, w.2⟩, fun w => ⟨by omega, w.2⟩⟩ _ _
theorem upF_y {F : Nat → Int32} {m : aI} {t k : Nat} (h : m 66 k = nI t) : chgR (upF F m t k) (k * 3) = upF F m t (k + 1) := funext fun j => by
  have o3 : ∀ a, a < 3 → upF F m t k (k * 3 + a) = F (3 * k + a) := fun a ha => by
    rw [show k * 3 + a = 3 * k + a by omega]; exact if_neg (by omega)
  by_cases zc : j / 3 = k
  · obtain ⟨a, ha, ea⟩ : ∃ a, a < 3 ∧ j = 3 * k + a := ⟨j - 3 * k, by omega, by omega⟩
    subst ea
    have e : upF F m t (k + 1) (3 * k + a) = chgA F (3 * k + a) := if_pos ⟨by omega, by rw [zc]; exact h⟩
    rw [e, chgA_at ha]
    show (if 3 * k + a = k * 3 + 2 then 2 * upF F m t k (k * 3 + 2) else if 3 * k + a = k * 3 + 1 then 2 * upF F m t k (k * 3) else if 3 * k + a = k * 3 then 2 * upF F m t k (k * 3 + 1) else upF F m t k (3 * k + a)) = _
    rw [o3 2 (by decide), o3 1 (by decide), show upF F m t k (k * 3) = F (3 * k) from o3 0 (by decide)]
    rcases (show a = 0 ∨ a = 1 ∨ a = 2 by omega) with e | e | e <;> subst e
    · rw [if_neg (by omega), if_neg (by omega), if_pos (by omega), if_pos rfl]
    · rw [if_neg (by omega), if_pos (by omega), if_neg (by decide), if_pos rfl]
    · rw [if_pos (by omega), if_neg (by decide), if_neg (by decide)]
  · show (if j = k * 3 + 2 then _ else if j = k * 3 + 1 then _ else if j = k * 3 then _ else upF F m t k j) = _
    rw [if_neg (by omega), if_neg (by omega), if_neg (by omega)]
    show (if j < 3 * k ∧ m 66 (j / 3) = nI t then chgA F j else F j) = (if j < 3 * (k + 1) ∧ m 66 (j / 3) = nI t then chgA F j else F j)
    exact ite_cg ⟨fun w => ⟨by omega, w.2⟩, fun w => ⟨by omega, w.2⟩⟩ _ _
/-- what an upgrade does -/
abbrev upH (m : aI) (t : Nat) : aI := a_u (a_u (a_u (a_u m 61 t (nI (iN m 61 t + 1))) 58 (3 * t) (m 58 (3 * t + 1))) 58 (3 * t + 1) (m 58 (3 * t))) 44 35 (m 44 35 + 1)
def upB (m : aI) (t g r : Nat) : aI := a_ur (a_ur (a_ur (a_ur (a_ur (upH m t) 65 (S65 m t g)) 70 (SV m 70 t g)) 73 (SV m 73 t g)) 72 (SA m t g)) 67 (SR m t r)
theorem upB_o {m : aI} {t g r q : Nat} (h : q ≠ 44 ∧ q ≠ 58 ∧ q ≠ 61 ∧ q ≠ 65 ∧ q ≠ 67 ∧ q ≠ 70 ∧ q ≠ 72 ∧ q ≠ 73) : upB m t g r q = m q := by unfold upB upH; rw [a_ur_ne h.2.2.2.2.1, a_ur_ne h.2.2.2.2.2.2.1, a_ur_ne h.2.2.2.2.2.2.2, a_ur_ne h.2.2.2.2.2.1, a_ur_ne h.2.2.2.1, a_u_row h.1, a_u_row h.2.1, a_u_row h.2.1, a_u_row h.2.2.1]
theorem upB_4 {m : aI} {t g r k : Nat} (h : k ≠ 35) : upB m t g r 44 k = m 44 k := by unfold upB upH; rw [a_ur_ne (by decide), a_ur_ne (by decide), a_ur_ne (by decide), a_ur_ne (by decide), a_ur_ne (by decide), a_u_ne (fun z => h z.2), a_u_row (by decide), a_u_row (by decide), a_u_row (by decide)]
theorem upB_35 {m : aI} {t g r : Nat} : upB m t g r 44 35 = m 44 35 + 1 := by unfold upB upH; rw [a_ur_ne (by decide), a_ur_ne (by decide), a_ur_ne (by decide), a_ur_ne (by decide), a_ur_ne (by decide), a_u_self]
theorem upB_61 {m : aI} {t g r j : Nat} : upB m t g r 61 j = if j = t then nI (iN m 61 t + 1) else m 61 j := by
  unfold upB upH; rw [a_ur_ne (by decide), a_ur_ne (by decide), a_ur_ne (by decide), a_ur_ne (by decide), a_ur_ne (by decide), a_u_row (by decide), a_u_row (by decide), a_u_row (by decide)]
  by_cases zc : j = t
  · rw [if_pos zc, zc, a_u_self]
  · rw [if_neg zc, a_u_ne (fun z => zc z.2)]
theorem upB_58 {m : aI} {t g r j : Nat} : upB m t g r 58 j = if j = 3 * t + 1 then m 58 (3 * t) else if j = 3 * t then m 58 (3 * t + 1) else m 58 j := by
  unfold upB upH; rw [a_ur_ne (by decide), a_ur_ne (by decide), a_ur_ne (by decide), a_ur_ne (by decide), a_ur_ne (by decide), a_u_row (by decide)]
  by_cases zc : j = 3 * t + 1
  · rw [if_pos zc, zc, a_u_self]
  · rw [if_neg zc, a_u_ne (fun z => zc z.2)]
    by_cases zd : j = 3 * t
    · rw [if_pos zd, zd, a_u_self]
    · rw [if_neg zd, a_u_ne (fun z => zd z.2), a_u_row (by decide)]
theorem upB_65 {m : aI} {t g r : Nat} : upB m t g r 65 = S65 m t g := by unfold upB; rw [a_ur_ne (by decide), a_ur_ne (by decide), a_ur_ne (by decide), a_ur_ne (by decide), a_ur_self]
theorem upB_67 {m : aI} {t g r : Nat} : upB m t g r 67 = SR m t r := by unfold upB; rw [a_ur_self]
theorem sv_up {m : aI} {q t g : Nat} : SV m q t g = upV m q t (16 * g) := funext fun j => by
  show (if j < 48 * g ∧ m 62 (j / 48) = nI t then chgA (m q) j else m q j) = (if j < 3 * (16 * g) ∧ m 62 (j / 48) = nI t then chgA (m q) j else m q j)
  rw [show 3 * (16 * g) = 48 * g by omega]
theorem upB_70 {m : aI} {t g r : Nat} : upB m t g r 70 = upV m 70 t (16 * g) := by unfold upB; rw [a_ur_ne (by decide), a_ur_ne (by decide), a_ur_ne (by decide), a_ur_self, sv_up]
theorem upB_73 {m : aI} {t g r : Nat} : upB m t g r 73 = upV m 73 t (16 * g) := by unfold upB; rw [a_ur_ne (by decide), a_ur_ne (by decide), a_ur_self, sv_up]
theorem upB_72 {m : aI} {t g r : Nat} : upB m t g r 72 = upA m t (16 * g) := by unfold upB; rw [a_ur_ne (by decide), a_ur_self]
abbrev SUp (g : Nat) (gq : Nat → Nat) (t : Nat) (o : Nat) : Prop := o = 19 ∨ o = 23 ∨ o = 27 + 2 * t ∨ o = 28 + 2 * t ∨ ∃ i, i < g ∧ o = gq i + 2
def UG (m : aI) (gq : Nat → Nat) (t k : Nat) (I1 I2 : aI) : Prop := (∀ o, (∀ i, i < k → o ≠ gq i + 2) → I2 o = I1 o) ∧ ∀ i, i < k → ∀ a, a < 3 → I2 (gq i + 2) a = upS m t (3 * i + a)
theorem UG.step {m : aI} {gq : Nat → Nat} {t k : Nat} {I1 I2 I3 : aI} (h : UG m gq t k I1 I2) (hj : ∀ i, i < k → gq i ≠ gq k) (h1 : ∀ o, o ≠ gq k + 2 → I3 o = I2 o) (h2 : ∀ a, a < 3 → I3 (gq k + 2) a = upS m t (3 * k + a)) : UG m gq t (k + 1) I1 I3 := by
  refine ⟨fun o ho => (h1 o (ho k (by omega))).trans (h.1 o (fun i hi => ho i (by omega))), fun i hi a ha => ?_⟩
  by_cases zc : i = k
  · subst zc; exact h2 a ha
  · rw [h1 _ (fun z => hj i (by omega) (by omega))]; exact h.2 i (by omega) a ha
def UE (T : List aT) (R : aR) (m : aI) (eq : Nat → Nat) (t k : Nat) (I1 I2 : aI) : Prop := CEn T I2 R (mD m t k) eq ∧ ∀ o, ¬ enO T o → I2 o = I1 o
theorem UE.n {T : List aT} {R : aR} {m : aI} {eq : Nat → Nat} {t k : Nat} {I1 I2 : aI} (h : UE T R m eq t k I1 I2) (hs : m 69 k = 0 ∨ ¬ m 62 (k / 16) = nI t) : UE T R m eq t (k + 1) I1 I2 := ⟨h.1.up_n hs, h.2⟩
theorem UE.y {T : List aT} {R : aR} {m : aI} {eq : Nat → Nat} {t k : Nat} {I1 I2 : aI} (h : UE T R m eq t k I1 I2) (hk : k < 64) (h0 : m 69 k ≠ 0) (ht : m 62 (k / 16) = nI t) : UE T R m eq t (k + 1) I1 (tnI I2 (eq k)) := ⟨h.1.up_y hk h0 ht, fun o ho => by
  have q := h.1.at hk (by rw [mD_o (by decide) (by decide) (by decide)]; exact h0)
  rw [tnI_o (fun z => ho ⟨eq k, q.1, Or.inl z⟩) (fun z => ho ⟨eq k, q.1, Or.inr (Or.inl ⟨z, q.2.2.1⟩)⟩) (fun z => ho ⟨eq k, q.1, Or.inr (Or.inr ⟨z, ⟨_, q.2.2.1⟩, q.2.2.2.2.1⟩)⟩)]
  exact h.2 o ho⟩
abbrev upI (I m : aI) (t : Nat) : aI := a_u (a_u (a_u I (28 + 2 * t) 0 (m 58 (3 * t + 1))) (28 + 2 * t) 1 (m 58 (3 * t))) (27 + 2 * t) 3 (nI (iN m 61 t + 1))
theorem upI_o {I m : aI} {t q : Nat} (h : q ≠ 27 + 2 * t) (h2 : q ≠ 28 + 2 * t) : upI I m t q = I q := by unfold upI; rw [a_u_row h, a_u_row h2, a_u_row h2]
theorem up_end {T : List aT} {I : aI} {R : aR} {m : aI} {g r : Nat} {gq eq : Nat → Nat} (hC9 : CEst T I R m g gq eq r) (hinv : InvR m g) {t : Nat} (ht3 : t < 3) (hu2 : iN m 61 t < 2) (hT : aPT T) {I5 I6 I7 I8 : aI} (h5 : UG m gq t g (upI I m t) I5) (h6 : I6 = a_ur I5 23 (upF (I 23) m t r)) (h7 : UE T R m eq t (16 * g) I6 I7) (h8 : I8 = a_u I7 19 8 (m 44 35 + 1)) : CEst T I8 R (upB m t g r) g gq eq r ∧ FrI T (SUp g gq t) I I8 := by
  have h95 := hT.len
  have ge := fun i hi => hC9.gn.ge hT (i := i) hi
  have e5 : ∀ o, o < 44 → I5 o = upI I m t o := fun o ho => h5.1 o (fun i hi => by have := ge i hi; omega)
  have e6 : ∀ o, o ≠ 23 → I6 o = I5 o := fun o ho => by rw [h6, a_ur_ne ho]
  have e7 : ∀ o, o < 44 → I7 o = I6 o := fun o ho => h7.2 o (enO_lo hT ho)
  have e8 : ∀ o, o ≠ 19 → I8 o = I7 o := fun o ho => by rw [h8, a_u_row ho]
  have l19 : ∀ j, j ≠ 8 → I8 19 j = I 19 j := fun j hj => by rw [h8, a_u_ne (fun z => hj z.2), e7 19 (by decide), e6 19 (by decide), e5 19 (by decide), upI_o (by omega) (by omega)]
  have lo : ∀ o, o < 44 → o ≠ 19 → o ≠ 23 → o ≠ 27 + 2 * t → o ≠ 28 + 2 * t → I8 o = I o := fun o z1 z2 z3 z4 z5 => by rw [e8 o z2, e7 o z1, e6 o z3, e5 o z1, upI_o z4 z5]
  have nE := hC9.gn
  refine ⟨⟨⟨by rw [l19 2 (by decide)]; exact hC9.gn.1, fun i hi => ⟨hC9.gn.rf hi, ?_⟩, hC9.gn.2.2⟩, fun t2 ht2 => ?_, ?_, ?_, by rw [h8, a_u_self, upB_35], fun x hx => by rw [lo 26 (by decide) (by decide) (by decide) (by omega) (by omega), upB_o (by decide)]; exact hC9.md hx⟩, fun o z1 z2 z3 => ?_⟩
  · have q := hC9.gn.at hi
    have g95 := ge i hi
    have hi1 : ∀ o, (o = gq i ∨ o = gq i + 1) → I8 o = I o := fun o z => by
      rw [e8 o (by omega), h7.2 o (fun w => by
        obtain ⟨q9, w1, w2⟩ := w
        rcases z with z | z <;> rcases w2 with w2 | w2 | w2
        · rw [← w2, z, q.1] at w1; cases w1
        · have w3 := w2.2; rw [← w2.1, z, q.1] at w3; cases w3
        · have w3 := w2.2.2; rw [← w2.1, z, q.1] at w3; cases w3
        · rw [← w2, z, q.2.2.1] at w1; cases w1
        · have w3 : q9 = gq i := by omega
          rw [w3, q.1] at w1; cases w1
        · obtain ⟨_, ⟨t9, w3⟩, _⟩ := w2
          have w4 : q9 + 1 = gq i := by omega
          rw [w4, q.1] at w3; cases w3), e6 o (by omega), h5.1 o (fun j hj w => by
        have qj := hC9.gn.at hj
        rcases z with z | z
        · have u := qj.2.2.2.2.1; rw [← w, z, q.1] at u; cases u
        · have w3 : gq j + 1 = gq i := by omega
          have u := qj.2.2.1; rw [w3, q.1] at u; cases u), upI_o (by omega) (by omega)]
    have hi2 : ∀ a, a < 3 → I8 (gq i + 2) a = upS m t (3 * i + a) := fun a ha => by
      rw [e8 _ (by omega), h7.2 _ (fun w => by
        obtain ⟨q9, w1, w2⟩ := w
        rcases w2 with w2 | w2 | w2
        · rw [← w2, q.2.2.2.2.1] at w1; cases w1
        · have w3 : q9 = gq i + 1 := by omega
          rw [w3, q.2.2.1] at w1; cases w1
        · have w3 : q9 = gq i := by omega
          rw [w3, q.1] at w1; cases w1), e6 _ (by omega)]
      exact h5.2 i hi a ha
    unfold GnAt at *
    rw [hi1 _ (Or.inl rfl), hi1 _ (Or.inr rfl), upB_o (by decide), upB_o (by decide), upB_o (by decide), upB_65]
    exact ⟨q.1, q.2.1, q.2.2.1, q.2.2.2.1, q.2.2.2.2.1, q.2.2.2.2.2.1, q.2.2.2.2.2.2.1, q.2.2.2.2.2.2.2.1, fun a ha => (hi2 a ha).trans (if_pos (by omega)).symm⟩
  · have q := hC9.ty t2 ht2
    have r27 : ∀ j, I8 (27 + 2 * t2) j = upI I m t (27 + 2 * t2) j := fun j => by rw [e8 _ (by omega), e7 _ (by omega), e6 _ (by omega), e5 _ (by omega)]
    have r28 : ∀ j, I8 (28 + 2 * t2) j = upI I m t (28 + 2 * t2) j := fun j => by rw [e8 _ (by omega), e7 _ (by omega), e6 _ (by omega), e5 _ (by omega)]
    rw [upB_o (q := 59) (by decide), upB_o (q := 60) (by decide), upB_61, r27, r27, r27]
    by_cases zc : t2 = t
    · subst zc
      have c27 : ∀ j, j ≠ 3 → upI I m t2 (27 + 2 * t2) j = I (27 + 2 * t2) j := fun j z => by unfold upI; rw [a_u_ne (fun w => z w.2), a_u_row (by omega), a_u_row (by omega)]
      refine ⟨fun a ha => ?_, by rw [c27 1 (by decide)]; exact q.2.1, by rw [c27 2 (by decide)]; exact q.2.2.1, by rw [if_pos rfl]; exact a_u_self⟩
      rw [r28, upB_58]
      unfold upI
      rw [a_u_row (by omega)]
      rcases (show a = 0 ∨ a = 1 ∨ a = 2 by omega) with e | e | e <;> subst e
      · rw [if_neg (by omega), if_pos (by omega), a_u_ne (fun w => absurd w.2 (by decide)), a_u_self]
      · rw [if_pos rfl, a_u_self]
      · rw [if_neg (by omega), if_neg (by omega), a_u_ne (fun w => absurd w.2 (by decide)), a_u_ne (fun w => absurd w.2 (by decide))]; exact q.1 2 (by decide)
    · rw [if_neg zc, upI_o (by omega) (by omega)]
      refine ⟨fun a ha => ?_, q.2⟩
      rw [r28, upI_o (by omega) (by omega), upB_58, if_neg (by omega), if_neg (by omega)]; exact q.1 a ha
  · have q := hC9.rs
    obtain ⟨q1, q2, q3, q4, q5⟩ := q
    refine ⟨by rw [l19 6 (by decide)]; exact q1, (upB_4 (by decide)).trans q2, q3, fun j hj => ?_, by rw [upB_o (by decide)]; exact q5⟩
    rw [lo 22 (by decide) (by decide) (by decide) (by omega) (by omega), lo 24 (by decide) (by decide) (by decide) (by omega) (by omega), upB_o (by decide), upB_o (by decide), upB_67]
    refine ⟨(q4 j hj).1, (q4 j hj).2.1, fun hg a ha => ?_⟩
    have v := (q4 j hj).2.2 hg
    rw [e8 23 (by decide), e7 23 (by decide), h6, a_ur_self]
    show (if 3 * j + a < 3 * r ∧ m 66 ((3 * j + a) / 3) = nI t then chgA (I 23) (3 * j + a) else I 23 (3 * j + a)) = (if 3 * j + a < 3 * r ∧ m 66 ((3 * j + a) / 3) = nI t then chgA (m 67) (3 * j + a) else m 67 (3 * j + a))
    rw [chgA_at ha, chgA_at ha, v a ha, v 1 (by decide), v 2 (by decide), show I 23 (3 * j) = m 67 (3 * j) from v 0 (by decide)]
  · exact (h7.1.fr hT (fun o ho => e8 o (by omega))).cgm ((upB_o (by decide)).trans (mD_o (by decide) (by decide) (by decide)).symm) (by rw [upB_70, mD_70]) ((upB_o (by decide)).trans (mD_o (by decide) (by decide) (by decide)).symm) (by rw [upB_72, mD_72]) (by rw [upB_73, mD_73])
  · rw [e8 o (fun z => z3 (Or.inl z)), h7.2 o z2, e6 o (fun z => z3 (Or.inr (Or.inl z))), h5.1 o (fun i hi z => z3 (Or.inr (Or.inr (Or.inr (Or.inr ⟨i, hi, z⟩))))), upI_o (fun z => z3 (Or.inr (Or.inr (Or.inl z)))) (fun z => z3 (Or.inr (Or.inr (Or.inr (Or.inl z)))))]
set_option maxRecDepth 100000 in
theorem m_X4_typeN {T : List aT} {I : aI} {J : aJ} {R : aR} (hT : aPT T) (hR : aPR R) {m : aI} {g : Nat} {gq : Nat → Nat} (hGY : GTy T I R m g gq) (hg4 : g ≤ 4) {x : Nat} (hx : x < 16 * g) : MX4_typeNumberOf 0 0 [.ref 19, .int (nI x)] T I J R (aPure (some (.int (m 62 (x / 16)))) T I J R) := by
  refine a_met (by decide +kernel) a_le (fun X hC hq => ?_)
  show AW X 0 0 0 [some (.ref 19), some (.int (nI x))] [] T I J R
  refine aw_aload_n hC dX4_typeNumberOf_0 rfl ?_
  refine aw_getR hC dX4_typeNumberOf_1 aF_X4_19 rfl (tg_19 hT) (pr_19_1 hR) ?_
  refine aw_iload_n hC dX4_typeNumberOf_4 rfl ?_
  refine aw_bipush (v := 16) hC dX4_typeNumberOf_5 (by decide) ?_
  refine aw_idiv hC dX4_typeNumberOf_7 (by decide) ?_
  rw [show (nI x) / 16 = nI (x / 16) from pk_div (a := x) (d := 16) (by omega) (by decide) (by decide)]
  refine aw_aaloadR_k (j := (x / 16)) hC dX4_typeNumberOf_8 (tg_21 hT) (nI_clamp (by omega)) (vp_in_nI (by omega) (by decide)) (hGY _ (by omega)).1 ?_
  refine aw_getI hC dX4_typeNumberOf_9 aF_X4_56 rfl (hGY _ (by omega)).2.1 ?_
  rw [(hGY _ (by omega)).2.2.1]
  exact aw_ireturn hC hq rfl dX4_typeNumberOf_12 a_le a_le (aPure_i rfl)
theorem enO_ge {T : List aT} {o : Nat} (hT : aPT T) (h : enO T o) : 44 ≤ o := Nat.le_of_not_lt (fun z => enO_lo hT z h)
theorem enO_ar2 {T : List aT} {q : Nat} {t1 t2 : FieldType × Nat} (h0 : T[q]? = some (.inr 5)) (h1 : T[q + 1]? = some (.inl t1)) (h2 : T[q + 2]? = some (.inl t2)) : ¬ enO T (q + 2) := fun w => by
  obtain ⟨q9, w1, w2⟩ := w
  rcases w2 with w2 | w2 | w2
  · rw [← w2, h2] at w1; cases w1
  · have w3 : q9 = q + 1 := by omega
    rw [w3, h1] at w1; cases w1
  · have w3 : q9 = q := by omega
    rw [w3, h0] at w1; cases w1
theorem CEn.frx {T : List aT} {I I2 : aI} {R : aR} {m : aI} {eq : Nat → Nat} (h : CEn T I R m eq) (hT : aPT T) (hI : ∀ o, enO T o → I2 o = I o) : CEn T I2 R m eq := ⟨fun x hx => ⟨(h.1 x hx).1, fun z => ⟨((h.1 x hx).2 z).1, by
  have q := ((h.1 x hx).2 z).2
  unfold EnAt at *
  rw [hI _ ⟨_, q.1, Or.inl rfl⟩, hI _ ⟨_, q.1, Or.inr (Or.inl ⟨rfl, q.2.2.1⟩)⟩, hI _ ⟨_, q.1, Or.inr (Or.inr ⟨rfl, ⟨_, q.2.2.1⟩, q.2.2.2.2.1⟩)⟩]
  exact q⟩⟩, h.2⟩
set_option maxRecDepth 100000 in
theorem m_X4_upgradeType {T : List aT} {I : aI} {J : aJ} {R : aR} (hT : aPT T) (hR : aPR R) {m : aI} {g r : Nat} {gq eq : Nat → Nat} (hC9 : CEst T I R m g gq eq r) (hinv : InvR m g) {t : Nat} (ht3 : t < 3) (hu2 : iN m 61 t < 2) : MX4_upgradeType 0 0 [.ref 19, .int (nI t)] T I J R (aRelV (fun v I2 J2 => v = none ∧ J2 = J ∧ CEst T I2 R (upB m t g r) g gq eq r ∧ FrI T (SUp g gq t) I I2) T R) := by
  refine a_met (by decide +kernel) a_le (fun X hC hq => ?_)
  show AW X 0 0 0 [some (.ref 19), some (.int (nI t)), none, none, none] [] T I J R
  have hg := hinv.1
  have hg4 := hg.g4
  have hG := hC9.gn
  have hY := hC9.ty
  have hRs := hC9.rs
  have hr60 := hRs.r60
  have hup := hg.up t ht3
  have hGY := hG.gty
  have hgn := hG.1
  refine aw_aload_n hC dX4_upgradeType_0 rfl ?_
  refine aw_getR hC dX4_upgradeType_1 aF_X4_11 rfl (tg_19 hT) (pr_19_0 hR) ?_
  refine aw_iload_n hC dX4_upgradeType_4 rfl ?_
  refine aw_aaloadR_k (j := t) hC dX4_upgradeType_5 (tg_20 hT) (nI_clamp (by omega)) (vp_in_nI (by omega) (by decide)) (ty_rf hR ht3) ?_
  refine aw_astore_n (L2 := [some (.ref 19), some (.int (nI t)), some (.ref (27 + 2 * t)), none, none]) hC dX4_upgradeType_6 rfl (by decide) rfl ?_
  refine aw_aload_n hC dX4_upgradeType_7 rfl ?_
  refine aw_getR hC dX4_upgradeType_8 aF_X4_96 rfl (ty_tg hT ht3) (ty_rr hR ht3) ?_
  refine aw_iconst (v := 0) hC dX4_upgradeType_11 (by decide) ?_
  refine aw_iaload_k (j := 0) hC dX4_upgradeType_12 (ty_ta hT ht3) (by decide) (by unfold vp_in; decide) ?_
  rw [(hY.tr (a := 0) ht3 (by decide))]
  refine aw_istore_n (L2 := [some (.ref 19), some (.int (nI t)), some (.ref (27 + 2 * t)), some (.int (m 58 (3 * t))), none]) hC dX4_upgradeType_13 rfl (by decide) rfl ?_
  refine aw_aload_n hC dX4_upgradeType_14 rfl ?_
  refine aw_getR hC dX4_upgradeType_15 aF_X4_96 rfl (ty_tg hT ht3) (ty_rr hR ht3) ?_
  refine aw_iconst (v := 0) hC dX4_upgradeType_18 (by decide) ?_
  refine aw_aload_n hC dX4_upgradeType_19 rfl ?_
  refine aw_getR hC dX4_upgradeType_20 aF_X4_96 rfl (ty_tg hT ht3) (ty_rr hR ht3) ?_
  refine aw_iconst (v := 1) hC dX4_upgradeType_23 (by decide) ?_
  refine aw_iaload_k (j := 1) hC dX4_upgradeType_24 (ty_ta hT ht3) (by decide) (by unfold vp_in; decide) ?_
  rw [(hY.tr (a := 1) ht3 (by decide))]
  refine aw_iastore_k (j := 0) hC dX4_upgradeType_25 (ty_ta hT ht3) (by decide) (by unfold vp_in; decide) ?_
  refine aw_aload_n hC dX4_upgradeType_26 rfl ?_
  refine aw_getR hC dX4_upgradeType_27 aF_X4_96 rfl (ty_tg hT ht3) (ty_rr hR ht3) ?_
  refine aw_iconst (v := 1) hC dX4_upgradeType_30 (by decide) ?_
  refine aw_iload_n hC dX4_upgradeType_31 rfl ?_
  refine aw_iastore_k (j := 1) hC dX4_upgradeType_32 (ty_ta hT ht3) (by decide) (by unfold vp_in; decide) ?_
  refine aw_aload_n hC dX4_upgradeType_33 rfl ?_
  refine aw_dup hC dX4_upgradeType_34 rfl ?_
  refine aw_getI hC dX4_upgradeType_35 aF_X4_93 rfl (ty_tg hT ht3) ?_
  rw [a_u_ne (f := a_u I (28 + 2 * t) 0 (m 58 (3 * t + 1))) (o := (28 + 2 * t)) (k := 1) (a := (27 + 2 * t)) (b := 3) (v := m 58 (3 * t)) (fun q => absurd q.2 (by decide))]
  rw [a_u_ne (f := I) (o := (28 + 2 * t)) (k := 0) (a := (27 + 2 * t)) (b := 3) (v := m 58 (3 * t + 1)) (fun q => absurd q.2 (by decide))]
  rw [((hY.up ht3).trans hup.1)]
  refine aw_iconst (v := 1) hC dX4_upgradeType_38 (by decide) ?_
  refine aw_iadd hC dX4_upgradeType_39 ?_
  rw [show (nI (iN m 61 t)) + 1 = nI ((iN m 61 t) + 1) from nI_add (iN m 61 t) 1]
  refine aw_putI hC dX4_upgradeType_40 aF_X4_93 rfl rfl (ty_tg hT ht3) ?_
  refine aw_iconst (v := 0) hC dX4_upgradeType_43 (by decide) ?_
  refine aw_istore (L2 := [some (.ref 19), some (.int (nI t)), some (.ref (27 + 2 * t)), some (.int (m 58 (3 * t))), some (.int 0)]) hC dX4_upgradeType_44 (by decide) rfl ?_
  obtain ⟨I1, hI1⟩ : ∃ I1, I1 = upI I m t := ⟨_, rfl⟩
  rw [show a_u (a_u (a_u I (28 + 2 * t) 0 (m 58 (3 * t + 1))) (28 + 2 * t) 1 (m 58 (3 * t))) (27 + 2 * t) 3 (nI ((iN m 61 t) + 1)) = I1 from by rw [hI1]]
  have hso : ∀ i, i < g → ∀ a, a < 3 → (m 65 (3 * i + a) = -1 ∨ (m 65 (3 * i + a) = nI (m 65 (3 * i + a)).toNatClampNeg ∧ (m 65 (3 * i + a)).toNatClampNeg < 22 ∧ (10 ≤ (m 65 (3 * i + a)).toNatClampNeg → ((m 65 (3 * i + a)).toNatClampNeg - 10) / 3 < g))) := fun i hi a ha => (hg.2.2.1 (3 * i + a) (by omega)).imp id (fun q => ⟨q.1, q.2.1, fun z => by have z1 := q.2.2 z; unfold iN at z1; omega⟩)
  have h1o : ∀ o, 44 ≤ o → I1 o = I o := fun o ho => by rw [hI1]; exact upI_o (by omega) (by omega)
  have hne : ∀ o k I7, UG m gq t k I1 I7 → k ≤ g → T[o]? = some (.inr 5) → I7 o = I o := fun o k I7 h hk ho => by rw [h.1 o (fun i hi z => by have u := (hG.at (show i < g by omega)).2.2.2.2.1; rw [← z, ho] at u; cases u)]; exact h1o o (a_ge hT ho a_tags_5)
  have h7o : ∀ o k I7, UG m gq t k I1 I7 → k ≤ g → o < 44 → I7 o = I1 o := fun o k I7 h hk ho => h.1 o (fun i hi z => by have := hG.ge hT (show i < g by omega); omega)
  have loop : ∀ k, k ≤ g → ∀ I7, UG m gq t k I1 I7 → AW X 0 0 46 [some (.ref 19), some (.int (nI t)), some (.ref (27 + 2 * t)), some (.int (m 58 (3 * t))), some (.int (nI k))] [] T I7 J R := by
    refine a_down g (fun k hk_k ih_k => ?_)
    intro I7 hI7
    have hGY7 : UG m gq t k I1 I7 → GTy T I7 R m g gq := fun h => hGY.fr (fun o ho => hne o k I7 h hk_k ho)
    have hr7 : UG m gq t k I1 I7 → k < g → ∀ a, a < 3 → I7 (gq k + 2) a = m 65 (3 * k + a) := fun h hk a ha => by rw [h.1 _ (fun i hi z => by have := hG.2.2 i k (by omega) hk (by omega); omega), h1o _ (by have := hG.ge hT hk; omega)]; exact (hG.at hk).2.2.2.2.2.2.2.2 a ha
    have i192 : I7 19 2 = nI g := by rw [h7o 19 k I7 hI7 hk_k (by decide), hI1, upI_o (by omega) (by omega)]; exact hgn
    refine aw_iload hC dX4_upgradeType_46 rfl ?_
    refine aw_aload_n hC dX4_upgradeType_48 rfl ?_
    refine aw_getI hC dX4_upgradeType_49 aF_X4_44 rfl (tg_19 hT) ?_
    rw [i192]
    refine aw_icmp_ge (tgt := 73) hC dX4_upgradeType_52 (by decide) (fun h1 => ?_) (fun h1 => ?_)
    · show AW X 0 0 73 [some (.ref 19), some (.int (nI t)), some (.ref (27 + 2 * t)), some (.int (m 58 (3 * t))), some (.int (nI k))] [] T I7 J R
      have h1n : g ≤ k := (nI_leI (a := g) (b := k) (by omega) (by omega)).mp h1
      refine aw_iconst (v := 0) hC dX4_upgradeType_73 (by decide) ?_
      refine aw_istore (L2 := [some (.ref 19), some (.int (nI t)), some (.ref (27 + 2 * t)), some (.int (m 58 (3 * t))), some (.int 0)]) hC dX4_upgradeType_74 (by decide) rfl ?_
      have ekg : k = g := by omega
      subst ekg
      have i23 : I7 23 = I 23 := by rw [h7o 23 k I7 hI7 hk_k (by decide), hI1, upI_o (by omega) (by omega)]
      have i22 : I7 22 = I 22 := by rw [h7o 22 k I7 hI7 hk_k (by decide), hI1, upI_o (by omega) (by omega)]
      have i196 : I7 19 6 = nI r := by rw [h7o 19 k I7 hI7 hk_k (by decide), hI1, upI_o (by omega) (by omega)]; exact hRs.1
      refine aw_setI (I2 := a_ur I7 23 (upF (I 23) m t 0)) (by rw [upF_0]; exact (a_ur_id (fun j => by rw [i23])).symm) ?_
      have loop2 : ∀ j, j ≤ r → AW X 0 0 76 [some (.ref 19), some (.int (nI t)), some (.ref (27 + 2 * t)), some (.int (m 58 (3 * t))), some (.int (nI j))] [] T (a_ur I7 23 (upF (I 23) m t j)) J R := by
        refine a_down r (fun j hj_j ih_j => ?_)
        refine aw_iload hC dX4_upgradeType_76 rfl ?_
        refine aw_aload_n hC dX4_upgradeType_78 rfl ?_
        refine aw_getI hC dX4_upgradeType_79 aF_X4_77 rfl (tg_19 hT) ?_
        rw [a_ur_ne (f := I7) (o := 23) (a := 19) (g := upF (I 23) m t j) (by decide)]
        rw [i196]
        refine aw_icmp_ge (tgt := 113) hC dX4_upgradeType_82 (by decide) (fun h2 => ?_) (fun h2 => ?_)
        · show AW X 0 0 113 [some (.ref 19), some (.int (nI t)), some (.ref (27 + 2 * t)), some (.int (m 58 (3 * t))), some (.int (nI j))] [] T (a_ur I7 23 (upF (I 23) m t j)) J R
          have h2n : r ≤ j := (nI_leI (a := r) (b := j) (by omega) (by omega)).mp h2
          refine aw_iconst (v := 0) hC dX4_upgradeType_113 (by decide) ?_
          refine aw_istore (L2 := [some (.ref 19), some (.int (nI t)), some (.ref (27 + 2 * t)), some (.int (m 58 (3 * t))), some (.int 0)]) hC dX4_upgradeType_114 (by decide) rfl ?_
          have ejr : j = r := by omega
          subst ejr
          obtain ⟨I6, hI6⟩ : ∃ I6, I6 = a_ur I7 23 (upF (I 23) m t j) := ⟨_, rfl⟩
          rw [← hI6]
          have h6E : UE T R m eq t 0 I6 I6 := ⟨(CEn.frx hC9.en hT (I2 := I6) (fun o ho => by rw [hI6, a_ur_ne (by have := enO_ge hT ho; omega), hI7.1 o (fun i hi z => by have qq := hG.at hi; exact enO_ar2 qq.1 qq.2.2.1 qq.2.2.2.2.1 (by rw [← z]; exact ho)), h1o o (enO_ge hT ho)])).up_0, fun _ _ => rfl⟩
          have loop3 : ∀ y, y ≤ 16 * k → ∀ I9, UE T R m eq t y I6 I9 → AW X 0 0 116 [some (.ref 19), some (.int (nI t)), some (.ref (27 + 2 * t)), some (.int (m 58 (3 * t))), some (.int (nI y))] [] T I9 J R := by
            refine a_down (16 * k) (fun y hy_y ih_y => ?_)
            intro I9 hI9
            have lo9 : ∀ o, o < 44 → o ≠ 23 → I9 o = I1 o := fun o z1 z2 => by rw [hI9.2 o (enO_lo hT z1), hI6, a_ur_ne z2, h7o o k I7 hI7 hk_k z1]
            have l19 : ∀ q, I9 19 q = I 19 q := fun q => by rw [lo9 19 (by decide) (by decide), hI1, upI_o (by omega) (by omega)]
            have hgn9 : I9 19 2 = nI k := (l19 2).trans hgn
            have hGY9 : GTy T I9 R m k gq := hGY.fr (fun o ho => by rw [hI9.2 o (enO_ob ho (by decide)), hI6, a_ur_ne (by have := a_ge hT ho a_tags_5; omega)]; exact hne o k I7 hI7 hk_k ho)
            refine aw_iload hC dX4_upgradeType_116 rfl ?_
            refine aw_aload_n hC dX4_upgradeType_118 rfl ?_
            refine kX4_48 hC rfl (m_X4_names (I := I9) hT hR (g := k) hgn9) dX4_upgradeType_119 (tg_19 hT) rfl a_le a_le a_le a_le a_le rfl aPure_x (aPure_k ?_)
            show AW X 0 0 122 [some (.ref 19), some (.int (nI t)), some (.ref (27 + 2 * t)), some (.int (m 58 (3 * t))), some (.int (nI y))] [.int (nI (16 * k)), .int (nI y)] T I9 J R
            refine aw_icmp_ge (tgt := 161) hC dX4_upgradeType_122 (by decide) (fun h3 => ?_) (fun h3 => ?_)
            · show AW X 0 0 161 [some (.ref 19), some (.int (nI t)), some (.ref (27 + 2 * t)), some (.int (m 58 (3 * t))), some (.int (nI y))] [] T I9 J R
              have h3n : (16 * k) ≤ y := (nI_leI (a := (16 * k)) (b := y) (by omega) (by omega)).mp h3
              refine aw_aload_n hC dX4_upgradeType_161 rfl ?_
              refine aw_dup hC dX4_upgradeType_162 rfl ?_
              refine aw_getI hC dX4_upgradeType_163 aF_X4_113 rfl (tg_19 hT) ?_
              rw [((l19 8).trans hC9.sr)]
              refine aw_iconst (v := 1) hC dX4_upgradeType_166 (by decide) ?_
              refine aw_iadd hC dX4_upgradeType_167 ?_
              refine aw_putI hC dX4_upgradeType_168 aF_X4_113 rfl rfl (tg_19 hT) ?_
              exact aw_return hC hq rfl dX4_upgradeType_171 a_le a_le ⟨none, rfl, rfl, rfl, rfl, rfl, up_end hC9 hinv ht3 hu2 hT (by rw [← hI1]; exact hI7) hI6 (by have eyk : y = 16 * k := (by omega); rw [← eyk]; exact hI9) rfl⟩
            · show AW X 0 0 125 [some (.ref 19), some (.int (nI t)), some (.ref (27 + 2 * t)), some (.int (m 58 (3 * t))), some (.int (nI y))] [] T I9 J R
              have h3n : ¬ (16 * k) ≤ y := fun q9 => h3 ((nI_leI (a := (16 * k)) (b := y) (by omega) (by omega)).mpr q9)
              by_cases c69 : m 69 y = 0
              · have hy64 : y < 64 := by omega
                show AW X 0 0 125 [some (.ref 19), some (.int (nI t)), some (.ref (27 + 2 * t)), some (.int (m 58 (3 * t))), some (.int (nI y))] [] T I9 J R
                refine aw_aload_n hC dX4_upgradeType_125 rfl ?_
                refine aw_getR hC dX4_upgradeType_126 aF_X4_36 rfl (tg_19 hT) (pr_19_7 hR) ?_
                refine aw_iload hC dX4_upgradeType_129 rfl ?_
                refine aw_aaloadN_k (j := y) hC dX4_upgradeType_131 (tg_25 hT) (nI_clamp (by omega)) (vp_in_nI (by omega) (by decide)) (hC9.en.no hy64 c69) ?_
                refine aw_ifnullN (tgt := 155) hC dX4_upgradeType_132 (by decide) ?_
                refine aw_iinc (v := nI (y + 1)) (L2 := [some (.ref 19), some (.int (nI t)), some (.ref (27 + 2 * t)), some (.int (m 58 (3 * t))), some (.int (nI (y + 1)))]) hC dX4_upgradeType_155 rfl (nI_inc _) (by decide) rfl ?_
                refine aw_goto (tgt := 116) hC dX4_upgradeType_158 (by decide) ?_
                first | exact ih_y (by omega) I9 (hI9.n (Or.inl (by assumption))) | exact ih_y (by omega) I9 (hI9.n (Or.inr (by assumption))) | exact ih_y (by omega) _ (hI9.y (by omega) (by assumption) (by assumption))
              · have hy64 : y < 64 := by omega
                have qy := hC9.en.at hy64 c69
                show AW X 0 0 125 [some (.ref 19), some (.int (nI t)), some (.ref (27 + 2 * t)), some (.int (m 58 (3 * t))), some (.int (nI y))] [] T I9 J R
                refine aw_aload_n hC dX4_upgradeType_125 rfl ?_
                refine aw_getR hC dX4_upgradeType_126 aF_X4_36 rfl (tg_19 hT) (pr_19_7 hR) ?_
                refine aw_iload hC dX4_upgradeType_129 rfl ?_
                refine aw_aaloadR_k (j := y) hC dX4_upgradeType_131 (tg_25 hT) (nI_clamp (by omega)) (vp_in_nI (by omega) (by decide)) (hC9.en.rf hy64 c69) ?_
                refine aw_ifnull hC dX4_upgradeType_132 ?_
                refine aw_aload_n hC dX4_upgradeType_135 rfl ?_
                refine aw_iload hC dX4_upgradeType_136 rfl ?_
                refine kX4_107 hC rfl (m_X4_typeN (I := I9) hT hR hGY9 hg4 (x := y) (by omega)) dX4_upgradeType_138 (tg_19 hT) rfl a_le a_le a_le a_le a_le rfl aPure_x (aPure_k ?_)
                show AW X 0 0 141 [some (.ref 19), some (.int (nI t)), some (.ref (27 + 2 * t)), some (.int (m 58 (3 * t))), some (.int (nI y))] [.int (m 62 (y / 16))] T I9 J R
                refine aw_iload_n hC dX4_upgradeType_141 rfl ?_
                refine aw_icmp_ne (tgt := 155) hC dX4_upgradeType_142 (by decide) (fun h4 => ?_) (fun h4 => ?_)
                · show AW X 0 0 155 [some (.ref 19), some (.int (nI t)), some (.ref (27 + 2 * t)), some (.int (m 58 (3 * t))), some (.int (nI y))] [] T I9 J R
                  refine aw_iinc (v := nI (y + 1)) (L2 := [some (.ref 19), some (.int (nI t)), some (.ref (27 + 2 * t)), some (.int (m 58 (3 * t))), some (.int (nI (y + 1)))]) hC dX4_upgradeType_155 rfl (nI_inc _) (by decide) rfl ?_
                  refine aw_goto (tgt := 116) hC dX4_upgradeType_158 (by decide) ?_
                  first | exact ih_y (by omega) I9 (hI9.n (Or.inl (by assumption))) | exact ih_y (by omega) I9 (hI9.n (Or.inr (by assumption))) | exact ih_y (by omega) _ (hI9.y (by omega) (by assumption) (by assumption))
                · show AW X 0 0 145 [some (.ref 19), some (.int (nI t)), some (.ref (27 + 2 * t)), some (.int (m 58 (3 * t))), some (.int (nI y))] [] T I9 J R
                  refine aw_aload_n hC dX4_upgradeType_145 rfl ?_
                  refine aw_getR hC dX4_upgradeType_146 aF_X4_36 rfl (tg_19 hT) (pr_19_7 hR) ?_
                  refine aw_iload hC dX4_upgradeType_149 rfl ?_
                  refine aw_aaloadR_k (j := y) hC dX4_upgradeType_151 (tg_25 hT) (nI_clamp (by omega)) (vp_in_nI (by omega) (by decide)) (hC9.en.rf hy64 c69) ?_
                  refine kX4_110 hC rfl (m_X3_turn (I := I9) (q := eq y) qy.1 qy.2.1 qy.2.2.1 qy.2.2.2.1 qy.2.2.2.2.1) dX4_upgradeType_152 qy.1 rfl a_le a_le a_le a_le a_le rfl aPure_x (aPure_k ?_)
                  show AW X 0 0 155 [some (.ref 19), some (.int (nI t)), some (.ref (27 + 2 * t)), some (.int (m 58 (3 * t))), some (.int (nI y))] [] T (tnI I9 (eq y)) J R
                  refine aw_iinc (v := nI (y + 1)) (L2 := [some (.ref 19), some (.int (nI t)), some (.ref (27 + 2 * t)), some (.int (m 58 (3 * t))), some (.int (nI (y + 1)))]) hC dX4_upgradeType_155 rfl (nI_inc _) (by decide) rfl ?_
                  refine aw_goto (tgt := 116) hC dX4_upgradeType_158 (by decide) ?_
                  first | exact ih_y (by omega) I9 (hI9.n (Or.inl (by assumption))) | exact ih_y (by omega) I9 (hI9.n (Or.inr (by assumption))) | exact ih_y (by omega) _ (hI9.y (by omega) (by assumption) (by assumption))
          exact loop3 0 (Nat.zero_le _) I6 h6E
        · show AW X 0 0 85 [some (.ref 19), some (.int (nI t)), some (.ref (27 + 2 * t)), some (.int (m 58 (3 * t))), some (.int (nI j))] [] T (a_ur I7 23 (upF (I 23) m t j)) J R
          have h2n : ¬ r ≤ j := fun q9 => h2 ((nI_leI (a := r) (b := j) (by omega) (by omega)).mpr q9)
          refine aw_aload_n hC dX4_upgradeType_85 rfl ?_
          refine aw_getR hC dX4_upgradeType_86 aF_X4_23 rfl (tg_19 hT) (pr_19_3 hR) ?_
          refine aw_iload hC dX4_upgradeType_89 rfl ?_
          refine aw_iaload_k (j := j) hC dX4_upgradeType_91 (tg_22 hT) (nI_clamp (by omega)) (vp_in_nI (by omega) (by decide)) ?_
          rw [a_ur_ne (f := I7) (o := 23) (a := 22) (g := upF (I 23) m t j) (by decide)]
          rw [((congrFun i22 j).trans (hRs.2.2.2.1 j (by omega)).1)]
          refine aw_iload_n hC dX4_upgradeType_92 rfl ?_
          refine aw_icmp_ne (tgt := 107) hC dX4_upgradeType_93 (by decide) (fun h5 => ?_) (fun h5 => ?_)
          · show AW X 0 0 107 [some (.ref 19), some (.int (nI t)), some (.ref (27 + 2 * t)), some (.int (m 58 (3 * t))), some (.int (nI j))] [] T (a_ur I7 23 (upF (I 23) m t j)) J R
            refine aw_iinc (v := nI (j + 1)) (L2 := [some (.ref 19), some (.int (nI t)), some (.ref (27 + 2 * t)), some (.int (m 58 (3 * t))), some (.int (nI (j + 1)))]) hC dX4_upgradeType_107 rfl (nI_inc _) (by decide) rfl ?_
            refine aw_goto (tgt := 76) hC dX4_upgradeType_110 (by decide) ?_
            first | exact ih_j (by omega) | (rw [show a_ur I7 23 (upF (I 23) m t j) = a_ur I7 23 (upF (I 23) m t (j + 1)) from by rw [upF_n (by assumption)]]; exact ih_j (by omega)) | (rw [show a_ur I7 23 (upF (I 23) m t j) = a_ur I7 23 (upF (I 23) m t (j + 1)) from by rw [← upF_y (by assumption)]; exact a_ur_2]; exact ih_j (by omega))
          · show AW X 0 0 96 [some (.ref 19), some (.int (nI t)), some (.ref (27 + 2 * t)), some (.int (m 58 (3 * t))), some (.int (nI j))] [] T (a_ur I7 23 (upF (I 23) m t j)) J R
            refine aw_aload_n hC dX4_upgradeType_96 rfl ?_
            refine aw_getR hC dX4_upgradeType_97 aF_X4_27 rfl (tg_19 hT) (pr_19_4 hR) ?_
            refine aw_iload hC dX4_upgradeType_100 rfl ?_
            refine aw_iconst (v := 3) hC dX4_upgradeType_102 (by decide) ?_
            refine aw_imul hC dX4_upgradeType_103 ?_
            rw [show (nI j) * 3 = nI (j * 3) from pk_mul j 3]
            refine kX4_103 hC rfl (m_X3_turnRow (I := a_ur I7 23 (upF (I 23) m t j)) (k := (j * 3)) (tg_23 hT) (N := 180) (by omega) (by decide)) dX4_upgradeType_104 rfl a_le a_le a_le a_le a_le rfl aPure_x (aPure_k ?_)
            rw [a_ur_self]
            show AW X 0 0 107 [some (.ref 19), some (.int (nI t)), some (.ref (27 + 2 * t)), some (.int (m 58 (3 * t))), some (.int (nI j))] [] T (a_ur (a_ur I7 23 (upF (I 23) m t j)) 23 (chgR (upF (I 23) m t j) (j * 3))) J R
            refine aw_iinc (v := nI (j + 1)) (L2 := [some (.ref 19), some (.int (nI t)), some (.ref (27 + 2 * t)), some (.int (m 58 (3 * t))), some (.int (nI (j + 1)))]) hC dX4_upgradeType_107 rfl (nI_inc _) (by decide) rfl ?_
            refine aw_goto (tgt := 76) hC dX4_upgradeType_110 (by decide) ?_
            first | exact ih_j (by omega) | (rw [show a_ur (a_ur I7 23 (upF (I 23) m t j)) 23 (chgR (upF (I 23) m t j) (j * 3)) = a_ur I7 23 (upF (I 23) m t (j + 1)) from by rw [upF_n (by assumption)]]; exact ih_j (by omega)) | (rw [show a_ur (a_ur I7 23 (upF (I 23) m t j)) 23 (chgR (upF (I 23) m t j) (j * 3)) = a_ur I7 23 (upF (I 23) m t (j + 1)) from by rw [← upF_y (by assumption)]; exact a_ur_2]; exact ih_j (by omega))
      exact loop2 0 (Nat.zero_le _)
    · show AW X 0 0 55 [some (.ref 19), some (.int (nI t)), some (.ref (27 + 2 * t)), some (.int (m 58 (3 * t))), some (.int (nI k))] [] T I7 J R
      have h1n : ¬ g ≤ k := fun q9 => h1 ((nI_leI (a := g) (b := k) (by omega) (by omega)).mpr q9)
      refine aw_aload_n hC dX4_upgradeType_55 rfl ?_
      refine aw_aload_n hC dX4_upgradeType_56 rfl ?_
      refine aw_getR hC dX4_upgradeType_57 aF_X4_19 rfl (tg_19 hT) (pr_19_1 hR) ?_
      refine aw_iload hC dX4_upgradeType_60 rfl ?_
      refine aw_aaloadR_k (j := k) hC dX4_upgradeType_62 (tg_21 hT) (nI_clamp (by omega)) (vp_in_nI (by omega) (by decide)) (hG.rf (by omega)) ?_
      refine aw_iload_n hC dX4_upgradeType_63 rfl ?_
      refine kX4_99 hC rfl (m_X4_turnSources (I := I7) hT hR (hGY7 hI7) hg4 (i := k) (t := t) (by omega) ht3 (hr7 hI7 (by omega)) (fun a ha => hso k (by omega) a ha)) dX4_upgradeType_64 (tg_19 hT) rfl a_le a_le a_le a_le a_le rfl aRelV_x (aRelV_k (fun v9 I4 J4 hQ => ?_))
      obtain ⟨ev4, hJ4, hI4a, hI4b⟩ := hQ
      rw [ev4, hJ4]
      show AW X 0 0 67 [some (.ref 19), some (.int (nI t)), some (.ref (27 + 2 * t)), some (.int (m 58 (3 * t))), some (.int (nI k))] [] T I4 J R
      refine aw_iinc (v := nI (k + 1)) (L2 := [some (.ref 19), some (.int (nI t)), some (.ref (27 + 2 * t)), some (.int (m 58 (3 * t))), some (.int (nI (k + 1)))]) hC dX4_upgradeType_67 rfl (nI_inc _) (by decide) rfl ?_
      refine aw_goto (tgt := 46) hC dX4_upgradeType_70 (by decide) ?_
      exact ih_k (by omega) I4 (hI7.step (fun i hi z => by have := hG.2.2 i k (by omega) (by omega) z; omega) hI4a hI4b)
  exact loop 0 (Nat.zero_le _) I1 ⟨fun _ _ => rfl, fun i hi => by omega⟩
abbrev swA (a : Nat) : Nat := if a = 0 then 1 else if a = 1 then 0 else 2
theorem swA_lt {a : Nat} : swA a < 3 := by
  unfold swA; split
  · decide
  · split <;> decide
theorem chgA_sw {f : Nat → Int32} {y a : Nat} (ha : a < 3) : chgA f (3 * y + a) = 2 * f (3 * y + swA a) := by
  rw [chgA_at ha]
  rcases (show a = 0 ∨ a = 1 ∨ a = 2 by omega) with e | e | e <;> subst e <;> rfl
theorem upS_sw {m : aI} {t i a : Nat} (ha : a < 3) : upS m t (3 * i + a) = if m 62 i = nI t then tr9 m t (3 * i + swA a) else tr9 m t (3 * i + a) := by
  rw [upS_a ha]
  by_cases zc : m 62 i = nI t
  · rw [if_pos zc, if_pos zc]
    rcases (show a = 0 ∨ a = 1 ∨ a = 2 by omega) with e | e | e <;> subst e <;> rfl
  · rw [if_neg zc, if_neg zc]
theorem sT_r {m : aI} {t s : Nat} (h : s < 22) : ∃ s2, sTurn m (nI t) (nI s) = nI s2 ∧ s2 < 22 ∧ (s < 10 → s2 = s) ∧ (10 ≤ s → 10 ≤ s2 ∧ (s2 - 10) / 3 = (s - 10) / 3 ∧ (s2 - 10) % 3 = if m 62 ((s - 10) / 3) = nI t then swA ((s - 10) % 3) else (s - 10) % 3) := by
  by_cases z : s < 10
  · exact ⟨s, sT_lt z, h, fun _ => rfl, fun q => by omega⟩
  · by_cases c1 : m 62 ((s - 10) / 3) = nI t
    · by_cases c2 : (s - 10) % 3 = 2
      · exact ⟨s, (sT_2 (by omega) h c2).symm, h, fun q => by omega, fun _ => ⟨by omega, rfl, by rw [if_pos c1, c2]; rfl⟩⟩
      · by_cases c3 : (s - 10) % 3 = 0
        · exact ⟨s + 1, (sT_0 (by omega) h c1 c3).symm, by omega, fun q => by omega, fun _ => ⟨by omega, by omega, by rw [if_pos c1, c3]; show (s + 1 - 10) % 3 = 1; omega⟩⟩
        · exact ⟨s - 1, (sT_1 (by omega) h c1 c3 (by omega)).symm, by omega, fun q => by omega, fun _ => ⟨by omega, by omega, by rw [if_pos c1, show (s - 10) % 3 = 1 by omega]; show (s - 1 - 10) % 3 = 0; omega⟩⟩
    · exact ⟨s, (sT_ty (by omega) h c1).symm, h, fun q => by omega, fun _ => ⟨by omega, rfl, by rw [if_neg c1]⟩⟩
theorem nI_tw {v : Nat} : 2 * nI v = nI (2 * v) := pk_mul 2 v
theorem nI_of0 {v : Int32} (h : 0 ≤ v) : v = nI v.toNatClampNeg := by
  obtain ⟨j, hj, e⟩ : ∃ j, j < 2147483648 ∧ v = nI j := by
    refine ⟨v.toNatClampNeg, ?_, ?_⟩
    · have := v.toInt_lt; have h3 := (i_le _ _).mp h; show v.toInt.toNat < 2147483648; omega
    · apply (i_eq _ _).mpr
      have h3 := (i_le _ _).mp h
      have h5 : (0 : Int32).toInt = 0 := by decide
      rw [h5] at h3
      rw [i_nl _ (by have := v.toInt_lt; show v.toInt.toNat < 2147483648; omega)]
      show v.toInt = (v.toInt.toNat : Int)
      omega
  rw [e, nI_clamp hj]
theorem upB_58s {m : aI} {t g r a : Nat} (ha : a < 3) : upB m t g r 58 (3 * t + a) = m 58 (3 * t + swA a) := by
  rw [upB_58]
  rcases (show a = 0 ∨ a = 1 ∨ a = 2 by omega) with e | e | e <;> subst e
  · rw [if_neg (by omega), if_pos (by omega)]; rfl
  · rw [if_pos rfl]; rfl
  · rw [if_neg (by omega), if_neg (by omega)]; rfl
theorem upB_58o {m : aI} {t t2 g r a : Nat} (ha : a < 3) (h : t2 ≠ t) : upB m t g r 58 (3 * t2 + a) = m 58 (3 * t2 + a) := by rw [upB_58, if_neg (by omega), if_neg (by omega)]
theorem swA_sw {a : Nat} (ha : a < 3) : swA (swA a) = a := by
  rcases (show a = 0 ∨ a = 1 ∨ a = 2 by omega) with e | e | e <;> subst e <;> rfl
theorem MEs.upg {m : aI} {g r t : Nat} (h : MEs m g r) (hr60 : r ≤ 60) (ht3 : t < 3) (hu2 : iN m 61 t < 2) : MEs (upB m t g r) g r := by
  have O : ∀ q, (q ≠ 44 ∧ q ≠ 58 ∧ q ≠ 61 ∧ q ≠ 65 ∧ q ≠ 67 ∧ q ≠ 70 ∧ q ≠ 72 ∧ q ≠ 73) → upB m t g r q = m q := fun q z => upB_o z
  obtain ⟨⟨i1, i2, i3, i4⟩, s1, s2, s3, s4⟩ := h
  have hg4 := i1.1
  have e62 : iN (upB m t g r) 62 = iN m 62 := by unfold iN; rw [O 62 (by decide)]
  have e66 : iN (upB m t g r) 66 = iN m 66 := by unfold iN; rw [O 66 (by decide)]
  have n61 : ∀ j, iN (upB m t g r) 61 j = if j = t then iN m 61 t + 1 else iN m 61 j := fun j => by
    unfold iN
    rw [upB_61]
    by_cases zc : j = t
    · rw [if_pos zc, if_pos zc, nI_clamp (by omega)]; rfl
    · rw [if_neg zc, if_neg zc]
  have ty : ∀ i, i < 4 → (m 62 i = nI t ↔ iN m 62 i = t) := fun i hi => by
    have q := i1.2.2.2.1 i hi
    rw [q.1]
    exact nI_eq (by omega) (by omega)
  have so : ∀ j, j < 3 * g → ∃ a, a < 3 ∧ upB m t g r 65 j = sTurn m (nI t) (m 65 (3 * (j / 3) + a)) ∧ a = (if m 62 (j / 3) = nI t then swA (j % 3) else j % 3) := fun j hj => by
    rw [upB_65, show S65 m t g j = upS m t j from if_pos hj]
    have e : upS m t j = upS m t (3 * (j / 3) + j % 3) := by rw [show 3 * (j / 3) + j % 3 = j by omega]
    rw [e, upS_sw (by omega)]
    by_cases zc : m 62 (j / 3) = nI t
    · exact ⟨swA (j % 3), swA_lt, by rw [if_pos zc], by rw [if_pos zc]⟩
    · exact ⟨j % 3, by omega, by rw [if_neg zc], by rw [if_neg zc]⟩
  have sO : ∀ j, 3 * g ≤ j → upB m t g r 65 j = m 65 j := fun j hj => by rw [upB_65]; exact if_neg (by omega)
  have gw : GW (upB m t g r) g := ⟨i1.1, (upB_4 (by decide)).trans i1.2.1, fun j hj => by
    by_cases zc : j < 3 * g
    · obtain ⟨a, ha, e, _⟩ := so j zc
      rcases i1.2.2.1 (3 * (j / 3) + a) (by omega) with q | q
      · exact Or.inl (by rw [e, q, sT_n])
      · obtain ⟨w2, w3, w4, w5, w6⟩ := sT_r (m := m) (t := t) q.2.1
        have e9 : upB m t g r 65 j = nI w2 := by rw [e, q.1]; exact w3
        have e8 : iN (upB m t g r) 65 j = w2 := by unfold iN; rw [e9, nI_clamp (by omega)]
        refine Or.inr ⟨by rw [e8]; exact e9, by rw [e8]; exact w4, fun z => ?_⟩
        rw [e8] at z ⊢
        by_cases zd : iN m 65 (3 * (j / 3) + a) < 10
        · have := w5 zd; omega
        · have q2 := q.2.2 (by omega)
          have q3 := (w6 (by omega)).2.1
          rw [q3]; omega
    · have q := i1.2.2.1 j hj
      unfold iN at q ⊢
      rw [sO j (by omega)]; exact q, NR_cg (O 62 (by decide)) i1.2.2.2.1, fun j hj => by
    have q := i1.2.2.2.2.1 j hj
    rw [n61, upB_61]
    by_cases zc : j = t
    · rw [if_pos zc, if_pos zc]; exact ⟨rfl, by omega⟩
    · rw [if_neg zc, if_neg zc]; exact q, NR_cg (O 63 (by decide)) i1.2.2.2.2.2.1, by have q := i1.2.2.2.2.2.2; unfold B01 at *; rw [O 71 (by decide)]; exact q⟩
  have up70 : ∀ q x a, a < 3 → x < 16 * g → upV m q t (16 * g) (3 * x + a) = if iN m 62 (x / 16) = t then 2 * m q (3 * x + swA a) else m q (3 * x + a) := fun q x a ha hx => by
    rw [upV_at ha]
    by_cases zc : iN m 62 (x / 16) = t
    · rw [if_pos ⟨hx, (ty _ (by omega)).mpr zc⟩, if_pos zc, chgA_sw ha]
    · rw [if_neg (fun z => zc ((ty _ (by omega)).mp z.2)), if_neg zc]
  have ub : ∀ u, u < 3 → ∀ v, v ≤ 255 * 2 ^ u → 2 * v ≤ 255 * 2 ^ (u + 1) := fun u _ v hv => by rw [Nat.pow_succ]; omega
  have um : ∀ u v, v ≤ 255 * 2 ^ u → v ≤ 255 * 2 ^ (u + 1) := fun u v hv => by rw [Nat.pow_succ]; omega
  have u3 : ∀ j, j < 3 → iN m 61 j < 3 := fun j hj => (i1.2.2.2.2.1 j hj).2
  have p4 := fun u hu => (p2_4 u hu).2
  have iv : InvV (upB m t g r) g := by
    have q := i3
    unfold InvV uxn at q ⊢
    rw [e62, e66, O 62 (by decide), O 66 (by decide), O 68 (by decide), O 69 (by decide)]
    refine ⟨fun x a hx ha hn => ?_, fun j a hj ha hgn => ?_, q.2.2.1, NR_cg (O 66 (by decide)) q.2.2.2⟩
    · have hx2 := (q.2.2.1 x hx hn).1
      unfold iN
      rw [upB_70, up70 70 x a ha hx2]
      show _ ∧ _ ≤ 255 * 2 ^ iN (upB m t g r) 61 (iN m 62 (x / 16))
      rw [n61]
      by_cases zc : iN m 62 (x / 16) = t
      · rw [if_pos zc, if_pos zc]
        have v := q.1 x (swA a) hx swA_lt hn
        rw [zc] at v
        have b1 := ub _ (u3 t ht3) _ v.2
        have b2 : 2 ^ (iN m 61 t + 1) ≤ 4 := p4 _ (by omega)
        rw [v.1, nI_tw, nI_clamp (by omega)]; exact ⟨rfl, b1⟩
      · rw [if_neg zc, if_neg zc]; exact q.1 x a hx ha hn
    · unfold iN
      rw [upB_67]
      show SR m t r (3 * j + a) = _ ∧ _ ≤ 255 * 2 ^ iN (upB m t g r) 61 (iN m 66 j)
      rw [n61]
      have v := q.2.1 j a hj ha hgn
      have v2 := q.2.1 j (swA a) hj swA_lt hgn
      by_cases zc : iN m 66 j = t
      · rw [if_pos zc]
        rw [zc] at v v2
        by_cases zd : 3 * j + a < 3 * r ∧ m 66 ((3 * j + a) / 3) = nI t
        · rw [show SR m t r (3 * j + a) = chgA (m 67) (3 * j + a) from if_pos zd, chgA_sw ha]
          have b1 := ub _ (u3 t ht3) _ v2.2
          have b2 : 2 ^ (iN m 61 t + 1) ≤ 4 := p4 _ (by omega)
          rw [v2.1, nI_tw, nI_clamp (by omega)]; exact ⟨rfl, b1⟩
        · rw [show SR m t r (3 * j + a) = m 67 (3 * j + a) from if_neg zd]
          exact ⟨v.1, um _ _ v.2⟩
      · rw [if_neg zc]
        have zd : ¬ (3 * j + a < 3 * r ∧ m 66 ((3 * j + a) / 3) = nI t) := fun w => by
          have w2 := w.2
          rw [show (3 * j + a) / 3 = j by omega] at w2
          exact zc (by unfold iN; rw [w2, nI_clamp (by omega)])
        rw [show SR m t r (3 * j + a) = m 67 (3 * j + a) from if_neg zd]; exact v
  have a72 : ∀ x, x < 16 * g → upB m t g r 72 x = if iN m 62 (x / 16) = t then adT (m 72 x) else m 72 x := fun x hx => by
    rw [upB_72]
    show (if x < 16 * g ∧ m 62 (x / 16) = nI t then adT (m 72 x) else m 72 x) = _
    by_cases zc : iN m 62 (x / 16) = t
    · rw [if_pos ⟨hx, (ty _ (by omega)).mpr zc⟩, if_pos zc]
    · rw [if_neg (fun z => zc ((ty _ (by omega)).mp z.2)), if_neg zc]
  have b72 : ∀ x, 16 * g ≤ x → upB m t g r 72 x = m 72 x := fun x hx => by rw [upB_72]; exact if_neg (by omega)
  refine ⟨⟨gw, ⟨fun i a hi ha hc => ?_, by rw [O 69 (by decide)]; exact i2.2.1, fun x a hx ha hb => ?_⟩, iv, fun x hx => ⟨fun z => ?_, fun z z2 => ?_⟩⟩, ⟨fun i a s hi ha hs h1 h2 => ?_, iv.pos gw⟩, m74_cg s2 (O 74 (by decide)) (Nat.le_refl _), m69_cg s3 (O 69 (by decide)) (Nat.le_refl _), ⟨fun j a hj hj2 ha => ?_, fun i h1 h2 => ⟨by rw [O 63 (by decide)]; exact (s4.2 i h1 h2).1, by rw [O 64 (by decide)]; exact (s4.2 i h1 h2).2.1, fun a ha => by rw [sO _ (by omega)]; exact (s4.2 i h1 h2).2.2 a ha⟩⟩⟩
  · rw [e62] at hc
    obtain ⟨b, hb, e, eb⟩ := so (3 * i + a) (by omega)
    rw [show (3 * i + a) / 3 = i by omega, show (3 * i + a) % 3 = a by omega] at eb
    rw [show (3 * i + a) / 3 = i by omega] at e
    have hm : m 65 (3 * i + b) = -1 := by
      by_cases zc : iN m 62 i = t
      · rw [if_pos ((ty i (by omega)).mpr zc)] at eb
        rw [zc, upB_58s ha, ← eb] at hc
        exact i2.1 i b hi hb (by rw [zc]; exact hc)
      · rw [if_neg (fun z => zc ((ty i (by omega)).mp z))] at eb
        rw [upB_58o ha zc] at hc
        rw [eb]; exact i2.1 i a hi ha hc
    rw [e, hm, sT_n]
  · by_cases zx : x < 16 * g
    · rw [a72 x zx] at hb
      rw [upB_73, up70 73 x a ha zx]
      show _ ∧ _ ≤ 255 * 2 ^ iN (upB m t g r) 61 (iN (upB m t g r) 62 (x / 16))
      rw [e62, n61]
      by_cases zc : iN m 62 (x / 16) = t
      · rw [if_pos zc] at hb
        rw [if_pos zc, if_pos zc]
        rw [adT_b ha] at hb
        have v := i2.2.2 x (swA a) hx swA_lt hb
        unfold bsM at v
        rw [zc] at v
        have b1 := ub _ (u3 t ht3) _ v.2
        have b2 : 2 ^ (iN m 61 t + 1) ≤ 4 := p4 _ (by omega)
        rw [nI_of0 v.1, nI_tw, nI_clamp (by omega)]
        exact ⟨nI_pos' (by omega), b1⟩
      · rw [if_neg zc] at hb
        rw [if_neg zc, if_neg zc]; exact i2.2.2 x a hx ha hb
    · rw [b72 x (by omega), (i4 x hx).1 (by omega), b_0] at hb; cases hb
  · rw [b72 x z]; exact (i4 x hx).1 z
  · rw [e62, O 60 (by decide)] at z2
    rw [a72 x z, (i4 x hx).2 z z2]
    split
    · exact adT_0
    · rfl
  · obtain ⟨b, hb, e, eb⟩ := so (3 * i + a) (by omega)
    rw [show (3 * i + a) / 3 = i by omega] at e
    rw [e] at hs
    rcases i1.2.2.1 (3 * i + b) (by omega) with q | q
    · rw [q, sT_n] at hs; exact absurd hs.symm (nI_ne1 (by omega))
    · obtain ⟨w2, w3, w4, w5, w6⟩ := sT_r (m := m) (t := t) q.2.1
      rw [q.1] at hs
      have e9 : w2 = s := (nI_eq (by omega) (by omega)).mp (w3.symm.trans hs)
      subst e9
      have z10 : 10 ≤ iN m 65 (3 * i + b) := by
        apply Classical.byContradiction
        intro z
        have := w5 (by omega); omega
      have w7 := w6 z10
      have old := s1.1 i b _ hi hb q.1 q.2.1 z10
      have hl := q.2.2 z10
      rw [e62, w7.2.1]
      by_cases zc : iN m 62 ((iN m 65 (3 * i + b) - 10) / 3) = t
      · rw [zc, w7.2.2, if_pos ((ty _ (by omega)).mpr zc), upB_58s swA_lt, swA_sw (by omega)]
        rw [zc] at old; exact old
      · rw [w7.2.2, if_neg (fun z => zc ((ty _ (by omega)).mp z)), upB_58o (by omega) zc]; exact old
  · rw [upB_67, show SR m t r (3 * j + a) = m 67 (3 * j + a) from if_neg (by omega)]; exact s4.1 j a hj hj2 ha
set_option maxRecDepth 100000 in
theorem m_X11_upgrade {T : List aT} {I : aI} {J : aJ} {R : aR} {m : aI} {c n : Nat} {sq : Nat → Nat} {g : Nat} {gq eq : Nat → Nat} {r p : Nat} {pq : Nat → Nat} {k : Nat} (h9 : G9 T I J R m c n sq g gq eq r p pq k) (t : Int32) : MX11_upgrade 3 200 [.ref 0, .int t] T I J R (CP [exI, exS] I J m c (fun k v m2 => (((0 ≤ t ∧ t ≤ 2) ∧ (iN m 61 t.toNatClampNeg < 2 ∧ m 44 45 < 0)) ∧ k = 0 ∧ v = nI (iN m 61 t.toNatClampNeg + 1) ∧ m2 = upB m t.toNatClampNeg g r) ∨ (((0 ≤ t ∧ t ≤ 2) ∧ ¬ (iN m 61 t.toNatClampNeg < 2 ∧ m 44 45 < 0)) ∧ k = 2 ∧ m2 = m) ∨ (¬ (0 ≤ t ∧ t ≤ 2) ∧ k = 1 ∧ m2 = m))) := by
  refine a_met (by decide +kernel) a_le (fun X hC hq => ?_)
  show AW X 0 0 0 [some (.ref 0), some (.int t)] [] T I J R
  have hT := h9.hT
  have hR := h9.hR
  have hG := h9.ces.gn
  have hg := h9.es.1.1
  have hg4 := hg.g4
  have hgn := hG.1
  have hE := h9.ces.en
  have hRs := h9.ces.rs
  have hr60 := hRs.r60
  have hY := h9.ces.ty
  refine aw_iload_n hC dX11_upgrade_0 rfl ?_
  refine aw_iconst (v := 3) hC dX11_upgrade_1 (by decide) ?_
  refine kX11_64 hC rfl (m_X11_isBelow t (3 : Int32)) dX11_upgrade_2 rfl a_le a_le a_le a_le a_le rfl aPure_x (aPure_k ?_)
  show AW X 0 0 5 [some (.ref 0), some (.int t)] [.int (bI (decide (0 ≤ t ∧ t < (3 : Int32))))] T I J R
  by_cases hn1 : bI (decide (0 ≤ t ∧ t < (3 : Int32))) = 0
  · rw [hn1]
    exact kX11_68 hC rfl (m_X11_needIndexF (T := T) (I := I) (J := J) (R := R)) dX11_upgrade_5 rfl a_le a_le a_le a_le a_le rfl (aTh_x (ae_out hC hq a_le a_le (CP.th (j := 0) rfl (Or.inr (Or.inr ⟨fun q => absurd (show 0 ≤ t ∧ t < 3 from ⟨q.1, i_lt3 q.2⟩) (of_decide_eq_false (bI_e0.mp (by assumption))), rfl, rfl⟩)) h9.gi))) aTh_k
  · refine kX11_68 hC rfl (m_X11_needIndexT (T := T) (I := I) (J := J) (R := R) (x := bI (decide (0 ≤ t ∧ t < (3 : Int32)))) hn1) dX11_upgrade_5 rfl a_le a_le a_le a_le a_le rfl aPure_x (aPure_k ?_)
    show AW X 0 0 8 [some (.ref 0), some (.int t)] [] T I J R
    have hfct : 0 ≤ t ∧ t < 3 := of_decide_eq_true (bI_n0.mp (by assumption))
    obtain ⟨t1, ht1, et1⟩ := i_nat (x := t) (b := 3) hfct.1 hfct.2 rfl (by first | decide | omega)
    subst et1
    have hup := hg.up t1 ht1
    show AW X 0 0 8 [some (.ref 0), some (.int (nI t1))] [] T I J R
    refine aw_aload_n hC dX11_upgrade_8 rfl ?_
    refine aw_getR hC dX11_upgrade_9 aF_X11_28 rfl (tg_0 hT) (pr_0_2 hR) ?_
    refine aw_getR hC dX11_upgrade_12 aF_X11_198 rfl (tg_19 hT) (pr_19_0 hR) ?_
    refine aw_iload_n hC dX11_upgrade_15 rfl ?_
    refine aw_aaloadR_k (j := t1) hC dX11_upgrade_16 (tg_20 hT) (nI_clamp (by omega)) (vp_in_nI (by omega) (by decide)) (ty_rf (by assumption) ht1) ?_
    refine aw_getI hC dX11_upgrade_17 aF_X11_251 rfl (ty_tg hT ht1) ?_
    rw [((hY.up ht1).trans hup.1)]
    refine aw_iconst (v := 2) hC dX11_upgrade_20 (by decide) ?_
    refine aw_icmp_ge (tgt := 38) hC dX11_upgrade_21 (by decide) (fun h2 => ?_) (fun h2 => ?_)
    · show AW X 0 0 38 [some (.ref 0), some (.int (nI t1))] [] T I J R
      have h2n : 2 ≤ (iN m 61 t1) := (nI_leI (a := 2) (b := (iN m 61 t1)) (by omega) (by omega)).mp h2
      refine aw_iconst (v := 0) hC dX11_upgrade_38 (by decide) ?_
      exact kX11_88 hC rfl (m_X11_needStateF (T := T) (I := I) (J := J) (R := R)) dX11_upgrade_39 rfl a_le a_le a_le a_le a_le rfl (aTh_x (ae_out hC hq a_le a_le (CP.th (j := 1) rfl (Or.inr (Or.inl ⟨⟨⟨hfct.1, i_le2 hfct.2⟩, by rw [nI_clamp (show t1 < 2 ^ 31 by omega)]; first | exact fun q => by omega | exact fun q => absurd q.2 (Int32.not_lt.mpr (of_decide_eq_true (bI_n0.mp (by assumption))))⟩, rfl, rfl⟩)) h9.gi))) aTh_k
    · show AW X 0 0 24 [some (.ref 0), some (.int (nI t1))] [] T I J R
      have h2n : ¬ 2 ≤ (iN m 61 t1) := fun q9 => h2 ((nI_leI (a := 2) (b := (iN m 61 t1)) (by omega) (by omega)).mpr q9)
      refine aw_aload_n hC dX11_upgrade_24 rfl ?_
      refine aw_getR hC dX11_upgrade_25 aF_X11_46 rfl (tg_0 hT) (pr_0_4 hR) ?_
      refine aw_getI hC dX11_upgrade_28 aF_X11_254 rfl (tg_38 hT) ?_
      rw [h9.cap.2.2.1]
      refine aw_if_ne (tgt := 38) hC dX11_upgrade_31 (by decide) (fun h3 => ?_) (fun h3 => ?_)
      · show AW X 0 0 38 [some (.ref 0), some (.int (nI t1))] [] T I J R
        refine aw_iconst (v := 0) hC dX11_upgrade_38 (by decide) ?_
        exact kX11_88 hC rfl (m_X11_needStateF (T := T) (I := I) (J := J) (R := R)) dX11_upgrade_39 rfl a_le a_le a_le a_le a_le rfl (aTh_x (ae_out hC hq a_le a_le (CP.th (j := 1) rfl (Or.inr (Or.inl ⟨⟨⟨hfct.1, i_le2 hfct.2⟩, by rw [nI_clamp (show t1 < 2 ^ 31 by omega)]; first | exact fun q => by omega | exact fun q => absurd q.2 (Int32.not_lt.mpr (of_decide_eq_true (bI_n0.mp (by assumption))))⟩, rfl, rfl⟩)) h9.gi))) aTh_k
      · show AW X 0 0 34 [some (.ref 0), some (.int (nI t1))] [] T I J R
        refine aw_iconst (v := 1) hC dX11_upgrade_34 (by decide) ?_
        refine aw_goto (tgt := 39) hC dX11_upgrade_35 (by decide) ?_
        refine kX11_88 hC rfl (m_X11_needStateT (T := T) (I := I) (J := J) (R := R) (x := 1) (by decide)) dX11_upgrade_39 rfl a_le a_le a_le a_le a_le rfl aPure_x (aPure_k ?_)
        show AW X 0 0 42 [some (.ref 0), some (.int (nI t1))] [] T I J R
        refine aw_aload_n hC dX11_upgrade_42 rfl ?_
        refine aw_getR hC dX11_upgrade_43 aF_X11_28 rfl (tg_0 hT) (pr_0_2 hR) ?_
        refine aw_iload_n hC dX11_upgrade_46 rfl ?_
        refine kX11_257 hC rfl (m_X4_upgradeType hT hR h9.ces h9.es.1 ht1 (by omega)) dX11_upgrade_47 (tg_19 hT) rfl a_le a_le a_le a_le a_le rfl aRelV_x (aRelV_k (fun v9 I8 J8 hQ => ?_))
        obtain ⟨ev8, hJ8, hce8, hfr8⟩ := hQ
        rw [ev8, hJ8]
        have e618 : I8 (27 + 2 * t1) 3 = nI (iN m 61 t1 + 1) := by rw [(hce8.ty t1 ht1).2.2.2, upB_61, if_pos rfl]
        show AW X 0 0 50 [some (.ref 0), some (.int (nI t1))] [] T I8 J R
        refine aw_aload_n hC dX11_upgrade_50 rfl ?_
        refine aw_getR hC dX11_upgrade_51 aF_X11_28 rfl (tg_0 hT) (pr_0_2 hR) ?_
        refine aw_getR hC dX11_upgrade_54 aF_X11_198 rfl (tg_19 hT) (pr_19_0 hR) ?_
        refine aw_iload_n hC dX11_upgrade_57 rfl ?_
        refine aw_aaloadR_k (j := t1) hC dX11_upgrade_58 (tg_20 hT) (nI_clamp (by omega)) (vp_in_nI (by omega) (by decide)) (ty_rf (by assumption) ht1) ?_
        refine aw_getI hC dX11_upgrade_59 aF_X11_251 rfl (ty_tg hT ht1) ?_
        rw [e618]
        exact aw_ireturn hC hq rfl dX11_upgrade_62 a_le a_le (CP.ok (Or.inl ⟨⟨⟨hfct.1, i_le2 hfct.2⟩, by rw [nI_clamp (show t1 < 2 ^ 31 by omega)]; exact ⟨by omega, Int32.not_le.mp (of_decide_eq_false (bI_e0.mp (by assumption)))⟩⟩, rfl, by rw [nI_clamp (show t1 < 2 ^ 31 by omega)], by rw [nI_clamp (show t1 < 2 ^ 31 by omega)]⟩) (fun o u v => ⟨hfr8 o (by have := hT.len; omega) (enO_lo hT v) (fun z => by rcases z with z | z | z | z | ⟨i, hi, z⟩; omega; omega; omega; omega; (have := h9.ces.gn.ge hT hi; omega)), rfl⟩) ((h9.est (S := SUp g gq t1) (List.prefix_refl _) hfr8 (fun _ _ _ _ => rfl) (fun o z => by rcases z with z | z | z | z | ⟨i, hi, z⟩; (exact Or.inl (by omega)); (exact Or.inl (by omega)); (exact Or.inl (by omega)); (exact Or.inl (by omega)); (exact Or.inr ⟨by have := h9.ces.gn.ge hT hi; omega, gq i, 2, by omega, z, h9.ces.gn.tg hi, fun _ => ⟨_, h9.ces.gn.t1 hi⟩, fun _ => ⟨_, h9.ces.gn.t2 hi⟩⟩)) h9.hR hce8 (h9.es.upg h9.ces.rs.r60 ht1 (by omega)) (Nat.le_refl _) (Nat.le_refl _) (fun o z => upB_o (by omega)) (fun k _ _ z => upB_4 z) (fun _ x _ z => by rw [upB_o (by decide)]; exact z)).gi))
