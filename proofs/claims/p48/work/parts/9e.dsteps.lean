/-! READING -/
abbrev REq (A B : aI) : Prop := ∀ q, 58 ≤ q → q ≤ 74 → B q = A q
theorem REq.u {A B : aI} {q k : Nat} {v w : Int32} (h : REq A B) (e : v = w) : REq (a_u A q k v) (a_u B q k w) := by
  subst e
  intro z h1 h2
  funext j
  unfold a_u
  rw [h z h1 h2]
theorem cFr_cr {A B : aI} {mj : aJ} {g : Nat} (hg : g ≤ 4) (hso : SO3 A) (h : REq A B) (h57 : B 44 57 = A 44 57) : ∀ k, k ≤ 16 * g → ∀ x, x < k → cFr B mj k x = cFr A mj k x
  | 0, _ => fun x hx => absurd hx (by omega)
  | k + 1, hk => fun x hx => by
    have ih := cFr_cr (mj := mj) hg hso h h57 k (by omega)
    show (if x = k then sCmp (a_ur B 91 (cFr B mj k)) mj k else cFr B mj k x) = (if x = k then sCmp (a_ur A 91 (cFr A mj k)) mj k else cFr A mj k x)
    by_cases zc : x = k
    · rw [if_pos zc, if_pos zc]
      exact sCmp_cr (SO3_cg (a_ur_ne (by decide)) hso) (by omega) (by rw [a_ur_ne (by decide), a_ur_ne (by decide)]; exact h57) rfl (fun o u v => by rw [a_ur_ne (by omega), a_ur_ne (by omega)]; exact h o u (by omega)) (fun y hy => by rw [a_ur_self, a_ur_self]; exact ih y (by omega))
    · rw [if_neg zc, if_neg zc]; exact ih x (by omega)
theorem gvV_cr {A B : aI} {mj : aJ} {c : Int32} {g x a : Nat} (hg : g ≤ 4) (hso : SO3 A) (h : REq A B) (hx : x < 16 * g) (ha : a < 3) : gvV B c mj g x a = gvV A c mj g x a := by
  have h2 : REq (a_u A 44 57 c) (a_u B 44 57 c) := h.u rfl
  have hso2 : SO3 (a_u A 44 57 c) := SO3_cg (a_u_row (by decide)) hso
  have e := cFr_cr (mj := mj) hg hso2 h2 (by rw [a_u_self, a_u_self]) (16 * g) (Nat.le_refl _)
  unfold gvV
  exact sGives_cg (SO3_cg (a_ur_ne (by decide)) hso2) (by omega) ha (by rw [a_ur_ne (by decide), a_ur_ne (by decide), a_u_self, a_u_self]) rfl (by rw [a_ur_ne (by decide), a_ur_ne (by decide)]; exact h2 58 (by decide) (by decide)) (by rw [a_ur_ne (by decide), a_ur_ne (by decide)]; exact h2 61 (by decide) (by decide)) (by rw [a_ur_ne (by decide), a_ur_ne (by decide)]; exact h2 62 (by decide) (by decide)) (by rw [a_ur_ne (by decide), a_ur_ne (by decide)]; exact h2 65 (by decide) (by decide)) (by rw [a_ur_ne (by decide), a_ur_ne (by decide)]; exact h2 69 (by decide) (by decide)) (by rw [a_ur_ne (by decide), a_ur_ne (by decide)]; exact h2 70 (by decide) (by decide)) (fun y hy => by rw [a_ur_self, a_ur_self]; exact e y (by omega))
theorem rdD_cr {A B : aI} {v : Int32} {x k : Nat} (h : REq A B) : REq (rdD A v x k) (rdD B v x k) := by
  have iN_ : ∀ q, 58 ≤ q → q ≤ 74 → iN B q = iN A q := fun q u w => by unfold iN; rw [h q u w]
  have gK : sKept B x = sKept A x := by simp only [sKept]; rw [h 64 (by decide) (by decide), iN_ 63 (by decide) (by decide)]
  unfold rdD
  rw [h 60 (by decide) (by decide), iN_ 62 (by decide) (by decide), gK]
  by_cases z1 : A 60 (iN A 62 (x / 16)) = 0
  · rw [if_pos z1, if_pos z1]; exact h
  · rw [if_neg z1, if_neg z1]
    by_cases z2 : 0 ≤ v ∧ sKept A x = true
    · rw [if_pos z2, if_pos z2]; exact (h.u (by rw [h 72 (by decide) (by decide)])).u rfl
    · rw [if_neg z2, if_neg z2]; exact (h.u (by rw [h 72 (by decide) (by decide)])).u (by rw [h 73 (by decide) (by decide)])
theorem rdK_cr {A B : aI} {c : Int32} {mj : aJ} {g x k : Nat} (hg : g ≤ 4) (hso : SO3 A) (h : REq A B) (hx : x < 16 * g) (hk : k < 3) : REq (rdK A c mj g x k) (rdK B c mj g x k) := by
  have iN_ : ∀ q, 58 ≤ q → q ≤ 74 → iN B q = iN A q := fun q u w => by unfold iN; rw [h q u w]
  have h2 : REq (a_u A 70 (3 * x + k) (A 67 (3 * (iN A 69 x - 1) + k))) (a_u B 70 (3 * x + k) (B 67 (3 * (iN B 69 x - 1) + k))) := h.u (by rw [h 67 (by decide) (by decide), iN_ 69 (by decide) (by decide)])
  unfold rdK
  rw [gvV_cr hg (SO3_cg (a_u_row (by decide)) hso) h2 hx hk]
  exact rdD_cr h2
theorem rdA_cr {A B : aI} {c : Int32} {mj : aJ} {g x : Nat} (hg : g ≤ 4) (hso : SO3 A) (h : REq A B) (hx : x < 16 * g) : ∀ k, k ≤ 3 → REq (rdA A c mj g x k).1 (rdA B c mj g x k).1 ∧ (rdA B c mj g x k).2 = (rdA A c mj g x k).2
  | 0, _ => ⟨h, rfl⟩
  | k + 1, hk => by
    have ih := rdA_cr (c := c) (mj := mj) hg hso h hx k (by omega)
    have hi := ih.1
    have iN_ : ∀ q, 58 ≤ q → q ≤ 74 → iN (rdA B c mj g x k).1 q = iN (rdA A c mj g x k).1 q := fun q u w => by unfold iN; rw [hi q u w]
    have ec : rdC (rdA B c mj g x k).1 x k ↔ rdC (rdA A c mj g x k).1 x k := by
      unfold rdC
      rw [hi 58 (by decide) (by decide), hi 67 (by decide) (by decide), hi 70 (by decide) (by decide), iN_ 62 (by decide) (by decide), iN_ 69 (by decide) (by decide)]
    simp only [rdA]
    by_cases z : rdC (rdA A c mj g x k).1 x k
    · rw [if_pos z, if_pos (ec.mpr z)]
      exact ⟨rdK_cr hg (SO3_cg (rdA_fr (by decide) k) hso) hi hx (by omega), by rw [ih.2]⟩
    · rw [if_neg z, if_neg (fun w => z (ec.mp w))]; exact ih
theorem rdX_cr {A B : aI} {c : Int32} {mj : aJ} {g x : Nat} (hg : g ≤ 4) (hso : SO3 A) (h : REq A B) (hx : x < 16 * g) : REq (rdX A c mj g x).1 (rdX B c mj g x).1 ∧ (rdX B c mj g x).2 = (rdX A c mj g x).2 := by
  have q := rdA_cr (c := c) (mj := mj) hg hso h hx 3 (Nat.le_refl _)
  have e69 : iN B 69 x = iN A 69 x := by unfold iN; rw [h 69 (by decide) (by decide)]
  unfold rdX
  rw [e69, h 68 (by decide) (by decide), q.2]
  by_cases z : 0 < iN A 69 x
  · rw [if_pos z, if_pos z]
    by_cases z2 : A 68 (iN A 69 x - 1) ≠ 0
    · rw [if_pos z2, if_pos z2]; exact ⟨h.u rfl, rfl⟩
    · rw [if_neg z2, if_neg z2]; exact ⟨q.1, rfl⟩
  · rw [if_neg z, if_neg z]; exact ⟨h, rfl⟩
theorem rdN_cr {A B : aI} {c : Int32} {mj : aJ} {g : Nat} (hg : g ≤ 4) (hso : SO3 A) (h : REq A B) : ∀ k, k ≤ 16 * g → REq (rdN A c mj g k).1 (rdN B c mj g k).1 ∧ (rdN B c mj g k).2 = (rdN A c mj g k).2
  | 0, _ => ⟨h, rfl⟩
  | k + 1, hk => by
    have ih := rdN_cr (c := c) (mj := mj) hg hso h k (by omega)
    have q := rdX_cr (c := c) (mj := mj) (x := k) hg (SO3_cg (rdN_fr (by decide) k) hso) ih.1 (by omega)
    refine ⟨q.1, ?_⟩
    show ((rdN B c mj g k).2.1 + (rdX (rdN B c mj g k).1 c mj g k).2.1, (rdN B c mj g k).2.2 + (rdX (rdN B c mj g k).1 c mj g k).2.2) = _
    rw [ih.2, q.2]; rfl
