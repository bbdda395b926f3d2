/-! STEPPING -/
theorem LEq.n {A B : aI} (h : LEq A B) {q : Nat} (h1 : 45 ≤ q ∧ q ≤ 82) {j : Nat} : iN B q j = iN A q j := by rw [h.iNq h1]
/-- two stores that steps can't tell apart -/
def SX (A B : aI) (JA JB : aJ) (g : Nat) : Prop := LEq A B ∧ B 44 57 = A 44 57 ∧ JB 88 = JA 88 ∧ (∀ y, y < 16 * g → B 91 y = A 91 y) ∧ SO3 A ∧ g ≤ 4
theorem SX.sg {A B : aI} {JA JB : aJ} {g x a : Nat} (h : SX A B JA JB g) (hx : x < 16 * g) (ha : a < 3) : sGives B JB x a = sGives A JA x a := by
  obtain ⟨hL, h57, hJ, h91, hso, hg⟩ := h
  exact sGives_cg hso (by omega) ha h57 hJ (hL.r (by decide)) (hL.r (by decide)) (hL.r (by decide)) (hL.r (by decide)) (hL.r (by decide)) (hL.r (by decide)) (fun y hy => h91 y (by omega))
theorem SX.sd {A B : aI} {JA JB : aJ} {g x a : Nat} (h : SX A B JA JB g) (hx : x < 16 * g) (ha : a < 3) : sDf B JB x a = sDf A JA x a := by
  have hL := h.1
  exact sDiff_cg (h.sg hx ha) (hL.r (by decide)) (hL.r (by decide)) (hL.r (by decide)) (hL.r (by decide)) (hL.r (by decide))
theorem SX.cg {A B : aI} {JA JB : aJ} {g x : Nat} {md : Bool} (h : SX A B JA JB g) (hx : x < 16 * g) : allB (cgS B JB x md) 3 = allB (cgS A JA x md) 3 := allB_cg (fun a ha => by
  unfold cgS
  rw [h.sg hx ha, h.sd hx ha, h.1.r (q := 58) (by decide), h.1.n (q := 62) (by decide)])
theorem SX.mv {A B : aI} {JA JB : aJ} {g x a : Nat} (h : SX A B JA JB g) (hx : x < 16 * g) (ha : a < 3) : mkV B JB x a = mkV A JA x a := by
  unfold mkV
  rw [h.sg hx ha, h.1.r (q := 58) (by decide), h.1.n (q := 62) (by decide), h.1.n (q := 74) (by decide), h.1.n (q := 61) (by decide)]
theorem SX.mkb {A B : aI} {JA JB : aJ} {g x r : Nat} (h : SX A B JA JB g) (hx : x < 16 * g) : LEq (mkB A JA x r) (mkB B JB x r) := by
  show LEq (a_u (a_ur (a_u (a_u (a_u A 66 r (nI (iN A 62 (x / 16)))) 68 r 0) 44 25 (nI (r + 1))) 67 (mkR A JA x r 3)) 74 x (nI (iN A 74 x + 1))) (a_u (a_ur (a_u (a_u (a_u B 66 r (nI (iN B 62 (x / 16)))) 68 r 0) 44 25 (nI (r + 1))) 67 (mkR B JB x r 3)) 74 x (nI (iN B 74 x + 1)))
  refine (((((h.1.u (by rw [h.1.n (q := 62) (by decide)])).u rfl).u rfl).ur (fun j => ?_) (by decide)).u (by rw [h.1.n (q := 74) (by decide)]))
  show (if 3 * r ≤ j ∧ j < 3 * r + 3 then mkV A JA x (j - 3 * r) else A 67 j) = (if 3 * r ≤ j ∧ j < 3 * r + 3 then mkV B JB x (j - 3 * r) else B 67 j)
  by_cases z : 3 * r ≤ j ∧ j < 3 * r + 3
  · rw [if_pos z, if_pos z, h.mv hx (by omega)]
  · rw [if_neg z, if_neg z, h.1.r (q := 67) (by decide)]
theorem LEq.wr {A B : aI} {x r : Nat} (h : LEq A B) : LEq (wrT A x r) (wrT B x r) := by
  unfold wrT
  refine ((((h.u rfl).u rfl).u rfl).ur (fun j => ?_) (by decide))
  unfold wrS
  rw [h.r (q := 67) (by decide), h.r (q := 70) (by decide)]
theorem SX.mks {A B : aI} {JA JB : aJ} {g x r : Nat} {w t : Bool} (h : SX A B JA JB g) (hx : x < 16 * g) : LEq (mkS A JA x r w t) (mkS B JB x r w t) := by
  unfold mkS
  cases w with
  | false => rw [if_neg (by decide), if_neg (by decide)]; exact h.mkb hx
  | true => rw [if_pos rfl, if_pos rfl]; exact (((h.mkb hx).u (by rw [h.1.r (q := 69) (by decide)])).wr).u rfl
theorem SX.chd {A B : aI} {JA JB : aJ} {g x : Nat} {w : Bool} (h : SX A B JA JB g) (hx : x < 16 * g) : ∀ k, k ≤ 3 → chAd B JB x w k = chAd A JA x w k
  | 0, _ => by unfold chAd; rw [h.1.r (q := 72) (by decide)]
  | k + 1, hk => by
    have ih := SX.chd (w := w) h hx k (by omega)
    unfold chAd
    rw [ih, h.sd hx (by omega)]
theorem SX.chs {A B : aI} {JA JB : aJ} {g x r : Nat} {w : Bool} (h : SX A B JA JB g) (hx : x < 16 * g) : LEq (chS A JA x r w 3) (chS B JB x r w 3) := by
  unfold chS
  refine (((h.1.ur (fun j => ?_) (by decide)).ur (fun j => ?_) (by decide)).ur (fun j => ?_) (by decide))
  · unfold ch67
    rw [h.1.r (q := 67) (by decide), h.1.r (q := 68) (by decide)]
    by_cases z : 3 * r ≤ j ∧ j < 3 * r + 3
    · rw [h.sd hx (show j - 3 * r < 3 by omega), h.sg hx (show j - 3 * r < 3 by omega)]
    · rw [if_neg (fun q => z q.1), if_neg (fun q => z q.1)]
  · unfold ch70
    rw [h.1.r (q := 70) (by decide)]
    by_cases z : 3 * x ≤ j ∧ j < 3 * x + 3
    · rw [h.sd hx (show j - 3 * x < 3 by omega), h.sg hx (show j - 3 * x < 3 by omega)]
    · rw [if_neg (fun q => z q.1), if_neg (fun q => z q.1)]
  · unfold ch72
    rw [h.chd hx 3 (Nat.le_refl _), h.1.r (q := 72) (by decide)]
theorem SX.dos {A B : aI} {JA JB : aJ} {g x wh hw r : Nat} (h : SX A B JA JB g) (hx : x < 16 * g) : (doS B JB x wh hw r).1 = (doS A JA x wh hw r).1 ∧ LEq (doS A JA x wh hw r).2 (doS B JB x wh hw r).2 := by
  unfold doS
  rw [h.cg hx, h.cg hx, h.1.f (q := 35) (by decide), h.1.n (q := 69) (by decide), h.1.n (q := 82) (by decide), h.1.r (q := 69) (by decide)]
  by_cases h1 : wh = 1
  · rw [if_pos h1, if_pos h1]
    by_cases h2 : r = 60 ∨ allB (cgS A JA x true) 3 = false
    · rw [if_pos h2, if_pos h2]; exact ⟨rfl, h.1⟩
    · rw [if_neg h2, if_neg h2]; exact ⟨rfl, (h.mks hx).u rfl⟩
  · rw [if_neg h1, if_neg h1]
    by_cases h2 : hw = 1 ∨ (wh = 2 ∧ allB (cgS A JA x false) 3 = false)
    · rw [if_pos h2, if_pos h2]; exact ⟨rfl, h.1⟩
    · rw [if_neg h2, if_neg h2]
      refine ⟨rfl, LEq.u ?_ rfl⟩
      by_cases h3 : wh = 2
      · rw [if_pos h3, if_pos h3]; exact h.chs hx
      · rw [if_neg h3, if_neg h3]
        by_cases h4 : wh = 3
        · rw [if_pos h4, if_pos h4]; exact (h.1.u rfl).u rfl
        · rw [if_neg h4, if_neg h4]
          by_cases h5 : 0 < iN A 82 x
          · rw [if_pos h5, if_pos h5]; exact h.1.u rfl
          · rw [if_neg h5, if_neg h5]; exact h.1
theorem SX.stf {A B : aI} {JA JB : aJ} {g x wh hw r a : Nat} (h : SX A B JA JB g) (hx : x < 16 * g) : LEq (stF A JA x wh hw r a) (stF B JB x wh hw r a) := by
  have q := h.dos (wh := wh) (hw := hw) (r := r) hx
  unfold stF
  exact (q.2.u (by rw [q.1, h.1.r (q := 81) (by decide)])).u rfl
theorem psF_cr {A B : aI} {p : Nat} (h65 : B 65 = A 65) (h80 : B 80 = A 80) : ∀ (k a : Nat) (F : Nat → Int32), psF B p k a F = psF A p k a F
  | 0, _, _ => rfl
  | k + 1, a, F => by
    have eN : acN B p a = acN A p a := by unfold acN iN; rw [h80]
    have eL : loB B F (acN A p a) = loB A F (acN A p a) := by
      unfold loB loF iN
      rw [h65]
    rw [psF, psF, eN, eL, psF_cr h65 h80 k (a + 1)]
theorem LEq.pss {A B : aI} {p a : Nat} (h : LEq A B) : LEq (psS A p a) (psS B p a) := by
  unfold psS
  rw [h.n (q := 79) (by decide), h.r (q := 81) (by decide), psF_cr (h.r (q := 65) (by decide)) (h.r (q := 80) (by decide))]
  by_cases z : (psF A p (iN A 79 p - a) a (A 81)).1 = iN A 79 p
  · rw [if_pos z, if_pos z]; exact ((((h.u rfl).ur (fun _ => rfl) (by decide)).u rfl).u rfl)
  · rw [if_neg z, if_neg z]; exact (h.u rfl).ur (fun _ => rfl) (by decide)
theorem SX.sts {A B : aI} {JA JB : aJ} {g x wh hw r p a : Nat} (h : SX A B JA JB g) (hx : x < 16 * g) : LEq (stS A JA x wh hw r p a) (stS B JB x wh hw r p a) := by
  have q := h.stf (wh := wh) (hw := hw) (r := r) (a := a) hx
  unfold stS
  by_cases z : hw = 2
  · rw [if_pos z, if_pos z]; exact q.u rfl
  · rw [if_neg z, if_neg z]; exact q.pss
theorem SO3.ok {m : aI} (h : SO3 m) : SOK m := fun j hj h10 => by
  rcases h j hj with q | q
  · rw [q] at h10; exact absurd h10 (by decide)
  · refine ⟨q.1, ?_, q.2.1⟩
    apply Classical.byContradiction
    intro w
    rw [q.1] at h10
    exact absurd ((nI_ltI (a := iN m 65 j) (b := 10) (by omega) (by omega)).mpr (by omega)) (Int32.not_lt.mpr h10)
