/-- the rows that are an entry's, by the tags alone -/
def enO (T : List aT) (o : Nat) : Prop := ∃ q, T[q]? = some (.inr 3) ∧ (o = q ∨ (o = q + 1 ∧ T[q + 1]? = some (.inl (.int, 3))) ∨ (o = q + 2 ∧ (∃ t, T[q + 1]? = some (.inl t)) ∧ T[q + 2]? = some (.inl (.int, 3))))
theorem enO_lo {T : List aT} {o : Nat} (hT : aPT T) (ho : o < 44) : ¬ enO T o := fun h => by
  obtain ⟨q, h1, h2⟩ := h
  have := a_ge hT h1 a_tags_3
  rcases h2 with e | e | e <;> omega
theorem enO_ob {T : List aT} {o c : Nat} (h : T[o]? = some (.inr c)) (hc : c ≠ 3) : ¬ enO T o := fun z => by
  obtain ⟨q, h1, h2⟩ := z
  rcases h2 with e | e | e
  · rw [e, h1] at h; cases h; exact hc rfl
  · rw [e.1, e.2] at h; cases h
  · rw [e.1, e.2.2] at h; cases h
theorem enO_gn {T : List aT} {q : Nat} (h0 : T[q]? = some (.inr 5)) (h1 : T[q + 1]? = some (.inl (.int, 8))) (h2 : T[q + 2]? = some (.inl (.int, 3))) : ¬ enO T (q + 1) ∧ ¬ enO T (q + 2) := by
  refine ⟨fun z => ?_, fun z => ?_⟩
  · obtain ⟨p, p1, p2⟩ := z
    rcases p2 with e | e | e
    · rw [e, p1] at h1; cases h1
    · rw [e.1, e.2] at h1; cases h1
    · rw [e.1, e.2.2] at h1; cases h1
  · obtain ⟨p, p1, p2⟩ := z
    rcases p2 with e | e | e
    · rw [e, p1] at h2; cases h2
    · have e9 : p = q + 1 := by omega
      rw [e9, h1] at p1; cases p1
    · have e9 : p = q := by omega
      rw [e9, h0] at p1; cases p1
theorem enO_ar {T : List aT} {q c : Nat} {t : FieldType × Nat} (h0 : T[q]? = some (.inr c)) (hc : c ≠ 3) (h1 : T[q + 1]? = some (.inl t)) : ¬ enO T (q + 1) := fun z => by
  obtain ⟨p, p1, p2⟩ := z
  rcases p2 with e | e | e
  · rw [e, p1] at h1; cases h1
  · have e9 : p = q := by omega
    rw [e9, h0] at p1; cases p1; exact hc rfl
  · obtain ⟨u, e2⟩ := e.2.1
    have e9 : q = p + 1 := by omega
    rw [e9, e2] at h0; cases h0
theorem CGn.en {T : List aT} {I : aI} {R : aR} {m : aI} {g i : Nat} {gq : Nat → Nat} (h : CGn T I R m g gq) (hi : i < g) : ¬ enO T (gq i) ∧ ¬ enO T (gq i + 1) ∧ ¬ enO T (gq i + 2) := ⟨enO_ob (h.tg hi) (by decide), enO_gn (h.tg hi) (h.t1 hi) (h.t2 hi)⟩
theorem CGn.fe {T : List aT} {I I2 : aI} {R R2 : aR} {m : aI} {g : Nat} {gq : Nat → Nat} (h : CGn T I R m g gq) (hT : aPT T) (h19 : I2 19 2 = I 19 2) (hf : ∀ o, 44 ≤ o → ¬ enO T o → I2 o = I o) (h21 : R2 21 = R 21) (hR : ∀ o, 44 ≤ o → R2 o = R o) : CGn T I2 R2 m g gq := ⟨h19.trans h.1, fun i hi => ⟨by rw [h21]; exact h.rf hi, by
  have h9 := h.ge hT hi
  have he := h.en hi
  have q := h.at hi
  unfold GnAt at *
  rw [hf _ h9 he.1, hf _ (by omega) he.2.1, hf _ (by omega) he.2.2, hR _ h9]
  exact q⟩, h.2.2⟩
theorem CEn.eno {T : List aT} {I : aI} {R : aR} {m : aI} {eq : Nat → Nat} {x : Nat} (h : CEn T I R m eq) (hx : x < 64) (h0 : m 69 x ≠ 0) : enO T (eq x) ∧ enO T (eq x + 1) ∧ enO T (eq x + 2) := ⟨⟨_, h.tg hx h0, Or.inl rfl⟩, ⟨_, h.tg hx h0, Or.inr (Or.inl ⟨rfl, h.t1 hx h0⟩)⟩, ⟨_, h.tg hx h0, Or.inr (Or.inr ⟨rfl, ⟨_, h.t1 hx h0⟩, h.t2 hx h0⟩)⟩⟩
/-- two entries are apart -/
theorem CEn.ap {T : List aT} {I : aI} {R : aR} {m : aI} {eq : Nat → Nat} {x y : Nat} (h : CEn T I R m eq) (hx : x < 64) (hy : y < 64) (hne : y ≠ x) (h0 : m 69 x ≠ 0) (h1 : m 69 y ≠ 0) : eq y ≠ eq x ∧ eq y ≠ eq x + 1 ∧ eq y ≠ eq x + 2 ∧ eq y + 1 ≠ eq x ∧ eq y + 2 ≠ eq x ∧ eq y + 2 ≠ eq x + 1 ∧ eq y + 1 ≠ eq x + 2 := by
  have tx := h.tg hx h0
  have ty := h.tg hy h1
  have tx1 := h.t1 hx h0
  have ty1 := h.t1 hy h1
  have tx2 := h.t2 hx h0
  have ty2 := h.t2 hy h1
  refine ⟨fun e => hne (h.2 y x hy hx h1 h0 e), fun e => ?_, fun e => ?_, fun e => ?_, fun e => ?_, fun e => ?_, fun e => ?_⟩
  · rw [e, tx1] at ty; cases ty
  · rw [e, tx2] at ty; cases ty
  · rw [e, tx] at ty1; cases ty1
  · rw [e, tx] at ty2; cases ty2
  · have e9 : eq x = eq y + 1 := by omega
    rw [e9, ty1] at tx; cases tx
  · have e9 : eq y = eq x + 1 := by omega
    rw [e9, tx1] at ty; cases ty
theorem CEn.dr {T : List aT} {I I2 : aI} {R : aR} {m A : aI} {eq : Nat → Nat} {x : Nat} (h : CEn T I R m eq) (hx : x < 64) (h0 : m 69 x ≠ 0) (hD : DrI I I2 A (eq x) x) (h69 : A 69 = m 69) (h71 : A 71 = m 71) (hp : ∀ z, z ≠ x → A 72 z = m 72 z ∧ ∀ a, a < 3 → A 70 (3 * z + a) = m 70 (3 * z + a) ∧ A 73 (3 * z + a) = m 73 (3 * z + a)) : CEn T I2 R A eq := by
  refine ⟨fun y hy => ⟨fun z => h.no hy (by rw [← h69]; exact z), fun z => ?_⟩, fun y z hy hz a b => h.2 y z hy hz (by rw [← h69]; exact a) (by rw [← h69]; exact b)⟩
  rw [h69] at z
  refine ⟨h.rf hy z, ?_⟩
  have q := h.at hy z
  by_cases c : y = x
  · rw [c] at q ⊢
    refine ⟨q.1, q.2.1, q.2.2.1, q.2.2.2.1, q.2.2.2.2.1, ?_, ?_, hD.2.1, hD.2.2.1, hD.2.2.2⟩
    · rw [hD.1 _ _ (by omega) (by omega) (by omega), h69]; exact q.2.2.2.2.2.1
    · rw [hD.1 _ _ (by omega) (by omega) (by omega), h71]; exact q.2.2.2.2.2.2.1
  · have ap := h.ap hx hy c h0 z
    have hz := hp y c
    have e0 : I2 (eq y) = I (eq y) := funext fun p => hD.1 _ _ ap.2.1 ap.2.2.1 (fun w => ap.1 w.1)
    have e1 : I2 (eq y + 1) = I (eq y + 1) := funext fun p => hD.1 _ _ (fun w => ap.1 (by omega)) ap.2.2.2.2.2.2 (fun w => ap.2.2.2.1 w.1)
    have e2 : I2 (eq y + 2) = I (eq y + 2) := funext fun p => hD.1 _ _ ap.2.2.2.2.2.1 (fun w => ap.1 (by omega)) (fun w => ap.2.2.2.2.1 w.1)
    unfold EnAt at *
    rw [e0, e1, e2, h69, h71, hz.1]
    exact ⟨q.1, q.2.1, q.2.2.1, q.2.2.2.1, q.2.2.2.2.1, q.2.2.2.2.2.1, q.2.2.2.2.2.2.1, q.2.2.2.2.2.2.2.1, fun a ha => (q.2.2.2.2.2.2.2.2.1 a ha).trans (hz.2 a ha).1.symm, fun a ha hb => (q.2.2.2.2.2.2.2.2.2 a ha hb).trans (hz.2 a ha).2.symm⟩
theorem CEn.drop {T : List aT} {I : aI} {R : aR} {m : aI} {eq : Nat → Nat} {x : Nat} (h : CEn T I R m eq) (hT : aPT T) : CEn T I (a_u R 25 x none) (a_u m 69 x 0) eq := by
  have nz : ∀ y, a_u m 69 x 0 69 y ≠ 0 → y ≠ x ∧ m 69 y ≠ 0 := fun y q => by
    by_cases e : y = x
    · rw [e, a_u_self] at q; exact absurd rfl q
    · rw [a_u_ne (fun z => e z.2)] at q; exact ⟨e, q⟩
  refine ⟨fun y hy => ⟨fun z => ?_, fun z => ?_⟩, fun y z hy hz a b => h.2 y z hy hz (nz y a).2 (nz z b).2⟩
  · by_cases e : y = x
    · rw [e, a_u_self]
    · rw [a_u_ne (fun w => e w.2)] at z ⊢; exact h.no hy z
  · have n := nz y z
    refine ⟨by rw [a_u_ne (fun w => n.1 w.2)]; exact h.rf hy n.2, ?_⟩
    have h95 := h.ge hT hy n.2
    have q := h.at hy n.2
    unfold EnAt at *
    rw [a_u_row (show eq y ≠ 25 by omega), a_u_ne (fun w => n.1 w.2), a_u_row (show 71 ≠ 69 by decide), a_u_row (show 72 ≠ 69 by decide), a_u_row (show 70 ≠ 69 by decide), a_u_row (show 73 ≠ 69 by decide)]
    exact q
theorem rdD_ot {A : aI} {v : Int32} {x k z : Nat} (h : z ≠ x) (hk : k < 3) : rdD A v x k 72 z = A 72 z ∧ ∀ a, a < 3 → rdD A v x k 70 (3 * z + a) = A 70 (3 * z + a) ∧ rdD A v x k 73 (3 * z + a) = A 73 (3 * z + a) := by
  refine ⟨?_, fun a ha => ⟨by rw [rdD_fr (by decide)], ?_⟩⟩
  · unfold rdD
    split
    · rfl
    · split <;> rw [a_u_row (by decide), a_u_ne (fun q => h q.2)]
  · unfold rdD
    split
    · rfl
    · split <;> rw [a_u_ne (fun q => by omega), a_u_row (by decide)]
theorem rdA_ot {m : aI} {c : Int32} {mj : aJ} {g x z : Nat} (h : z ≠ x) : ∀ k, k ≤ 3 → (rdA m c mj g x k).1 72 z = m 72 z ∧ ∀ a, a < 3 → (rdA m c mj g x k).1 70 (3 * z + a) = m 70 (3 * z + a) ∧ (rdA m c mj g x k).1 73 (3 * z + a) = m 73 (3 * z + a)
  | 0, _ => ⟨rfl, fun _ _ => ⟨rfl, rfl⟩⟩
  | k + 1, hk => by
    have ih := rdA_ot (m := m) (c := c) (mj := mj) (g := g) h k (by omega)
    simp only [rdA]
    split
    · show rdK (rdA m c mj g x k).1 c mj g x k 72 z = m 72 z ∧ ∀ a, a < 3 → rdK (rdA m c mj g x k).1 c mj g x k 70 (3 * z + a) = m 70 (3 * z + a) ∧ rdK (rdA m c mj g x k).1 c mj g x k 73 (3 * z + a) = m 73 (3 * z + a)
      unfold rdK
      have q := rdD_ot (A := a_u (rdA m c mj g x k).1 70 (3 * x + k) ((rdA m c mj g x k).1 67 (3 * (iN (rdA m c mj g x k).1 69 x - 1) + k))) (v := gvV (a_u (rdA m c mj g x k).1 70 (3 * x + k) ((rdA m c mj g x k).1 67 (3 * (iN (rdA m c mj g x k).1 69 x - 1) + k))) c mj g x k) (k := k) h (by omega)
      refine ⟨by rw [q.1, a_u_row (by decide)]; exact ih.1, fun a ha => ⟨?_, ?_⟩⟩
      · rw [(q.2 a ha).1, a_u_ne (fun w => by omega)]; exact (ih.2 a ha).1
      · rw [(q.2 a ha).2, a_u_row (by decide)]; exact (ih.2 a ha).2
    · exact ih
theorem a_refs_no25 : ∀ q ∈ a_refs, q.1 ≠ 25 := by decide +kernel
theorem a_refs_no2 : ∀ q ∈ a_refs, q.1 ≠ 2 := by decide +kernel
theorem a_refs_no21 : ∀ q ∈ a_refs, q.1 ≠ 21 := by decide +kernel
theorem a_refs_no43 : ∀ q ∈ a_refs, q.1 ≠ 43 := by decide +kernel
/-- the ghost that the comparison looks at -/
abbrev cM (A : aI) (c : Int32) (N : Nat → Int32) : aI := a_ur (a_u A 44 57 c) 91 N
theorem cM_o {A : aI} {c : Int32} {N : Nat → Int32} {o : Nat} (h : o ≠ 44) (h2 : o ≠ 91) : cM A c N o = A o := by show a_ur (a_u A 44 57 c) 91 N o = A o; rw [a_ur_ne h2, a_u_row h]
theorem cM_44 {A : aI} {c : Int32} {N : Nat → Int32} {k : Nat} (h : k ≠ 57) : cM A c N 44 k = A 44 k := by show a_ur (a_u A 44 57 c) 91 N 44 k = A 44 k; rw [a_ur_ne (by decide), a_u_ne (fun q => h q.2)]
theorem cM_57 {A : aI} {c : Int32} {N : Nat → Int32} : cM A c N 44 57 = c := by show a_ur (a_u A 44 57 c) 91 N 44 57 = c; rw [a_ur_ne (by decide), a_u_self]
/-- what is read so far: the names below k -/
def RdI (T : List aT) (I : aI) (R : aR) (c : Int32) (mj : aJ) (eq : Nat → Nat) (A : aI) (k : Nat) (N : Nat → Int32) (I2 : aI) (R2 : aR) : Prop := CEn T I2 R2 A eq ∧ (∀ o, ¬ enO T o → o ≠ 34 → o ≠ 36 → I2 o = I o) ∧ (∀ o, o ≠ 25 → R2 o = R o) ∧ aPR R2 ∧ NdR (a_u A 44 57 c) mj N k ∧ ∀ y, y < k → I2 36 y = N y
theorem rd_pre {T : List aT} {I I2 m A : aI} {R R2 : aR} {c : Int32} {mj : aJ} {g k : Nat} {gq eq : Nat → Nat} {N : Nat → Int32} (hT : aPT T) (hG : CGn T I R m g gq) (hY : CTy I m) (hV : ∀ f, f < 10 → I 11 f = sVal (a_u m 44 57 c) mj f) (hA : InvR A g) (hfr : ∀ o, o ≠ 69 → o ≠ 70 → o ≠ 72 → o ≠ 73 → A o = m o) (h : RdI T I R c mj eq A k N I2 R2) :
    CGn T I2 R2 A g gq ∧ CTy I2 A ∧ CGn T I2 R2 (cM A c N) g gq ∧ GW (cM A c N) g ∧ CTy I2 (cM A c N) ∧ CEn T I2 R2 (cM A c N) eq ∧ CFo I2 (cM A c N) mj ∧ InvE (cM A c N) g ∧ ∀ y, y < k → I2 36 y = cM A c N 91 y ∧ (0 ≤ cM A c N 91 y ∧ cM A c N 91 y ≤ 4) := by
  obtain ⟨h1, h2, h3, h4, h5, h6⟩ := h
  have lo : ∀ o, o < 44 → o ≠ 34 → o ≠ 36 → I2 o = I o := fun o a b d => h2 o (enO_lo hT a) b d
  have g1 : CGn T I2 R2 m g gq := hG.fe hT (by rw [lo 19 (by decide) (by decide) (by decide)]) (fun o a b => h2 o b (by omega) (by omega)) (h3 21 (by decide)) (fun o a => h3 o (by omega))
  have y1 : CTy I2 m := hY.fr (fun o a b => lo o (by omega) (by omega) (by omega))
  have g2 : CGn T I2 R2 A g gq := g1.cgm (hfr 62 (by decide) (by decide) (by decide) (by decide)) (hfr 63 (by decide) (by decide) (by decide) (by decide)) (hfr 64 (by decide) (by decide) (by decide) (by decide)) (hfr 65 (by decide) (by decide) (by decide) (by decide))
  have y2 : CTy I2 A := y1.cgm (hfr 58 (by decide) (by decide) (by decide) (by decide)) (hfr 59 (by decide) (by decide) (by decide) (by decide)) (hfr 60 (by decide) (by decide) (by decide) (by decide)) (hfr 61 (by decide) (by decide) (by decide) (by decide))
  have e : ∀ o, o ≠ 44 → o ≠ 91 → cM A c N o = A o := fun o a b => cM_o a b
  refine ⟨g2, y2, g2.cgm (e 62 (by decide) (by decide)) (e 63 (by decide) (by decide)) (e 64 (by decide) (by decide)) (e 65 (by decide) (by decide)), GW_cg (cM_44 (by decide)) (e 65 (by decide) (by decide)) (e 62 (by decide) (by decide)) (e 61 (by decide) (by decide)) (e 63 (by decide) (by decide)) (e 71 (by decide) (by decide)) hA.1, y2.cgm (e 58 (by decide) (by decide)) (e 59 (by decide) (by decide)) (e 60 (by decide) (by decide)) (e 61 (by decide) (by decide)), h1.cgm (e 69 (by decide) (by decide)) (e 70 (by decide) (by decide)) (e 71 (by decide) (by decide)) (e 72 (by decide) (by decide)) (e 73 (by decide) (by decide)), fun f hf => ?_, hA.2.1.cgm (e 58 (by decide) (by decide)) (e 62 (by decide) (by decide)) (e 65 (by decide) (by decide)) (e 69 (by decide) (by decide)) (e 72 (by decide) (by decide)) (e 73 (by decide) (by decide)) (e 61 (by decide) (by decide)), fun y hy => ?_⟩
  · rw [lo 11 (by decide) (by decide) (by decide), hV f hf]
    exact sVal_cg (I2 := a_u m 44 57 c) (I := cM A c N) (by rw [cM_57, a_u_self]) rfl f
  · rw [show cM A c N 91 y = N y from by show a_ur (a_u A 44 57 c) 91 N 91 y = N y; rw [a_ur_self]]
    exact ⟨h6 y hy, by rw [h5 y hy]; exact sCmp_rng⟩
/-- the comparison has looked at the name k -/
theorem rd_look {T : List aT} {I I2 I3 A : aI} {R R2 : aR} {c : Int32} {mj : aJ} {g k : Nat} {eq : Nat → Nat} {N : Nat → Int32} (hT : aPT T) (hA : InvR A g) (hk : k < 16 * g) (h : RdI T I R c mj eq A k N I2 R2) (e : I3 = a_u (a_ur I2 34 (gvR I2 (cM A c N) mj k 3)) 36 k (sCmp (cM A c N) mj k)) :
    RdI T I R c mj eq A k N I3 R2 ∧ RdI T I R c mj eq A (k + 1) (fun j => if j = k then sCmp (cM A c N) mj k else N j) I3 R2 ∧ (∀ a, a < 3 → I3 34 (3 * k + a) = sGives (cM A c N) mj k a) := by
  obtain ⟨h1, h2, h3, h4, h5, h6⟩ := h
  have hg4 := hA.1.g4
  have h36 : ∀ y, I3 36 y = if y = k then sCmp (cM A c N) mj k else I2 36 y := fun y => by
    rw [e]
    by_cases q : y = k
    · rw [q, a_u_self, if_pos rfl]
    · rw [a_u_ne (fun z => q z.2), if_neg q, a_ur_ne (by decide)]
  have ho : ∀ o, o ≠ 34 → o ≠ 36 → I3 o = I2 o := fun o a b => by rw [e, a_u_row b, a_ur_ne a]
  have hE : CEn T I3 R2 A eq := h1.fr hT (fun o a => ho o (by omega) (by omega))
  refine ⟨⟨hE, fun o a b d => (ho o b d).trans (h2 o a b d), h3, h4, h5, fun y hy => ?_⟩, ⟨hE, fun o a b d => (ho o b d).trans (h2 o a b d), h3, h4, ?_, fun y hy => ?_⟩, fun a ha => ?_⟩
  · rw [h36, if_neg (by omega)]; exact h6 y hy
  · exact NdR.put hg4 hk (SO3_cg (a_u_row (by decide)) hA.1.so) h5
  · rw [h36]
    by_cases q : y = k
    · rw [if_pos q]; exact (if_pos q).symm
    · rw [if_neg q, h6 y (by omega)]; exact (if_neg q).symm
  · rw [e, a_u_row (by decide), a_ur_self]; exact gvR_at ha
theorem Pt57 {A B : aI} {x : Nat} {c : Int32} (h : PtE A B x) : PtE (a_u A 44 57 c) (a_u B 44 57 c) x := ⟨fun o h1 h2 h3 h4 h5 h6 h7 => by rw [a_u_row h1, a_u_row h1]; exact h.1 o h1 h2 h3 h4 h5 h6 h7, by rw [a_u_self, a_u_self], fun z hz => by rw [a_u_row (show 69 ≠ 44 by decide), a_u_row (show 69 ≠ 44 by decide), a_u_row (show 70 ≠ 44 by decide), a_u_row (show 70 ≠ 44 by decide), a_u_row (show 71 ≠ 44 by decide), a_u_row (show 71 ≠ 44 by decide), a_u_row (show 72 ≠ 44 by decide), a_u_row (show 72 ≠ 44 by decide), a_u_row (show 73 ≠ 44 by decide), a_u_row (show 73 ≠ 44 by decide)]; exact h.2.2 z hz⟩
theorem drop_pt {A : aI} {x : Nat} : PtE A (a_u A 69 x 0) x := ⟨fun o h1 h2 h3 h4 h5 h6 h7 => a_u_row h2, by rw [a_u_row (by decide)], fun z hz => ⟨by rw [a_u_ne (fun q => by omega)], by rw [a_u_row (by decide)], by rw [a_u_row (by decide)], fun a ha => ⟨by rw [a_u_row (by decide)], by rw [a_u_row (by decide)]⟩⟩⟩
theorem RdI.drop {T : List aT} {I I2 A : aI} {R R2 : aR} {c : Int32} {mj : aJ} {g k : Nat} {eq : Nat → Nat} {N : Nat → Int32} (hT : aPT T) (hA : InvR A g) (hk : k < 16 * g) (h : RdI T I R c mj eq A k N I2 R2) (hR2 : aPR (a_u R2 25 k none)) : RdI T I R c mj eq (a_u A 69 k 0) k N I2 (a_u R2 25 k none) := by
  obtain ⟨h1, h2, h3, h4, h5, h6⟩ := h
  have hg4 := hA.1.g4
  exact ⟨h1.drop hT, h2, fun o ho => by rw [a_u_row ho]; exact h3 o ho, hR2, NdR.pt (SO3_cg (a_u_row (by decide)) hA.1.so) (by omega) h5 (Pt57 drop_pt), h6⟩
theorem RdI.drf {T : List aT} {I I2 I3 A : aI} {R R2 : aR} {c : Int32} {mj : aJ} {g k : Nat} {eq : Nat → Nat} {N : Nat → Int32} (hT : aPT T) (hA : InvR A g) (hk : k < 16 * g) (h : RdI T I R c mj eq A k N I2 R2) (h0 : A 69 k ≠ 0) (hD : DrI I2 I3 (rdA A c mj g k 3).1 (eq k) k) : RdI T I R c mj eq (rdA A c mj g k 3).1 k N I3 R2 := by
  obtain ⟨h1, h2, h3, h4, h5, h6⟩ := h
  have hg4 := hA.1.g4
  have en := h1.eno (x := k) (by omega) h0
  have h95 := h1.ge hT (x := k) (by omega) h0
  have ho : ∀ o, ¬ enO T o → I3 o = I2 o := fun o a => funext fun p => hD.1 o p (fun q => a (by rw [q]; exact en.2.1)) (fun q => a (by rw [q]; exact en.2.2)) (fun q => a (by rw [q.1]; exact en.1))
  exact ⟨h1.dr (by omega) h0 hD (rdA_fr (by decide) 3) (rdA_fr (by decide) 3) (fun z hz => rdA_ot hz 3 (Nat.le_refl _)), fun o a b d => (ho o a).trans (h2 o a b d), h3, h4, NdR.pt (SO3_cg (a_u_row (by decide)) hA.1.so) (by omega) h5 (Pt57 (rdA_pt 3)), fun y hy => by rw [ho 36 (enO_lo hT (by decide))]; exact h6 y hy⟩
theorem rd_gv {A : aI} {c : Int32} {mj : aJ} {g k : Nat} {N : Nat → Int32} (hA : InvR A g) (hk : k < 16 * g) (h5 : NdR (a_u A 44 57 c) mj N k) {a : Nat} (ha : a < 3) (B : aI) (p : PtE A B k) : gvV B c mj g k a = sGives (cM A c N) mj k a := by
  have q := gv_pt (A := a_u A 44 57 c) (B := a_u B 44 57 c) hA.1.g4 (SO3_cg (a_u_row (by decide)) hA.1.so) hk ha (Pt57 p) h5
  rw [a_u_self] at q
  rw [← q]
  unfold gvV
  rw [show a_u (a_u B 44 57 c) 44 57 c = a_u B 44 57 c from by funext x y; unfold a_u; by_cases e : x = 44 ∧ y = 57; (rw [if_pos e, if_pos e]); (rw [if_neg e, if_neg e])]
theorem rdN_frA {m : aI} {c : Int32} {mj : aJ} {g k : Nat} : ∀ o, o ≠ 69 → o ≠ 70 → o ≠ 72 → o ≠ 73 → (rdN m c mj g k).1 o = m o := fun o h1 h2 h3 h4 => rdN_fr ⟨h1, h2, h3, h4⟩ k
theorem InvV.m57 {m : aI} {g : Nat} {c : Int32} (h : InvV m g) : InvV (a_u m 44 57 c) g := h.cgm (a_u_row (by decide)) (a_u_row (by decide)) (a_u_row (by decide)) (a_u_row (by decide)) (a_u_row (by decide)) (a_u_row (by decide)) (a_u_row (by decide))
theorem a_u_same {α : Type} {f : Nat → Nat → α} {o k : Nat} {v : α} (h : f o k = v) : a_u f o k v = f := by
  funext a b; unfold a_u
  by_cases e : a = o ∧ b = k
  · rw [if_pos e, e.1, e.2]; exact h.symm
  · rw [if_neg e]
set_option maxRecDepth 100000 in
theorem m_X2_readWorld {T : List aT} {I : aI} {J : aJ} {R : aR} (hT : aPT T) (hR : aPR R) {m : aI} {g : Nat} {gq : Nat → Nat} (hG : CGn T I R m g gq) (hinv : InvR m g) (hY : CTy I m) {eq : Nat → Nat} (hE : CEn T I R m eq) {r0 : Nat} (hRs : CRs I m r0) (hs : I 19 8 = m 44 35) {c : Int32} {mj : aJ} (hV : ∀ f, f < 10 → I 11 f = sVal (a_u m 44 57 c) mj f) : MX2_readWorld 0 0 [.ref 33] T I J R (aRelT (fun v T2 I2 J2 R2 => T2 = T ∧ J2 = J ∧ v = some (.int (nI (100 * (rdN m c mj g (16 * g)).2.1 + (rdN m c mj g (16 * g)).2.2))) ∧ ∃ N I3, RdI T I R c mj eq (rdN m c mj g (16 * g)).1 (16 * g) N I3 R2 ∧ I2 = a_u I3 19 8 (m 44 35 + (if 0 < (rdN m c mj g (16 * g)).2.1 + (rdN m c mj g (16 * g)).2.2 then 1 else 0)))) := by
  refine a_met (by decide +kernel) a_le (fun X hC hq => ?_)
  show AW X 0 0 0 [some (.ref 33), none, none, none, none] [] T I J R
  refine aw_iconst (v := 0) hC dX2_readWorld_0 (by decide) ?_
  refine aw_istore_n (L2 := [some (.ref 33), some (.int 0), none, none, none]) hC dX2_readWorld_1 rfl (by decide) rfl ?_
  refine aw_iconst (v := 0) hC dX2_readWorld_2 (by decide) ?_
  refine aw_istore_n (L2 := [some (.ref 33), some (.int 0), some (.int 0), none, none]) hC dX2_readWorld_3 rfl (by decide) rfl ?_
  refine aw_iconst (v := 0) hC dX2_readWorld_4 (by decide) ?_
  refine aw_istore_n (L2 := [some (.ref 33), some (.int 0), some (.int 0), some (.int 0), none]) hC dX2_readWorld_5 rfl (by decide) rfl ?_
  have loop : ∀ k, k ≤ 16 * g → ∀ (N : Nat → Int32) (I2 : aI) (R2 : aR), RdI T I R c mj eq (rdN m c mj g k).1 k N I2 R2 → AW X 0 0 6 [some (.ref 33), some (.int (nI (rdN m c mj g k).2.1)), some (.int (nI (rdN m c mj g k).2.2)), some (.int (nI k)), none] [] T I2 J R2 := by
    refine a_down (16 * g) (fun k hk_k ih_k => ?_)
    intro N I2 R2 hI2
    have hg4 := hinv.1.g4
    have hR2 := hI2.2.2.2.1
    have hc9 := rdN_c m c mj g k
    have hIA : InvR (rdN m c mj g k).1 g := hinv.qN k hk_k
    have hpk := rd_pre hT hG hY hV hIA rdN_frA hI2
    have hgn : I2 19 2 = nI g := by rw [hI2.2.1 19 (enO_lo hT (by decide)) (by decide) (by decide)]; exact hG.cnt
    have hs35 : I2 19 8 = m 44 35 := by rw [hI2.2.1 19 (enO_lo hT (by decide)) (by decide) (by decide)]; exact hs
    refine aw_iload_n hC dX2_readWorld_6 rfl ?_
    refine aw_aload_n hC dX2_readWorld_7 rfl ?_
    refine aw_getR hC dX2_readWorld_8 aF_X2_28 rfl (tg_33 hT) (pr_33_3 hR2) ?_
    refine kX2_32 hC rfl (m_X4_names (I := I2) hT hR2 (g := g) hgn) dX2_readWorld_11 (tg_19 hT) rfl a_le a_le a_le a_le a_le rfl aPure_x (aPure_k ?_)
    show AW X 0 0 14 [some (.ref 33), some (.int (nI (rdN m c mj g k).2.1)), some (.int (nI (rdN m c mj g k).2.2)), some (.int (nI k)), none] [.int (nI (16 * g)), .int (nI k)] T I2 J R2
    refine aw_icmp_ge (tgt := 94) hC dX2_readWorld_14 (by decide) (fun h1 => ?_) (fun h1 => ?_)
    · show AW X 0 0 94 [some (.ref 33), some (.int (nI (rdN m c mj g k).2.1)), some (.int (nI (rdN m c mj g k).2.2)), some (.int (nI k)), none] [] T I2 J R2
      have h1n : (16 * g) ≤ k := (nI_leI (a := (16 * g)) (b := k) (by omega) (by omega)).mp h1
      refine aw_iload_n hC dX2_readWorld_94 rfl ?_
      refine aw_iload_n hC dX2_readWorld_95 rfl ?_
      refine aw_iadd hC dX2_readWorld_96 ?_
      rw [show (nI (rdN m c mj g k).2.1) + (nI (rdN m c mj g k).2.2) = nI (((rdN m c mj g k).2.1) + ((rdN m c mj g k).2.2)) from nI_add ((rdN m c mj g k).2.1) ((rdN m c mj g k).2.2)]
      refine aw_if_le (tgt := 113) hC dX2_readWorld_97 (by decide) (fun h2 => ?_) (fun h2 => ?_)
      · show AW X 0 0 113 [some (.ref 33), some (.int (nI (rdN m c mj g k).2.1)), some (.int (nI (rdN m c mj g k).2.2)), some (.int (nI k)), none] [] T I2 J R2
        have h2n : (((rdN m c mj g k).2.1) + ((rdN m c mj g k).2.2)) ≤ 0 := (nI_leI (a := (((rdN m c mj g k).2.1) + ((rdN m c mj g k).2.2))) (b := 0) (by omega) (by omega)).mp h2
        refine aw_bipush (v := 100) hC dX2_readWorld_113 (by decide) ?_
        refine aw_iload_n hC dX2_readWorld_115 rfl ?_
        refine aw_imul hC dX2_readWorld_116 ?_
        rw [show 100 * (nI (rdN m c mj g k).2.1) = nI (100 * ((rdN m c mj g k).2.1)) from pk_mul 100 ((rdN m c mj g k).2.1)]
        refine aw_iload_n hC dX2_readWorld_117 rfl ?_
        refine aw_iadd hC dX2_readWorld_118 ?_
        rw [show (nI (100 * ((rdN m c mj g k).2.1))) + (nI (rdN m c mj g k).2.2) = nI ((100 * ((rdN m c mj g k).2.1)) + ((rdN m c mj g k).2.2)) from nI_add (100 * ((rdN m c mj g k).2.1)) ((rdN m c mj g k).2.2)]
        exact aw_ireturn hC hq rfl dX2_readWorld_119 a_le a_le (by have e9 : k = 16 * g := (by omega); rw [e9] at hI2 ⊢; exact ⟨_, rfl, rfl, rfl, rfl, N, I2, hI2, (a_u_same (by rw [hs35, if_neg (by rw [← e9]; omega), Int32.add_zero])).symm⟩)
      · show AW X 0 0 100 [some (.ref 33), some (.int (nI (rdN m c mj g k).2.1)), some (.int (nI (rdN m c mj g k).2.2)), some (.int (nI k)), none] [] T I2 J R2
        have h2n : ¬ (((rdN m c mj g k).2.1) + ((rdN m c mj g k).2.2)) ≤ 0 := fun q9 => h2 ((nI_leI (a := (((rdN m c mj g k).2.1) + ((rdN m c mj g k).2.2))) (b := 0) (by omega) (by omega)).mpr q9)
        refine aw_aload_n hC dX2_readWorld_100 rfl ?_
        refine aw_getR hC dX2_readWorld_101 aF_X2_28 rfl (tg_33 hT) (pr_33_3 hR2) ?_
        refine aw_dup hC dX2_readWorld_104 rfl ?_
        refine aw_getI hC dX2_readWorld_105 aF_X2_198 rfl (tg_19 hT) ?_
        rw [hs35]
        refine aw_iconst (v := 1) hC dX2_readWorld_108 (by decide) ?_
        refine aw_iadd hC dX2_readWorld_109 ?_
        refine aw_putI hC dX2_readWorld_110 aF_X2_198 rfl rfl (tg_19 hT) ?_
        refine aw_bipush (v := 100) hC dX2_readWorld_113 (by decide) ?_
        refine aw_iload_n hC dX2_readWorld_115 rfl ?_
        refine aw_imul hC dX2_readWorld_116 ?_
        rw [show 100 * (nI (rdN m c mj g k).2.1) = nI (100 * ((rdN m c mj g k).2.1)) from pk_mul 100 ((rdN m c mj g k).2.1)]
        refine aw_iload_n hC dX2_readWorld_117 rfl ?_
        refine aw_iadd hC dX2_readWorld_118 ?_
        rw [show (nI (100 * ((rdN m c mj g k).2.1))) + (nI (rdN m c mj g k).2.2) = nI ((100 * ((rdN m c mj g k).2.1)) + ((rdN m c mj g k).2.2)) from nI_add (100 * ((rdN m c mj g k).2.1)) ((rdN m c mj g k).2.2)]
        exact aw_ireturn hC hq rfl dX2_readWorld_119 a_le a_le (by have e9 : k = 16 * g := (by omega); rw [e9] at hI2 ⊢; exact ⟨_, rfl, rfl, rfl, rfl, N, I2, hI2, by rw [if_pos (by rw [← e9]; omega)]⟩)
    · show AW X 0 0 17 [some (.ref 33), some (.int (nI (rdN m c mj g k).2.1)), some (.int (nI (rdN m c mj g k).2.2)), some (.int (nI k)), none] [] T I2 J R2
      have h1n : ¬ (16 * g) ≤ k := fun q9 => h1 ((nI_leI (a := (16 * g)) (b := k) (by omega) (by omega)).mpr q9)
      refine aw_aload_n hC dX2_readWorld_17 rfl ?_
      refine aw_getR hC dX2_readWorld_18 aF_X2_28 rfl (tg_33 hT) (pr_33_3 hR2) ?_
      refine aw_getR hC dX2_readWorld_21 aF_X2_65 rfl (tg_19 hT) (pr_19_7 hR2) ?_
      refine aw_iload_n hC dX2_readWorld_24 rfl ?_
      by_cases h69 : (rdN m c mj g k).1 69 k = 0
      · refine aw_aaloadN_k (j := k) hC dX2_readWorld_25 (tg_25 hT) (nI_clamp (by omega)) (vp_in_nI (by omega) (by decide)) (hI2.1.no (by omega) h69) ?_
        refine aw_astoreN (L2 := [some (.ref 33), some (.int (nI (rdN m c mj g k).2.1)), some (.int (nI (rdN m c mj g k).2.2)), some (.int (nI k)), some (.null)]) hC dX2_readWorld_26 (by decide) rfl ?_
        refine aw_aload_n hC dX2_readWorld_28 rfl ?_
        refine aw_iload_n hC dX2_readWorld_29 rfl ?_
        refine kX2_38 hC rfl (m_X2_lookAt (I := I2) (m := cM ((rdN m c mj g k).1) c N) hT hR2 hpk.2.2.1 hpk.2.2.2.1 hpk.2.2.2.2.1 hpk.2.2.2.2.2.1 hpk.2.2.2.2.2.2.1 hpk.2.2.2.2.2.2.2.1 (x := k) (by omega) (fun y hy => hpk.2.2.2.2.2.2.2.2 y (by omega))) dX2_readWorld_30 (tg_33 hT) rfl a_le a_le a_le a_le a_le rfl aPure_x (aPure_k ?_)
        obtain ⟨I3, hI3⟩ : ∃ I3, I3 = a_u (a_ur I2 34 (gvR I2 (cM ((rdN m c mj g k).1) c N) mj k 3)) 36 k (sCmp (cM ((rdN m c mj g k).1) c N) mj k) := ⟨_, rfl⟩
        rw [← hI3]
        have hI3 := rd_look hT hIA (by omega) hI2 hI3
        show AW X 0 0 33 [some (.ref 33), some (.int (nI (rdN m c mj g k).2.1)), some (.int (nI (rdN m c mj g k).2.2)), some (.int (nI k)), some (.null)] [] T I3 J R2
        refine aw_aloadN hC dX2_readWorld_33 rfl ?_
        refine aw_ifnonnullN hC dX2_readWorld_35 ?_
        refine aw_goto (tgt := 88) hC dX2_readWorld_38 (by decide) ?_
        refine aw_iinc (v := nI (k + 1)) (L2 := [some (.ref 33), some (.int (nI (rdN m c mj g k).2.1)), some (.int (nI (rdN m c mj g k).2.2)), some (.int (nI (k + 1))), some (.null)]) hC dX2_readWorld_88 rfl (nI_inc _) (by decide) rfl ?_
        refine aw_goto (tgt := 6) hC dX2_readWorld_91 (by decide) ?_
        refine aw_forget 4 (L2 := [some (.ref 33), some (.int (nI (rdN m c mj g k).2.1)), some (.int (nI (rdN m c mj g k).2.2)), some (.int (nI (k + 1))), none]) rfl ?_
        have hX := rdX_0 (c := c) (mj := mj) (g := g) (show iN (rdN m c mj g k).1 69 k = 0 from by unfold iN; rw [h69]; rfl)
        have hN1 : rdN m c mj g (k + 1) = ((rdN m c mj g k).1, (rdN m c mj g k).2.1, (rdN m c mj g k).2.2) := by simp only [rdN, hX, Nat.add_zero]
        have h9 := @ih_k (by omega)
        rw [hN1] at h9
        exact h9 _ _ _ hI3.2.1
      · refine aw_aaloadR_k (j := k) hC dX2_readWorld_25 (tg_25 hT) (nI_clamp (by omega)) (vp_in_nI (by omega) (by decide)) (hI2.1.rf (by omega) h69) ?_
        obtain ⟨r, hr1, hr2, hr3, hr4⟩ := hIA.2.2.1.re (by omega) h69
        refine aw_astore (L2 := [some (.ref 33), some (.int (nI (rdN m c mj g k).2.1)), some (.int (nI (rdN m c mj g k).2.2)), some (.int (nI k)), some (.ref (eq k))]) hC dX2_readWorld_26 (by decide) rfl ?_
        refine aw_aload_n hC dX2_readWorld_28 rfl ?_
        refine aw_iload_n hC dX2_readWorld_29 rfl ?_
        refine kX2_38 hC rfl (m_X2_lookAt (I := I2) (m := cM ((rdN m c mj g k).1) c N) hT hR2 hpk.2.2.1 hpk.2.2.2.1 hpk.2.2.2.2.1 hpk.2.2.2.2.2.1 hpk.2.2.2.2.2.2.1 hpk.2.2.2.2.2.2.2.1 (x := k) (by omega) (fun y hy => hpk.2.2.2.2.2.2.2.2 y (by omega))) dX2_readWorld_30 (tg_33 hT) rfl a_le a_le a_le a_le a_le rfl aPure_x (aPure_k ?_)
        obtain ⟨I3, hI3⟩ : ∃ I3, I3 = a_u (a_ur I2 34 (gvR I2 (cM ((rdN m c mj g k).1) c N) mj k 3)) 36 k (sCmp (cM ((rdN m c mj g k).1) c N) mj k) := ⟨_, rfl⟩
        rw [← hI3]
        have hI3 := rd_look hT hIA (by omega) hI2 hI3
        have hE3 : CEn T I3 R2 (rdN m c mj g k).1 eq := hI3.1.1
        have hrs3 : I3 (eq k) 0 = nI r := by rw [hE3.rs (by omega) h69, hr1]; exact nI_p1 _
        have h243 : I3 24 r = m 68 r := by rw [hI3.1.2.1 24 (enO_lo hT (by decide)) (by decide) (by decide)]; exact hRs.gn hr3
        show AW X 0 0 33 [some (.ref 33), some (.int (nI (rdN m c mj g k).2.1)), some (.int (nI (rdN m c mj g k).2.2)), some (.int (nI k)), some (.ref (eq k))] [] T I3 J R2
        refine aw_aload hC dX2_readWorld_33 rfl ?_
        refine aw_ifnonnull (tgt := 41) hC dX2_readWorld_35 (by decide) ?_
        refine aw_aload_n hC dX2_readWorld_41 rfl ?_
        refine aw_getR hC dX2_readWorld_42 aF_X2_28 rfl (tg_33 hT) (pr_33_3 hR2) ?_
        refine aw_getR hC dX2_readWorld_45 aF_X2_187 rfl (tg_19 hT) (pr_19_5 hR2) ?_
        refine aw_aload hC dX2_readWorld_48 rfl ?_
        refine aw_getI hC dX2_readWorld_50 aF_X2_191 rfl (hE3.tg (by omega) h69) ?_
        rw [hrs3]
        refine aw_baload_k (j := r) hC dX2_readWorld_53 (tg_24 hT) (nI_clamp (by omega)) (vp_in_nI (by omega) (by decide)) ?_
        rw [h243]
        refine aw_if_eq (tgt := 73) hC dX2_readWorld_54 (by decide) (fun h3 => ?_) (fun h3 => ?_)
        · show AW X 0 0 73 [some (.ref 33), some (.int (nI (rdN m c mj g k).2.1)), some (.int (nI (rdN m c mj g k).2.2)), some (.int (nI k)), some (.ref (eq k))] [] T I3 J R2
          have hpk3 := rd_pre hT hG hY hV hIA rdN_frA hI3.1
          refine aw_iload_n hC dX2_readWorld_73 rfl ?_
          refine aw_aload_n hC dX2_readWorld_74 rfl ?_
          refine aw_iload_n hC dX2_readWorld_75 rfl ?_
          refine aw_aload hC dX2_readWorld_76 rfl ?_
          refine kX2_194 hC rfl (m_X2_followDrift (I := I3) (m := (rdN m c mj g k).1) hT hR2 hpk3.1 hIA.1 hpk3.2.1 hE3 (x := k) (by omega) (c := c) (mj := mj) h69 hr2 hrs3 hr3 (fun a ha => by rw [hI3.1.2.1 23 (enO_lo hT (by decide)) (by decide) (by decide), rdN_frA 67 (by decide) (by decide) (by decide) (by decide)]; exact hRs.vl hr3 (by assumption) ha) (gv := fun a => sGives (cM (rdN m c mj g k).1 c N) mj k a) hI3.2.2 (fun a ha B p => rd_gv hIA (by omega) hI2.2.2.2.2.1 ha B p) (fun a ha => sg_pos (hpk3.2.2.2.1) (by omega) ha (hIA.2.2.1.m57.m91)) (fun q => (hIA.2.2.2 k (by omega)).2 (by omega) q)) dX2_readWorld_78 (tg_33 hT) rfl a_le a_le a_le a_le a_le rfl aRelV_x (aRelV_k (fun v9 I4 J9 hQ => ?_))
          obtain ⟨ev9, eJ9, hDr⟩ := hQ
          rw [ev9, eJ9]
          show AW X 0 0 81 [some (.ref 33), some (.int (nI (rdN m c mj g k).2.1)), some (.int (nI (rdN m c mj g k).2.2)), some (.int (nI k)), some (.ref (eq k))] [.int (nI (rdA (rdN m c mj g k).1 c mj g k 3).2), .int (nI (rdN m c mj g k).2.2)] T I4 J R2
          refine aw_iadd hC dX2_readWorld_81 ?_
          rw [show (nI (rdN m c mj g k).2.2) + (nI (rdA (rdN m c mj g k).1 c mj g k 3).2) = nI (((rdN m c mj g k).2.2) + ((rdA (rdN m c mj g k).1 c mj g k 3).2)) from nI_add ((rdN m c mj g k).2.2) ((rdA (rdN m c mj g k).1 c mj g k 3).2)]
          refine aw_istore_n (L2 := [some (.ref 33), some (.int (nI (rdN m c mj g k).2.1)), some (.int (nI (((rdN m c mj g k).2.2) + ((rdA (rdN m c mj g k).1 c mj g k 3).2)))), some (.int (nI k)), some (.ref (eq k))]) hC dX2_readWorld_82 rfl (by decide) rfl ?_
          have hI4 : RdI T I R c mj eq ((rdA (rdN m c mj g k).1 c mj g k 3).1) k N I4 R2 := RdI.drf hT hIA (by omega) hI3.1 h69 hDr
          have hIA4 : InvR ((rdA (rdN m c mj g k).1 c mj g k 3).1) g := hIA.qA (by omega) hr1 hr3 hr4 (by rw [rdN_frA 68 (by decide) (by decide) (by decide) (by decide)]; assumption) 3 (Nat.le_refl _)
          have hpk4 := rd_pre hT hG hY hV hIA4 (fun o h1 h2 h3 h4 => by rw [rdA_fr ⟨h2, h3, h4⟩]; exact rdN_frA o h1 h2 h3 h4) hI4
          refine aw_aload_n hC dX2_readWorld_83 rfl ?_
          refine aw_iload_n hC dX2_readWorld_84 rfl ?_
          refine kX2_38 hC rfl (m_X2_lookAt (I := I4) (m := cM ((rdA (rdN m c mj g k).1 c mj g k 3).1) c N) hT hR2 hpk4.2.2.1 hpk4.2.2.2.1 hpk4.2.2.2.2.1 hpk4.2.2.2.2.2.1 hpk4.2.2.2.2.2.2.1 hpk4.2.2.2.2.2.2.2.1 (x := k) (by omega) (fun y hy => hpk4.2.2.2.2.2.2.2.2 y (by omega))) dX2_readWorld_85 (tg_33 hT) rfl a_le a_le a_le a_le a_le rfl aPure_x (aPure_k ?_)
          obtain ⟨I5, hI5⟩ : ∃ I5, I5 = a_u (a_ur I4 34 (gvR I4 (cM ((rdA (rdN m c mj g k).1 c mj g k 3).1) c N) mj k 3)) 36 k (sCmp (cM ((rdA (rdN m c mj g k).1 c mj g k 3).1) c N) mj k) := ⟨_, rfl⟩
          rw [← hI5]
          have hI5 := rd_look hT hIA4 (by omega) hI4 hI5
          show AW X 0 0 88 [some (.ref 33), some (.int (nI (rdN m c mj g k).2.1)), some (.int (nI (((rdN m c mj g k).2.2) + ((rdA (rdN m c mj g k).1 c mj g k 3).2)))), some (.int (nI k)), some (.ref (eq k))] [] T I5 J R2
          refine aw_iinc (v := nI (k + 1)) (L2 := [some (.ref 33), some (.int (nI (rdN m c mj g k).2.1)), some (.int (nI (((rdN m c mj g k).2.2) + ((rdA (rdN m c mj g k).1 c mj g k 3).2)))), some (.int (nI (k + 1))), some (.ref (eq k))]) hC dX2_readWorld_88 rfl (nI_inc _) (by decide) rfl ?_
          refine aw_goto (tgt := 6) hC dX2_readWorld_91 (by decide) ?_
          refine aw_forget 4 (L2 := [some (.ref 33), some (.int (nI (rdN m c mj g k).2.1)), some (.int (nI (((rdN m c mj g k).2.2) + ((rdA (rdN m c mj g k).1 c mj g k 3).2)))), some (.int (nI (k + 1))), none]) rfl ?_
          have hX := rdX_2 (c := c) (mj := mj) (g := g) hr2 (show (rdN m c mj g k).1 68 r = 0 from by rw [rdN_frA 68 (by decide) (by decide) (by decide) (by decide)]; assumption)
          have hN1 : rdN m c mj g (k + 1) = ((rdA (rdN m c mj g k).1 c mj g k 3).1, (rdN m c mj g k).2.1, (rdN m c mj g k).2.2 + (rdA (rdN m c mj g k).1 c mj g k 3).2) := by simp only [rdN, hX, Nat.add_zero]
          have h9 := @ih_k (by omega)
          rw [hN1] at h9
          exact h9 _ _ _ hI5.2.1
        · show AW X 0 0 57 [some (.ref 33), some (.int (nI (rdN m c mj g k).2.1)), some (.int (nI (rdN m c mj g k).2.2)), some (.int (nI k)), some (.ref (eq k))] [] T I3 J R2
          refine aw_aload_n hC dX2_readWorld_57 rfl ?_
          refine aw_getR hC dX2_readWorld_58 aF_X2_28 rfl (tg_33 hT) (pr_33_3 hR2) ?_
          refine aw_getR hC dX2_readWorld_61 aF_X2_65 rfl (tg_19 hT) (pr_19_7 hR2) ?_
          refine aw_iload_n hC dX2_readWorld_64 rfl ?_
          refine aw_null hC dX2_readWorld_65 ?_
          refine aw_aastoreN_k (j := k) hC dX2_readWorld_66 (tg_25 hT) (nI_clamp (by omega)) (vp_in_nI (by omega) (by decide)) ?_
          have hR4 : aPR (a_u R2 25 k none) := hR2.put (fun q9 h9 e9 => by have := a_refs_no25 q9 h9; omega)
          refine aw_iinc (v := nI ((rdN m c mj g k).2.1 + 1)) (L2 := [some (.ref 33), some (.int (nI ((rdN m c mj g k).2.1 + 1))), some (.int (nI (rdN m c mj g k).2.2)), some (.int (nI k)), some (.ref (eq k))]) hC dX2_readWorld_67 rfl (nI_inc _) (by decide) rfl ?_
          refine aw_goto (tgt := 83) hC dX2_readWorld_70 (by decide) ?_
          have hI4 : RdI T I R c mj eq (a_u (rdN m c mj g k).1 69 k 0) k N I3 (a_u R2 25 k none) := RdI.drop hT hIA (by omega) hI3.1 hR4
          have hIA4 := hIA.drop (x := k)
          have hpk4 := rd_pre hT hG hY hV hIA4 (fun o h1 h2 h3 h4 => by rw [a_u_row h1]; exact rdN_frA o h1 h2 h3 h4) hI4
          refine aw_aload_n hC dX2_readWorld_83 rfl ?_
          refine aw_iload_n hC dX2_readWorld_84 rfl ?_
          refine kX2_38 hC rfl (m_X2_lookAt (I := I3) (m := cM (a_u (rdN m c mj g k).1 69 k 0) c N) hT hR4 hpk4.2.2.1 hpk4.2.2.2.1 hpk4.2.2.2.2.1 hpk4.2.2.2.2.2.1 hpk4.2.2.2.2.2.2.1 hpk4.2.2.2.2.2.2.2.1 (x := k) (by omega) (fun y hy => hpk4.2.2.2.2.2.2.2.2 y (by omega))) dX2_readWorld_85 (tg_33 hT) rfl a_le a_le a_le a_le a_le rfl aPure_x (aPure_k ?_)
          obtain ⟨I5, hI5⟩ : ∃ I5, I5 = a_u (a_ur I3 34 (gvR I3 (cM (a_u (rdN m c mj g k).1 69 k 0) c N) mj k 3)) 36 k (sCmp (cM (a_u (rdN m c mj g k).1 69 k 0) c N) mj k) := ⟨_, rfl⟩
          rw [← hI5]
          have hI5 := rd_look hT hIA4 (by omega) hI4 hI5
          show AW X 0 0 88 [some (.ref 33), some (.int (nI ((rdN m c mj g k).2.1 + 1))), some (.int (nI (rdN m c mj g k).2.2)), some (.int (nI k)), some (.ref (eq k))] [] T I5 J (a_u R2 25 k none)
          refine aw_iinc (v := nI (k + 1)) (L2 := [some (.ref 33), some (.int (nI ((rdN m c mj g k).2.1 + 1))), some (.int (nI (rdN m c mj g k).2.2)), some (.int (nI (k + 1))), some (.ref (eq k))]) hC dX2_readWorld_88 rfl (nI_inc _) (by decide) rfl ?_
          refine aw_goto (tgt := 6) hC dX2_readWorld_91 (by decide) ?_
          refine aw_forget 4 (L2 := [some (.ref 33), some (.int (nI ((rdN m c mj g k).2.1 + 1))), some (.int (nI (rdN m c mj g k).2.2)), some (.int (nI (k + 1))), none]) rfl ?_
          have hX := rdX_1 (c := c) (mj := mj) (g := g) hr2 (show (rdN m c mj g k).1 68 r ≠ 0 from by rw [rdN_frA 68 (by decide) (by decide) (by decide) (by decide)]; assumption)
          have hN1 : rdN m c mj g (k + 1) = (a_u (rdN m c mj g k).1 69 k 0, (rdN m c mj g k).2.1 + 1, (rdN m c mj g k).2.2) := by simp only [rdN, hX, Nat.add_zero]
          have h9 := @ih_k (by omega)
          rw [hN1] at h9
          exact h9 _ _ _ hI5.2.1
  exact loop 0 (Nat.zero_le _) (fun _ => 0) I R ⟨hE, fun _ _ _ _ => rfl, fun _ _ => rfl, hR, fun y hy => absurd hy (by omega), fun y hy => absurd hy (by omega)⟩
