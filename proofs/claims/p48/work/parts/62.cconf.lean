abbrev NN (m : aI) (P : Nat → Int64) (n : Nat) : aI := a_ur m 93 (mayR m P n)
theorem nmay {m : aI} {P : Nat → Int64} {n s : Nat} (hs : s < n) : NN m P n 93 s ≠ 0 ↔ m 45 s ≠ 4 ∧ cOn m P s := by
  show a_ur m 93 (mayR m P n) 93 s ≠ 0 ↔ _
  rw [a_ur_self]; simp only [mayR]; rw [if_pos hs, Ne, bI_n0, Bool.and_eq_true, decide_eq_true_iff, decide_eq_true_iff]
theorem cflN {m : aI} {P : Nat → Int64} {n : Nat} {q : Nat → Bool} : cfl (NN m P n) n q = cfl m n q := cfl_cg (a_ur_ne (by decide)) (a_ur_ne (by decide)) (a_ur_ne (by decide)) (a_ur_ne (by decide))
theorem cfl_q {m : aI} {n : Nat} {q q' : Nat → Bool} (e : ∀ s, s < n → q s = q' s) : cfl m n q = cfl m n q' := by
  refine Bool.eq_iff_iff.mpr ?_
  rw [cfl_iff, cfl_iff]
  constructor
  · rintro ⟨S, h, g⟩
    exact ⟨S, FixA_q (fun s hs z => Or.inl (by rw [e s hs]; exact z)) (fun s hs z => by rw [← e s hs]; exact z) h, g⟩
  · rintro ⟨S, h, g⟩
    exact ⟨S, FixA_q (fun s hs z => Or.inl (by rw [← e s hs]; exact z)) (fun s hs z => by rw [e s hs]; exact z) h, g⟩
theorem nI_m1 {s : Nat} (h : s < 30) : ¬ nI s = -1 := fun q => by have := nI_pos' (n := s) (by omega); rw [q] at this; exact absurd this (by decide)
theorem al1 {s a : Nat} (hs : s < 30) (ha : a < 30) : al (-1) (-1) (nI a) s = q3 a a a s := by
  have e : (nI s = nI a) = (s = a) := propext (nI_eq (by omega) (by omega))
  simp only [al, q3, nI_m1 hs, e]; simp
theorem al2 {s a b : Nat} (hs : s < 30) (ha : a < 30) (hb : b < 30) : al (-1) (nI b) (nI a) s = q3 b a a s := by
  have e : (nI s = nI a) = (s = a) := propext (nI_eq (by omega) (by omega))
  have f : (nI s = nI b) = (s = b) := propext (nI_eq (by omega) (by omega))
  simp only [al, q3, nI_m1 hs, e, f]; simp
theorem al3 {s a b c : Nat} (hs : s < 30) (ha : a < 30) (hb : b < 30) (hc : c < 30) : al (nI a) (nI b) (nI c) s = q3 a b c s := by
  have e : (nI s = nI a) = (s = a) := propext (nI_eq (by omega) (by omega))
  have f : (nI s = nI b) = (s = b) := propext (nI_eq (by omega) (by omega))
  have g : (nI s = nI c) = (s = c) := propext (nI_eq (by omega) (by omega))
  simp only [al, q3, e, f, g]
theorem FS_0 {m : aI} {n : Nat} : FS m n (fun _ => false) := ⟨full, ⟨SLe_r _, fun s hs h => by (cases h), fun T hT _ => hT⟩, anyB_f.mpr (fun j hj => by
  have e : full j = -1 := if_pos hj
  rw [e]; rfl)⟩
theorem FS_4 {m : aI} {n a : Nat} (h : m 45 a = 4) : FS m n (q3 a a a) := FS_0.cg (fun s hs hq => Or.inr (by
  rcases q3_iff.mp hq with e | e | e <;> rw [e] <;> exact nBy_4 h)) (fun s hs hq => by (cases hq))
theorem lf1_z {m : aI} {P : Nat → Int64} {n s : Nat} (hn : n ≤ 30) (hs : s < n) (h : cOn m P s → FS m n (q3 s s s)) : lf1 (NN m P n) n s = 0 := if_neg (fun q => by
  have c := ((nmay hs).mp q.1).2
  have z := q.2
  rw [cflN, cfl_q (fun t ht => al1 (by omega) (by omega)), (h c).no] at z
  cases z)
theorem lf2_z {m : aI} {P : Nat → Int64} {n a b : Nat} (hn : n ≤ 30) (ha : a < n) (hb : b < n) (h : cOn m P a → cOn m P b → FS m n (q3 b a a)) : lf2 (NN m P n) n a b = 0 := if_neg (fun q => by
  have c := ((nmay ha).mp q.1.1).2
  have d := ((nmay hb).mp q.1.2).2
  have z := q.2
  rw [cflN, cfl_q (fun t ht => al2 (by omega) (by omega) (by omega)), (h c d).no] at z
  cases z)
theorem lf3_z {m : aI} {P : Nat → Int64} {n a b c : Nat} (hn : n ≤ 30) (ha : a < n) (hb : b < n) (hc : c < n) (h : cOn m P a → cOn m P b → cOn m P c → FS m n (q3 a b c)) : lf3 (NN m P n) n c b a = 0 := if_neg (fun q => by
  have u := ((nmay hc).mp q.1.1).2
  have v := ((nmay hb).mp q.1.2.1).2
  have w := ((nmay ha).mp q.1.2.2).2
  have z := q.2
  rw [cflN, cfl_q (fun t ht => al3 (by omega) (by omega) (by omega) (by omega)), (h w v u).no] at z
  cases z)
theorem cfl_FS {m : aI} {n : Nat} {q : Nat → Bool} (h : cfl m n q = true) (g : FS m n q) : False := by rw [g.no] at h; cases h
theorem lf1_h {m : aI} {P : Nat → Int64} {n s : Nat} (hn : n ≤ 30) (hs : s < n) (hc : cOn m P s) (h : cfl m n (q3 s s s) = true) : lf1 (NN m P n) n s = (iBit (nI s) ||| 0) ||| 0 := if_pos ⟨(nmay hs).mpr ⟨fun k => cfl_FS h (FS_4 k), hc⟩, by
  rw [cflN, cfl_q (fun t ht => al1 (by omega) (by omega))]; exact h⟩
theorem lf2_h {m : aI} {P : Nat → Int64} {n a b : Nat} (hn : n ≤ 30) (ha : a < n) (hb : b < n) (hca : cOn m P a) (hcb : cOn m P b) (ga : FS m n (q3 a a a)) (gb : FS m n (q3 b b b)) (h : cfl m n (q3 b a a) = true) : lf2 (NN m P n) n a b = (iBit (nI a) ||| iBit (nI b)) ||| 0 := if_pos ⟨⟨(nmay ha).mpr ⟨fun k => cfl_FS h (gb.cg (fun s hs hq => by
    rcases q3_iff.mp hq with e | e | e
    · exact Or.inl (q3_iff.mpr (Or.inl e))
    · exact Or.inr (by rw [e]; exact nBy_4 k)
    · exact Or.inr (by rw [e]; exact nBy_4 k)) (fun s hs hq => q3_iff.mpr (Or.inl (by rcases q3_iff.mp hq with e | e | e <;> exact e)))), hca⟩, (nmay hb).mpr ⟨fun k => cfl_FS h (ga.cg (fun s hs hq => by
    rcases q3_iff.mp hq with e | e | e
    · exact Or.inr (by rw [e]; exact nBy_4 k)
    · exact Or.inl (q3_iff.mpr (Or.inl e))
    · exact Or.inl (q3_iff.mpr (Or.inl e))) (fun s hs hq => q3_iff.mpr (Or.inr (Or.inl (by rcases q3_iff.mp hq with e | e | e <;> exact e))))), hcb⟩⟩, by
  rw [cflN, cfl_q (fun t ht => al2 (by omega) (by omega) (by omega))]; exact h⟩
theorem lf3_h {m : aI} {P : Nat → Int64} {n a b c : Nat} (hn : n ≤ 30) (ha : a < n) (hb : b < n) (hc : c < n) (hca : cOn m P a) (hcb : cOn m P b) (hcc : cOn m P c) (gab : FS m n (q3 a b b)) (gac : FS m n (q3 a c c)) (gbc : FS m n (q3 b c c)) (h : cfl m n (q3 a b c) = true) : lf3 (NN m P n) n c b a = (iBit (nI c) ||| iBit (nI b)) ||| iBit (nI a) := if_pos ⟨⟨(nmay hc).mpr ⟨fun k => cfl_FS h (gab.cg (fun s hs hq => by
    rcases q3_iff.mp hq with e | e | e
    · exact Or.inl (q3_iff.mpr (Or.inl e))
    · exact Or.inl (q3_iff.mpr (Or.inr (Or.inl e)))
    · exact Or.inr (by rw [e]; exact nBy_4 k)) (fun s hs hq => q3_iff.mpr (by rcases q3_iff.mp hq with e | e | e <;> simp [e]))), hcc⟩, (nmay hb).mpr ⟨fun k => cfl_FS h (gac.cg (fun s hs hq => by
    rcases q3_iff.mp hq with e | e | e
    · exact Or.inl (q3_iff.mpr (Or.inl e))
    · exact Or.inr (by rw [e]; exact nBy_4 k)
    · exact Or.inl (q3_iff.mpr (Or.inr (Or.inl e)))) (fun s hs hq => q3_iff.mpr (by rcases q3_iff.mp hq with e | e | e <;> simp [e]))), hcb⟩, (nmay ha).mpr ⟨fun k => cfl_FS h (gbc.cg (fun s hs hq => by
    rcases q3_iff.mp hq with e | e | e
    · exact Or.inr (by rw [e]; exact nBy_4 k)
    · exact Or.inl (q3_iff.mpr (Or.inl e))
    · exact Or.inl (q3_iff.mpr (Or.inr (Or.inl e)))) (fun s hs hq => q3_iff.mpr (by rcases q3_iff.mp hq with e | e | e <;> simp [e]))), hca⟩⟩, by
  rw [cflN, cfl_q (fun t ht => al3 (by omega) (by omega) (by omega) (by omega))]; exact h⟩
theorem fs_0 {f : Nat → Int32} : ∀ {n : Nat}, (∀ k, k < n → f k = 0) → fs f n = 0
  | 0, _ => rfl
  | n + 1, h => fs_z (fs_0 (fun k hk => h k (by omega))) (h n (by omega))
theorem fs_hit {f : Nat → Int32} {n c : Nat} {v : Int32} (hc : c < n) (h : ∀ k, k < c → f k = 0) (h2 : f c = v) (hv : v ≠ 0) : fs f n = v := fs_f (fs_0 h) h2 hv n hc
/-- the suspects' numbers -/
def SUL (m : aI) (P : Nat → Int64) (n c : Nat) (l : Nat → Nat) : Prop := (∀ i, i < c → l i < n ∧ cOn m P (l i)) ∧ (∀ i j, i < j → j < c → l i < l j) ∧ ∀ s, s < n → cOn m P s → ∃ i, i < c ∧ l i = s
theorem SUS.l {I : aI} {R : aR} {m : aI} {P : Nat → Int64} {n c : Nat} {sq l : Nat → Nat} (h : SUS I R m P n sq n c l) : SUL m P n c l := ⟨fun i hi => ⟨(h.2.2.1 i hi).1, (h.2.2.1 i hi).2.1⟩, h.2.2.2.1, h.2.2.2.2⟩
theorem SUL.lt {m : aI} {P : Nat → Int64} {n c : Nat} {l : Nat → Nat} (h : SUL m P n c l) {i j : Nat} (hi : i < c) (hj : j < c) (e : l i < l j) : i < j := by
  rcases Nat.lt_trichotomy i j with q | q | q
  · exact q
  · rw [q] at e; omega
  · have := h.2.1 j i q hi; omega
theorem SUL.inj {m : aI} {P : Nat → Int64} {n c : Nat} {l : Nat → Nat} (h : SUL m P n c l) {i j : Nat} (hi : i < c) (hj : j < c) (e : l i = l j) : i = j := by
  rcases Nat.lt_trichotomy i j with q | q | q
  · have := h.2.1 i j q hj; omega
  · exact q
  · have := h.2.1 j i q hi; omega
abbrev G1 (m : aI) (n : Nat) (l : Nat → Nat) (i : Nat) : Prop := ∀ i', i' < i → FS m n (q3 (l i') (l i') (l i'))
abbrev G2 (m : aI) (n : Nat) (l : Nat → Nat) (j : Nat) : Prop := ∀ j', j' < j → ∀ i', i' < j' → FS m n (q3 (l i') (l j') (l j'))
abbrev G2i (m : aI) (n : Nat) (l : Nat → Nat) (j i : Nat) : Prop := ∀ i', i' < i → FS m n (q3 (l i') (l j) (l j))
abbrev G3 (m : aI) (n : Nat) (l : Nat → Nat) (k : Nat) : Prop := ∀ k', k' < k → ∀ j', j' < k' → ∀ i', i' < j' → FS m n (q3 (l i') (l j') (l k'))
abbrev G3j (m : aI) (n : Nat) (l : Nat → Nat) (k j : Nat) : Prop := ∀ j', j' < j → ∀ i', i' < j' → FS m n (q3 (l i') (l j') (l k))
abbrev G3i (m : aI) (n : Nat) (l : Nat → Nat) (k j i : Nat) : Prop := ∀ i', i' < i → FS m n (q3 (l i') (l j) (l k))
theorem lc1_z {m : aI} {P : Nat → Int64} {n c : Nat} {l : Nat → Nat} (hn : n ≤ 30) (h : SUL m P n c l) (g : G1 m n l c) : lc1 (NN m P n) n = 0 := fs_0 (fun s hs => lf1_z hn hs (fun hc => by
  obtain ⟨i, hi, e⟩ := h.2.2 s hs hc
  rw [← e]; exact g i hi))
theorem lc2_z {m : aI} {P : Nat → Int64} {n c : Nat} {l : Nat → Nat} (hn : n ≤ 30) (h : SUL m P n c l) (g : G2 m n l c) : lc2 (NN m P n) n = 0 := fs_0 (fun a ha => fs_0 (fun b hb => lf2_z hn ha (by omega) (fun u v => by
  obtain ⟨j, hj, e⟩ := h.2.2 a ha u
  obtain ⟨i, hi, f⟩ := h.2.2 b (by omega) v
  rw [← e, ← f]; exact g j hj i (h.lt hi hj (by omega)))))
theorem cf_1 {m : aI} {P : Nat → Int64} {n c i : Nat} {l : Nat → Nat} (hn : n ≤ 30) (h : SUL m P n c l) (hi : i < c) (g : G1 m n l i) (hc : cfl m n (q3 (l i) (l i) (l i)) = true) : cfV (NN m P n) n = iBit (nI (l i)) := by
  have hl := h.1 i hi
  have e : lc1 (NN m P n) n = (iBit (nI (l i)) ||| 0) ||| 0 := fs_hit hl.1 (fun s hs => lf1_z hn (by omega) (fun q => by
    obtain ⟨i', hi', e⟩ := h.2.2 s (by omega) q
    rw [← e]; exact g i' (h.lt hi' hi (by omega)))) (lf1_h hn hl.1 hl.2 hc) (by rw [Int32.or_zero]; exact bit_nz (by omega) _)
  unfold cfV
  rw [e, Int32.or_zero, Int32.or_zero, if_pos (by have := bit_nz (c := l i) (by omega) 0; rwa [Int32.or_zero] at this)]
theorem cf_2 {m : aI} {P : Nat → Int64} {n c i j : Nat} {l : Nat → Nat} (hn : n ≤ 30) (h : SUL m P n c l) (hj : j < c) (hi : i < j) (g1 : G1 m n l c) (g2 : G2 m n l j) (g : G2i m n l j i) (hc : cfl m n (q3 (l i) (l j) (l j)) = true) : cfV (NN m P n) n = iBit (nI (l i)) ||| iBit (nI (l j)) := by
  have hlj := h.1 j hj
  have hli := h.1 i (by omega)
  have hlt := h.2.1 i j hi hj
  have nz : (iBit (nI (l j)) ||| iBit (nI (l i))) ||| 0 ≠ 0 := by rw [Int32.or_zero]; exact bit_nz (by omega) _
  have e : lc2 (NN m P n) n = (iBit (nI (l j)) ||| iBit (nI (l i))) ||| 0 := fs_hit (f := fun c => fs (lf2 (NN m P n) n c) c) hlj.1 (fun s hs => fs_0 (fun t ht => lf2_z hn (by omega) (by omega) (fun u v => by
    obtain ⟨j', hj', e⟩ := h.2.2 s (by omega) u
    obtain ⟨i', hi', f⟩ := h.2.2 t (by omega) v
    rw [← e, ← f]; exact g2 j' (h.lt hj' hj (by omega)) i' (h.lt hi' hj' (by omega))))) (fs_hit hlt (fun t ht => lf2_z hn hlj.1 (by omega) (fun u v => by
    obtain ⟨i', hi', f⟩ := h.2.2 t (by omega) v
    rw [← f]; exact g i' (h.lt hi' (by omega) (by omega)))) (lf2_h hn hlj.1 hli.1 hlj.2 hli.2 (g1 j hj) (g1 i (by omega)) hc) nz) nz
  unfold cfV
  rw [lc1_z hn h g1, e, if_neg (by simp), if_pos nz, Int32.or_zero, Int32.or_comm]
theorem cf_3 {m : aI} {P : Nat → Int64} {n c i j k : Nat} {l : Nat → Nat} (hn : n ≤ 30) (h : SUL m P n c l) (hk : k < c) (hj : j < k) (hi : i < j) (g1 : G1 m n l c) (g2 : G2 m n l c) (g3 : G3 m n l k) (g3j : G3j m n l k j) (g : G3i m n l k j i) (hc : cfl m n (q3 (l i) (l j) (l k)) = true) : cfV (NN m P n) n = (iBit (nI (l i)) ||| iBit (nI (l j))) ||| iBit (nI (l k)) := by
  have hlk := h.1 k hk
  have hlj := h.1 j (by omega)
  have hli := h.1 i (by omega)
  have hlt := h.2.1 i j hi (by omega)
  have hlt2 := h.2.1 j k hj hk
  have nz : (iBit (nI (l k)) ||| iBit (nI (l j))) ||| iBit (nI (l i)) ≠ 0 := by rw [Int32.or_assoc]; exact bit_nz (by omega) _
  have e : lc3 (NN m P n) n = (iBit (nI (l k)) ||| iBit (nI (l j))) ||| iBit (nI (l i)) := fs_hit (f := fun c => fs (fun b => fs (lf3 (NN m P n) n c b) b) c) hlk.1 (fun s hs => fs_0 (fun t ht => fs_0 (fun r hr => lf3_z hn (by omega) (by omega) (by omega) (fun u v w => by
    obtain ⟨i', hi', f⟩ := h.2.2 r (by omega) u
    obtain ⟨j', hj', f2⟩ := h.2.2 t (by omega) v
    obtain ⟨k', hk', f3⟩ := h.2.2 s (by omega) w
    rw [← f, ← f2, ← f3]; exact g3 k' (h.lt hk' hk (by omega)) j' (h.lt hj' hk' (by omega)) i' (h.lt hi' hj' (by omega)))))) (fs_hit (f := fun b => fs (lf3 (NN m P n) n (l k) b) b) hlt2 (fun t ht => fs_0 (fun r hr => lf3_z hn (by omega) (by omega) (by omega) (fun u v w => by
    obtain ⟨i', hi', f⟩ := h.2.2 r (by omega) u
    obtain ⟨j', hj', f2⟩ := h.2.2 t (by omega) v
    rw [← f, ← f2]; exact g3j j' (h.lt hj' (by omega) (by omega)) i' (h.lt hi' hj' (by omega))))) (fs_hit hlt (fun r hr => lf3_z hn (by omega) (by omega) (by omega) (fun u v w => by
    obtain ⟨i', hi', f⟩ := h.2.2 r (by omega) u
    rw [← f]; exact g i' (h.lt hi' (by omega) (by omega)))) (lf3_h hn hli.1 hlj.1 hlk.1 hli.2 hlj.2 hlk.2 (g2 j (by omega) i hi) (g2 k hk i (by omega)) (g2 k hk j hj) hc) nz) nz) nz
  unfold cfV
  rw [lc1_z hn h g1, lc2_z hn h g2, e, if_neg (by simp), if_neg (by simp), if_pos nz, Int32.or_comm (iBit (nI (l k))), Int32.or_comm, ← Int32.or_assoc]
theorem cf_n {m : aI} {P : Nat → Int64} {n c : Nat} {l : Nat → Nat} (hn : n ≤ 30) (h : SUL m P n c l) (g1 : G1 m n l c) (g2 : G2 m n l c) (g3 : G3 m n l c) : cfV (NN m P n) n = -1 := by
  have e : lc3 (NN m P n) n = 0 := fs_0 (fun s hs => fs_0 (fun t ht => fs_0 (fun r hr => lf3_z hn (by omega) (by omega) (by omega) (fun u v w => by
    obtain ⟨i', hi', f⟩ := h.2.2 r (by omega) u
    obtain ⟨j', hj', f2⟩ := h.2.2 t (by omega) v
    obtain ⟨k', hk', f3⟩ := h.2.2 s (by omega) w
    rw [← f, ← f2, ← f3]; exact g3 k' hk' j' (h.lt hj' hk' (by omega)) i' (h.lt hi' hj' (by omega))))))
  unfold cfV
  rw [lc1_z hn h g1, lc2_z hn h g2, e, if_neg (by simp), if_neg (by simp), if_neg (by simp)]
theorem FS_pair {m : aI} {n a b : Nat} (hS : SW m n) (ha : a < n) (hb : b < n) (h : tBoth m a &&& tBoth m b = 0) (ga : FS m n (q3 a a a)) (gb : FS m n (q3 b b b)) : FS m n (q3 a b b) :=
  FS.merge (fun s hs hq => by rcases q3_iff.mp hq with e | e | e <;> simp [e]) (fun s hs hq => q3_iff.mpr (by rcases q3_iff.mp hq with e | e | e <;> simp [e])) (fun s hs hq => q3_iff.mpr (by rcases q3_iff.mp hq with e | e | e <;> simp [e])) (fun s t hs ht h1 h2 => by
    have e1 : s = a := by rcases q3_iff.mp h1 with e | e | e <;> exact e
    have e2 : t = b := by rcases q3_iff.mp h2 with e | e | e <;> exact e
    rw [e1, e2]; exact join_iff hS ha hb h) ga gb
theorem FS_trip {m : aI} {n a b c : Nat} {q : Nat → Bool} (hS : SW m n) (ha : a < n) (hb : b < n) (hc : c < n) (h1 : tBoth m a &&& tBoth m b = 0) (h2 : tBoth m a &&& tBoth m c = 0) (hq : ∀ s, q s = true ↔ s = a ∨ s = b ∨ s = c) (ga : FS m n (q3 a a a)) (gb : FS m n (q3 b c c)) : FS m n q :=
  FS.merge (fun s hs z => by rcases (hq s).mp z with e | e | e <;> simp [e]) (fun s hs z => (hq s).mpr (by rcases q3_iff.mp z with e | e | e <;> simp [e])) (fun s hs z => (hq s).mpr (by rcases q3_iff.mp z with e | e | e <;> simp [e])) (fun s t hs ht z1 z2 => by
    have e1 : s = a := by rcases q3_iff.mp z1 with e | e | e <;> exact e
    rw [e1]
    rcases q3_iff.mp z2 with e | e | e
    · rw [e]; exact join_iff hS ha hb h1
    · rw [e]; exact join_iff hS ha hc h2
    · rw [e]; exact join_iff hS ha hc h2) ga gb
theorem FS_chn {I : aI} {R : aR} {m : aI} {P : Nat → Int64} {n c i j k : Nat} {sq l : Nat → Nat} (hS : SW m n) (hU : SUS I R m P n sq n c l) (hk : k < c) (hj : j < k) (hi : i < j) (g1 : G1 m n l c) (g2 : G2 m n l c) (h : ¬ chn I i j k) : FS m n (q3 (l i) (l j) (l k)) := by
  obtain ⟨li, -, -, -, ti⟩ := hU.2.2.1 i (by omega)
  obtain ⟨lj, -, -, -, tj⟩ := hU.2.2.1 j (by omega)
  obtain ⟨lk, -, -, -, tk⟩ := hU.2.2.1 k (by omega)
  unfold chn at h
  rw [ti, tj, tk] at h
  by_cases c1 : tBoth m (l i) &&& tBoth m (l j) ≠ 0
  · rw [if_pos c1] at h
    have h1 : tBoth m (l k) &&& tBoth m (l i) = 0 := Classical.byContradiction fun z => h (Or.inl (by rw [Int32.and_comm]; exact z))
    have h2 : tBoth m (l k) &&& tBoth m (l j) = 0 := Classical.byContradiction fun z => h (Or.inr (by rw [Int32.and_comm]; exact z))
    exact FS_trip hS lk li lj h1 h2 (fun s => by rw [q3_iff]; omega) (g1 k hk) (g2 j (by omega) i hi)
  · rw [if_neg c1] at h
    have c2 : tBoth m (l i) &&& tBoth m (l j) = 0 := Classical.not_not.mp c1
    by_cases c3 : tBoth m (l i) &&& tBoth m (l k) ≠ 0
    · have h2 : tBoth m (l j) &&& tBoth m (l k) = 0 := Classical.byContradiction fun z => h ⟨c3, z⟩
      exact FS_trip hS lj li lk (by rw [Int32.and_comm]; exact c2) h2 (fun s => by rw [q3_iff]; omega) (g1 j (by omega)) (g2 k hk i (by omega))
    · exact FS_trip hS li lj lk c2 (Classical.not_not.mp c3) (fun s => q3_iff) (g1 i (by omega)) (g2 k hk j hj)
set_option maxRecDepth 100000 in
theorem m_X10_findSuspects {T : List aT} {I : aI} {J : aJ} {R : aR} (hT : aPT T) (hR : aPR R) {m : aI} {n : Nat} {sq : Nat → Nat} (hSt : CSt T I R m n sq) (hS : SW m n) {P : Nat → Int64} (hCn : CCn I m P n sq) : MX10_findSuspects 0 0 [.ref 8] T I J R (aRelT (fun v T2 I2 J2 R2 => v = none ∧ T2 = T ∧ J2 = J ∧ ∃ c l, SUS I2 R2 m P n sq n c l ∧ SUF I I2 ∧ (∀ a p, a ≠ 16 → R2 a p = R a p) ∧ aPR R2)) := by
  refine a_met (by decide +kernel) a_le (fun X hC hq => ?_)
  show AW X 0 0 0 [some (.ref 8), none] [] T I J R
  refine aw_aload_n hC dX10_findSuspects_0 rfl ?_
  refine aw_iconst (v := 0) hC dX10_findSuspects_1 (by decide) ?_
  refine aw_putI hC dX10_findSuspects_2 aF_X10_180 rfl rfl (tg_8 hT) ?_
  refine aw_iconst (v := 0) hC dX10_findSuspects_5 (by decide) ?_
  refine aw_istore_n (L2 := [some (.ref 8), some (.int 0)]) hC dX10_findSuspects_6 rfl (by decide) rfl ?_
  have loop : ∀ k, k ≤ n → ∀ (I2 : aI) (R2 : aR) (c : Nat) (l : Nat → Nat), SUS I2 R2 m P n sq k c l → SUF I I2 → (∀ a p, a ≠ 16 → R2 a p = R a p) → aPR R2 → AW X 0 0 7 [some (.ref 8), some (.int (nI k))] [] T I2 J R2 := by
    refine a_down n (fun k hk_k ih_k => ?_)
    intro I2 R2 c l hU hF hFR hR2
    have hn9 := hS.n30
    have hck := hU.2.1
    have hz9 : ∀ s, s < n → 44 ≤ sq s := fun s hs => hSt.ge hT hs
    have hSt2 : CSt T I2 R2 m n sq := (hSt.cg (hF 1 1 (by decide) (by decide) (fun q => absurd q.1 (by decide))) (fun s hs p _ => hF (sq s) p (by have := hz9 s hs; omega) (by have := hz9 s hs; omega) (fun q => by have := hz9 s hs; omega))).cgR (fun s hs => hFR 2 s (by decide))
    have hC2 : ∀ s, s < n → I2 (sq s) 9 = bI (decide (cOn m P s)) := fun s hs => (hF (sq s) 9 (by have := hz9 s hs; omega) (by have := hz9 s hs; omega) (fun q => by have := hz9 s hs; omega)).trans (hCn s hs)
    refine aw_iload_n hC dX10_findSuspects_7 rfl ?_
    refine aw_aload_n hC dX10_findSuspects_8 rfl ?_
    refine aw_getR hC dX10_findSuspects_9 aF_X10_40 rfl (tg_8 hT) (pr_8_0 hR2) ?_
    refine aw_getI hC dX10_findSuspects_12 aF_X10_60 rfl (tg_1 hT) ?_
    rw [hSt2.cnt]
    refine aw_icmp_ge (tgt := 100) hC dX10_findSuspects_15 (by decide) (fun h1 => ?_) (fun h1 => ?_)
    · show AW X 0 0 100 [some (.ref 8), some (.int (nI k))] [] T I2 J R2
      have h1n : n ≤ k := (nI_leI (a := n) (b := k) (by omega) (by omega)).mp h1
      exact aw_return hC hq rfl dX10_findSuspects_100 a_le a_le ⟨_, rfl, rfl, rfl, rfl, c, l, by have e : k = n := (by omega); rw [e] at hU; exact hU, hF, hFR, hR2⟩
    · show AW X 0 0 18 [some (.ref 8), some (.int (nI k))] [] T I2 J R2
      have h1n : ¬ n ≤ k := fun q9 => h1 ((nI_leI (a := n) (b := k) (by omega) (by omega)).mpr q9)
      refine aw_aload_n hC dX10_findSuspects_18 rfl ?_
      refine aw_getR hC dX10_findSuspects_19 aF_X10_40 rfl (tg_8 hT) (pr_8_0 hR2) ?_
      refine aw_getR hC dX10_findSuspects_22 aF_X10_64 rfl (tg_1 hT) (pr_1_0 hR2) ?_
      refine aw_iload_n hC dX10_findSuspects_25 rfl ?_
      refine aw_aaloadR_k (j := k) hC dX10_findSuspects_26 (tg_2 hT) (nI_clamp (by omega)) (vp_in_nI (by omega) (by decide)) (by first | exact hSt2.rf (by omega) | (rw [a_u_row (by decide)]; exact hSt2.rf (by omega))) ?_
      refine aw_getI hC dX10_findSuspects_27 aF_X10_71 rfl (hSt.at (by omega)).1 ?_
      rw [(hC2 k (by omega))]
      refine aw_if_eq (tgt := 94) hC dX10_findSuspects_30 (by decide) (fun h2 => ?_) (fun h2 => ?_)
      · show AW X 0 0 94 [some (.ref 8), some (.int (nI k))] [] T I2 J R2
        refine aw_iinc (v := nI (k + 1)) (L2 := [some (.ref 8), some (.int (nI (k + 1)))]) hC dX10_findSuspects_94 rfl (nI_inc _) (by decide) rfl ?_
        refine aw_goto (tgt := 7) hC dX10_findSuspects_97 (by decide) ?_
        exact ih_k (by omega) I2 R2 c l (hU.no (bI_d0.mp (by assumption))) hF hFR hR2
      · show AW X 0 0 33 [some (.ref 8), some (.int (nI k))] [] T I2 J R2
        refine aw_aload_n hC dX10_findSuspects_33 rfl ?_
        refine aw_getR hC dX10_findSuspects_34 aF_X10_30 rfl (tg_8 hT) (pr_8_7 hR2) ?_
        refine aw_aload_n hC dX10_findSuspects_37 rfl ?_
        refine aw_getI hC dX10_findSuspects_38 aF_X10_180 rfl (tg_8 hT) ?_
        rw [hU.1]
        refine aw_aload_n hC dX10_findSuspects_41 rfl ?_
        refine aw_getR hC dX10_findSuspects_42 aF_X10_40 rfl (tg_8 hT) (pr_8_0 hR2) ?_
        refine aw_getR hC dX10_findSuspects_45 aF_X10_64 rfl (tg_1 hT) (pr_1_0 hR2) ?_
        refine aw_iload_n hC dX10_findSuspects_48 rfl ?_
        refine aw_aaloadR_k (j := k) hC dX10_findSuspects_49 (tg_2 hT) (nI_clamp (by omega)) (vp_in_nI (by omega) (by decide)) (by first | exact hSt2.rf (by omega) | (rw [a_u_row (by decide)]; exact hSt2.rf (by omega))) ?_
        refine aw_aastoreR_k (j := c) hC dX10_findSuspects_50 (tg_16 hT) (nI_clamp (by omega)) (vp_in_nI (by omega) (by decide)) (hSt.at (by omega)).1 rfl ?_
        have hR3 : aPR (a_u R2 16 c (some (sq k))) := hR2.put (fun q9 h9 e9 => by have := a_refs_no16 q9 h9; omega)
        refine aw_aload_n hC dX10_findSuspects_51 rfl ?_
        refine aw_getR hC dX10_findSuspects_52 aF_X10_34 rfl (tg_8 hT) (pr_8_8 hR3) ?_
        refine aw_aload_n hC dX10_findSuspects_55 rfl ?_
        refine aw_getI hC dX10_findSuspects_56 aF_X10_180 rfl (tg_8 hT) ?_
        rw [hU.1]
        refine aw_iconst (v := 1) hC dX10_findSuspects_59 (by decide) ?_
        refine aw_iload_n hC dX10_findSuspects_60 rfl ?_
        refine aw_ishl hC dX10_findSuspects_61 ?_
        refine aw_iastore_k (j := c) hC dX10_findSuspects_62 (tg_17 hT) (nI_clamp (by omega)) (vp_in_nI (by omega) (by decide)) ?_
        refine aw_aload_n hC dX10_findSuspects_63 rfl ?_
        refine aw_getR hC dX10_findSuspects_64 aF_X10_37 rfl (tg_8 hT) (pr_8_9 hR3) ?_
        refine aw_aload_n hC dX10_findSuspects_67 rfl ?_
        refine aw_getI hC dX10_findSuspects_68 aF_X10_180 rfl (tg_8 hT) ?_
        rw [a_u_ne (f := I2) (o := 17) (k := c) (a := 8) (b := 10) (v := 1 <<< ((nI k) &&& 31)) (fun q => absurd q.1 (by decide))]
        rw [hU.1]
        refine aw_aload_n hC dX10_findSuspects_71 rfl ?_
        refine aw_getR hC dX10_findSuspects_72 aF_X10_40 rfl (tg_8 hT) (pr_8_0 hR3) ?_
        refine aw_getR hC dX10_findSuspects_75 aF_X10_64 rfl (tg_1 hT) (pr_1_0 hR3) ?_
        refine aw_iload_n hC dX10_findSuspects_78 rfl ?_
        refine aw_aaloadR_k (j := k) hC dX10_findSuspects_79 (tg_2 hT) (nI_clamp (by omega)) (vp_in_nI (by omega) (by decide)) (by first | exact hSt2.rf (by omega) | (rw [a_u_row (by decide)]; exact hSt2.rf (by omega))) ?_
        refine kX10_160 hC rfl (m_X8_fields (I := a_u I2 17 c (1 <<< ((nI k) &&& 31))) (hSt.at (by omega)).1) dX10_findSuspects_80 (hSt.at (by omega)).1 rfl a_le a_le a_le a_le a_le rfl aPure_x (aPure_k ?_)
        show AW X 0 0 83 [some (.ref 8), some (.int (nI k))] [.int (iBit ((a_u I2 17 c (1 <<< ((nI k) &&& 31))) (sq k) 3) ||| (if (a_u I2 17 c (1 <<< ((nI k) &&& 31))) (sq k) 2 = 5 ∨ (a_u I2 17 c (1 <<< ((nI k) &&& 31))) (sq k) 2 = 6 then iBit ((a_u I2 17 c (1 <<< ((nI k) &&& 31))) (sq k) 4) else 0)), .int (nI c), .ref 18] T (a_u I2 17 c (1 <<< ((nI k) &&& 31))) J (a_u R2 16 c (some (sq k)))
        rw [st_flds (I := a_u I2 17 c (1 <<< ((nI k) &&& 31))) (m := m) (s := k) (by have := hz9 k (by omega); unfold StAt; rw [a_u_row (by omega)]; exact hSt2.at (by omega)) hS (by omega)]
        refine aw_iastore_k (j := c) hC dX10_findSuspects_83 (tg_18 hT) (nI_clamp (by omega)) (vp_in_nI (by omega) (by decide)) ?_
        refine aw_aload_n hC dX10_findSuspects_84 rfl ?_
        refine aw_dup hC dX10_findSuspects_85 rfl ?_
        refine aw_getI hC dX10_findSuspects_86 aF_X10_180 rfl (tg_8 hT) ?_
        rw [a_u_ne (f := a_u I2 17 c (1 <<< ((nI k) &&& 31))) (o := 18) (k := c) (a := 8) (b := 10) (v := tBoth m k) (fun q => absurd q.1 (by decide))]
        rw [a_u_ne (f := I2) (o := 17) (k := c) (a := 8) (b := 10) (v := 1 <<< ((nI k) &&& 31)) (fun q => absurd q.1 (by decide))]
        rw [hU.1]
        refine aw_iconst (v := 1) hC dX10_findSuspects_89 (by decide) ?_
        refine aw_iadd hC dX10_findSuspects_90 ?_
        rw [show (nI c) + 1 = nI (c + 1) from nI_add c 1]
        refine aw_putI hC dX10_findSuspects_91 aF_X10_180 rfl rfl (tg_8 hT) ?_
        refine aw_iinc (v := nI (k + 1)) (L2 := [some (.ref 8), some (.int (nI (k + 1)))]) hC dX10_findSuspects_94 rfl (nI_inc _) (by decide) rfl ?_
        refine aw_goto (tgt := 7) hC dX10_findSuspects_97 (by decide) ?_
        exact ih_k (by omega) _ _ (c + 1) _ (hU.ys (by omega) (bI_dn.mp (by assumption))) (fun a p h1 h2 h3 => by rw [a_u_ne (fun q => h3 q), a_u_row h2, a_u_row h1]; exact hF a p h1 h2 h3) (fun a p h1 => by rw [a_u_row h1]; exact hFR a p h1) hR3
  exact loop 0 (Nat.zero_le _) _ R 0 (fun _ => 0) ⟨a_u_self, Nat.le_refl _, fun i hi => absurd hi (by omega), fun i j _ hj => absurd hj (by omega), fun s hs => absurd hs (by omega)⟩ (fun a p h1 h2 h3 => by rw [a_u_ne (fun q => h3 q)]) (fun _ _ _ => rfl) hR
