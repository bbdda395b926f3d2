theorem NsP_x {its f a b : Int32} {n : Nat} {T0 : List aT} {X : aX} {c s pc : Nat} {L : List (Option Value)} {T : List aT} {I : aI} {J : aJ} {R : aR} (k1 : mCode its f a b n = 1 → AE X c s pc L exI T I J R) (k2 : mCode its f a b n = 2 → AE X c s pc L exA T I J R) (k3 : mCode its f a b n = 3 → AE X c s pc L exS T I J R) : ∀ (E2 : String) (T2 : List aT) (I2 : aI) (J2 : aJ) (R2 : aR), T0 <+: T2 → NsP its f a b n T I J R (.inr E2) T2 I2 J2 R2 → AE X c s pc L E2 T2 I2 J2 R2 := by
  rintro E2 T2 I2 J2 R2 - ⟨rfl, rfl, rfl, rfl, h⟩
  rcases h with h | h | h | h
  · exact nomatch h.1
  · obtain ⟨zz1, zz2⟩ := h; cases zz1; exact k1 zz2
  · obtain ⟨zz1, zz2⟩ := h; cases zz1; exact k2 zz2
  · obtain ⟨zz1, zz2⟩ := h; cases zz1; exact k3 zz2
theorem NsP_k {its f a b : Int32} {n : Nat} {T0 : List aT} {X : aX} {c s pc : Nat} {L : List (Option Value)} {st : List Value} {T : List aT} {I : aI} {J : aJ} {R : aR} (k : mCode its f a b n = 0 → AW X c s pc L st T I J R) : ∀ (v2 : Option Value) (T2 : List aT) (I2 : aI) (J2 : aJ) (R2 : aR), T0 <+: T2 → NsP its f a b n T I J R (.inl v2) T2 I2 J2 R2 → AW X c s pc L (v2.toList ++ st) T2 I2 J2 R2 := by
  rintro v2 T2 I2 J2 R2 - ⟨rfl, rfl, rfl, rfl, h⟩
  rcases h with h | h | h | h
  · obtain ⟨zz1, zz2⟩ := h; cases zz1; exact k zz2
  · exact nomatch h.1
  · exact nomatch h.1
  · exact nomatch h.1
theorem mC_z {its f a b : Int32} {n : Nat} (h : mCode its f a b n = 0) : mPlaces its f a ∧ mRange its a b ∧ n ≠ 30 := by
  unfold mCode at h
  by_cases h1 : mPlaces its f a
  · rw [if_neg (not_not_intro h1)] at h
    by_cases h2 : mRange its a b
    · rw [if_neg (not_not_intro h2)] at h
      by_cases h3 : n = 30
      · rw [if_pos h3] at h; exact absurd h (by decide)
      · exact ⟨h1, h2, h3⟩
    · rw [if_pos h2] at h; exact absurd h (by decide)
  · rw [if_pos h1] at h; exact absurd h (by decide)
theorem tl_nat {its f a b : Int32} (hp : mPlaces its f a) (hr : mRange its a b) : ∃ i1 f1 a1, its = nI i1 ∧ i1 < 13 ∧ f = nI f1 ∧ f1 < 10 ∧ a = nI a1 ∧ a1 < 64 ∧ (i1 = 12 → f1 < 3 ∧ 1 ≤ a1 ∧ a1 ≤ 3) ∧ (i1 = 5 ∨ i1 = 6 → a1 < 10) ∧ (i1 = 1 ∨ i1 = 2 → ∃ b1, b = nI b1 ∧ b1 < 64) := by
  have hp2 := mPl_iff.mp hp
  clear hp
  have z1 : 0 ≤ its ∧ its < 13 := by simp only [mRange, i_lt, i_le, i_eq, ne_eq, Int32.reduceToInt] at *; omega
  have z2 : 0 ≤ f ∧ f < 10 := by simp only [mRange, i_lt, i_le, i_eq, ne_eq, Int32.reduceToInt] at *; omega
  have z3 : 0 ≤ a ∧ a < 64 := by simp only [mRange, i_lt, i_le, i_eq, ne_eq, Int32.reduceToInt] at *; omega
  have z4 : (its = 1 ∨ its = 2) → 0 ≤ b ∧ b < 64 := by simp only [mRange, i_lt, i_le, i_eq, ne_eq, Int32.reduceToInt] at *; omega
  obtain ⟨i1, hi1, zz1⟩ := i_nat z1.1 z1.2 (b := 13) rfl (by decide)
  obtain ⟨f1, hf1, zz2⟩ := i_nat z2.1 z2.2 (b := 10) rfl (by decide)
  obtain ⟨a1, ha1, zz3⟩ := i_nat z3.1 z3.2 (b := 64) rfl (by decide)
  subst zz1 zz2 zz3
  have y1 : (nI i1).toInt = i1 := i_nl _ (by omega)
  have y2 : (nI f1).toInt = f1 := i_nl _ (by omega)
  have y3 : (nI a1).toInt = a1 := i_nl _ (by omega)
  refine ⟨i1, f1, a1, rfl, hi1, rfl, hf1, rfl, ha1, fun q => ?_, fun q => ?_, fun q => ?_⟩
  · clear z1 z2 z3 z4; simp only [mRange, i_lt, i_le, i_eq, ne_eq, Int32.reduceToInt] at *; rw [y1, y2, y3] at *; omega
  · clear z1 z2 z3 z4; simp only [mRange, i_lt, i_le, i_eq, ne_eq, Int32.reduceToInt] at *; rw [y1, y2, y3] at *; omega
  · have q2 := z4 (by rcases q with q | q <;> rw [q]; exact Or.inl rfl; exact Or.inr rfl)
    obtain ⟨b1, hb1, zz4⟩ := i_nat q2.1 q2.2 (b := 64) rfl (by decide)
    exact ⟨b1, zz4, hb1⟩
theorem mP_o {m : aI} {n q : Nat} {fl pk its f a b : Int32} (h : q < 44 ∨ 50 < q) : mPut m n fl pk its f a b q = m q := by
  unfold mPut; rw [a_u_row (by omega), a_u_row (by omega), a_u_row (by omega), a_u_row (by omega), a_u_row (by omega), a_u_row (by omega), a_u_row (by omega), a_u_row (by omega)]
theorem mP_4 {m : aI} {n j : Nat} {fl pk its f a b : Int32} (h : j ≠ 0) (h2 : j ≠ 61) : mPut m n fl pk its f a b 44 j = m 44 j := by
  unfold mPut; rw [a_u_ne (fun z => h z.2), a_u_row (by decide), a_u_row (by decide), a_u_row (by decide), a_u_row (by decide), a_u_row (by decide), a_u_row (by decide), a_u_ne (fun z => h2 z.2)]
theorem mP_0 {m : aI} {n : Nat} {fl pk its f a b : Int32} : mPut m n fl pk its f a b 44 0 = nI (n + 1) := a_u_self
theorem mP_at {m : aI} {n j : Nat} {fl pk its f a b : Int32} : mPut m n fl pk its f a b 45 j = (if j = n then its else m 45 j) ∧ mPut m n fl pk its f a b 46 j = (if j = n then f else m 46 j) ∧ mPut m n fl pk its f a b 47 j = (if j = n then a else m 47 j) ∧ mPut m n fl pk its f a b 48 j = (if j = n then b else m 48 j) ∧ mPut m n fl pk its f a b 49 j = (if j = n then fl else m 49 j) ∧ mPut m n fl pk its f a b 50 j = (if j = n then pk else m 50 j) := by
  refine ⟨?_, ?_, ?_, ?_, ?_, ?_⟩ <;> simp [mPut, a_u]
theorem mP_n {m : aI} {n : Nat} {fl pk its f a b : Int32} : mPut m n fl pk its f a b 45 n = its ∧ mPut m n fl pk its f a b 46 n = f ∧ mPut m n fl pk its f a b 47 n = a ∧ mPut m n fl pk its f a b 48 n = b ∧ mPut m n fl pk its f a b 49 n = fl ∧ mPut m n fl pk its f a b 50 n = pk := by
  have q := @mP_at m n n fl pk its f a b
  rw [if_pos rfl, if_pos rfl, if_pos rfl, if_pos rfl, if_pos rfl, if_pos rfl] at q; exact q
theorem mP_b {m : aI} {n j : Nat} {fl pk its f a b : Int32} (h : j ≠ n) : mPut m n fl pk its f a b 45 j = m 45 j ∧ mPut m n fl pk its f a b 46 j = m 46 j ∧ mPut m n fl pk its f a b 47 j = m 47 j ∧ mPut m n fl pk its f a b 48 j = m 48 j ∧ mPut m n fl pk its f a b 49 j = m 49 j ∧ mPut m n fl pk its f a b 50 j = m 50 j := by
  have q := @mP_at m n j fl pk its f a b
  rw [if_neg h, if_neg h, if_neg h, if_neg h, if_neg h, if_neg h] at q; exact q
theorem NR.snoc {m m2 : aI} {a n b v : Nat} (h : NR m a n b) (h1 : ∀ j, j < n → m2 a j = m a j) (h2 : m2 a n = nI v) (hv : v < b) (hb : b < 2147483648) : NR m2 a (n + 1) b := NR.of hb fun j hj => by
  by_cases z : j = n
  · exact ⟨v, hv, by rw [z]; exact h2⟩
  · have q := h j (by omega)
    exact ⟨iN m a j, q.2, by rw [h1 j (by omega)]; exact q.1⟩
abbrev FlPk (fl pk : Int32) : Prop := (0 ≤ fl ∧ fl ≤ 5 ∧ pk = -1) ∨ (fl = -1 ∧ ∃ k, pk = nI k ∧ k < 3)
theorem MBk.put {m : aI} {n : Nat} {fl pk its f a b : Int32} (h : MBk m n) (hc : mCode its f a b n = 0) (hf : FlPk fl pk) : MBk (mPut m n fl pk its f a b) (n + 1) := by
  obtain ⟨c1, c2, c3⟩ := mC_z hc
  obtain ⟨i1, f1, a1, e1, l1, e2, l2, e3, l3, z12, z56, z2⟩ := tl_nat c1 c2
  have hw := h.1
  have hn := hw.n30
  have pn := @mP_n m n fl pk its f a b
  have pb : ∀ j, j < n → _ := fun j hj => @mP_b m n j fl pk its f a b (by omega)
  have po : ∀ q, q < 44 ∨ 50 < q → mPut m n fl pk its f a b q = m q := fun q hq => mP_o hq
  have n45 : iN (mPut m n fl pk its f a b) 45 n = i1 := by unfold iN; rw [pn.1, e1, nI_clamp (by omega)]
  have n46 : iN (mPut m n fl pk its f a b) 46 n = f1 := by unfold iN; rw [pn.2.1, e2, nI_clamp (by omega)]
  have n47 : iN (mPut m n fl pk its f a b) 47 n = a1 := by unfold iN; rw [pn.2.2.1, e3, nI_clamp (by omega)]
  have b45 : ∀ j, j < n → iN (mPut m n fl pk its f a b) 45 j = iN m 45 j := fun j hj => by unfold iN; rw [(pb j hj).1]
  have b46 : ∀ j, j < n → iN (mPut m n fl pk its f a b) 46 j = iN m 46 j := fun j hj => by unfold iN; rw [(pb j hj).2.1]
  have b47 : ∀ j, j < n → iN (mPut m n fl pk its f a b) 47 j = iN m 47 j := fun j hj => by unfold iN; rw [(pb j hj).2.2.1]
  have b48 : ∀ j, j < n → iN (mPut m n fl pk its f a b) 48 j = iN m 48 j := fun j hj => by unfold iN; rw [(pb j hj).2.2.2.1]
  have b50 : ∀ j, j < n → iN (mPut m n fl pk its f a b) 50 j = iN m 50 j := fun j hj => by unfold iN; rw [(pb j hj).2.2.2.2.2]
  have h51 : m 51 n = 0 := (h.2.2.2.1 n (Nat.le_refl _) (by omega)).1
  refine ⟨⟨by omega, mP_0, hw.kd.snoc (fun j hj => (pb j hj).1) (pn.1.trans e1) l1 (by decide), hw.fd.snoc (fun j hj => (pb j hj).2.1) (pn.2.1.trans e2) l2 (by decide), hw.on.snoc (fun j hj => (pb j hj).2.2.1) (pn.2.2.1.trans e3) l3 (by decide), hw.vs.snoc (v := 0) (fun j hj => by rw [po 51 (by decide)]) (by rw [po 51 (by decide)]; exact h51) (by decide) (by decide), NR_cg (po 53 (by decide)) hw.vv, fun s hs q => ?_, fun s hs q => ?_, fun s hs q => ?_, fun s hs => ?_, fun s hs q => ?_⟩, fun s hs q => ?_, NR_cg (po 54 (by decide)) h.2.2.1, fun s hs1 hs2 => by rw [po 51 (by decide), po 52 (by decide)]; exact h.2.2.2.1 s (by omega) hs2, fun s hs q => ?_⟩
  · by_cases zd : s = n
    · subst zd
      rw [n45] at q; rw [n46, n47]; exact z12 q
    · rw [b45 s (by omega)] at q; rw [b46 s (by omega), b47 s (by omega)]; exact hw.k12 s (by omega) q
  · by_cases zd : s = n
    · subst zd
      rw [n45] at q; rw [n47]; exact z56 q
    · rw [b45 s (by omega)] at q; rw [b47 s (by omega)]; exact hw.k56 s (by omega) q
  · by_cases zd : s = n
    · subst zd
      rw [n45] at q
      obtain ⟨b1, eb, hb⟩ := z2 q
      unfold iN; rw [pn.2.2.2.1, eb, nI_clamp (by omega)]; exact ⟨rfl, hb⟩
    · rw [b45 s (by omega)] at q; rw [b48 s (by omega), (pb s (by omega)).2.2.2.1]; exact hw.tw s (by omega) q
  · by_cases zd : s = n
    · subst zd
      rw [pn.2.2.2.2.1]
      rcases hf with hf | hf
      · exact Or.inr ⟨hf.1, hf.2.1⟩
      · exact Or.inl hf.1
    · rw [(pb s (by omega)).2.2.2.2.1]; exact hw.fl s (by omega)
  · by_cases zd : s = n
    · subst zd
      rw [pn.2.2.2.2.1] at q
      rcases hf with hf | hf
      · have q1 := hf.1; exact absurd q (by simp only [mRange, i_lt, i_le, i_eq, ne_eq, Int32.reduceToInt] at *; omega)
      · obtain ⟨_, kk, e9, l9⟩ := hf
        unfold iN; rw [pn.2.2.2.2.2, e9, nI_clamp (by omega)]; exact ⟨rfl, l9⟩
    · rw [(pb s (by omega)).2.2.2.2.1] at q
      rw [b50 s (by omega), (pb s (by omega)).2.2.2.2.2]; exact hw.pk s (by omega) q
  · rw [po 51 (by decide)]
    by_cases zd : s = n
    · subst zd; exact h51
    · rw [(pb s (by omega)).2.2.2.2.1] at q; exact h.2.1 s (by omega) q
  · by_cases zd : s = n
    · subst zd
      rw [pn.2.2.2.2.1] at q; rw [pn.2.2.2.2.2]
      rcases hf with hf | hf
      · exact hf.2.2
      · rw [hf.1] at q; exact absurd q (by decide)
    · rw [(pb s (by omega)).2.2.2.2.1] at q; rw [(pb s (by omega)).2.2.2.2.2]; exact h.2.2.2.2 s (by omega) q
theorem tl_g9 {T : List aT} {I : aI} {J : aJ} {R : aR} {m : aI} {c n : Nat} {sq : Nat → Nat} {g : Nat} {gq eq : Nat → Nat} {r p : Nat} {pq : Nat → Nat} {k : Nat} (h9 : G9 T I J R m c n sq g gq eq r p pq k) {T2 : List aT} {fl pk its f a b : Int32} (hc : mCode its f a b n = 0) (hf : FlPk fl pk) (hT2 : T2 = T ++ [.inr 8]) (hz : ∀ o, T.length ≤ o → I o = fun _ => 0) : G9 T2 (a_u (a_u (a_u (a_u (a_u (a_u (a_u (a_u I T.length 0 fl) T.length 1 pk) T.length 2 its) T.length 3 f) T.length 4 a) T.length 5 b) 1 1 (nI (n + 1))) 8 11 0) J (a_u R 2 n (some T.length)) (mPut m n fl pk its f a b) c (n + 1) (fun s => if s = n then T.length else sq s) g gq eq r p pq k := by
  have hT := h9.hT
  have h95 := hT.len
  have cs := h9.cb.1
  have b9 := h9.cb.2.1
  have hp : T <+: T2 := by rw [hT2]; exact List.prefix_append _ _
  have h30 := (mC_z hc).2.2
  have hn := h9.bk.1.n30
  have tq : T2[T.length]? = some (.inr 8) := by rw [hT2]; simp
  have lo : ∀ o, o < T.length → o ≠ 1 → o ≠ 8 → a_u (a_u (a_u (a_u (a_u (a_u (a_u (a_u I T.length 0 fl) T.length 1 pk) T.length 2 its) T.length 3 f) T.length 4 a) T.length 5 b) 1 1 (nI (n + 1))) 8 11 0 o = I o := fun o a1 a2 a3 => by rw [a_u_row a3, a_u_row a2, a_u_row (by omega), a_u_row (by omega), a_u_row (by omega), a_u_row (by omega), a_u_row (by omega), a_u_row (by omega)]
  have pn := @mP_n m n fl pk its f a b
  have pb : ∀ j, j < n → _ := fun j hj => @mP_b m n j fl pk its f a b (by omega)
  have po : ∀ q, q < 44 ∨ 50 < q → mPut m n fl pk its f a b q = m q := fun q hq => mP_o hq
  have ge : ∀ s, s < n → 44 ≤ sq s ∧ sq s < T.length := fun s q => ⟨cs.ge hT q, a_rel_lt (cs.at q).1⟩
  refine h9.book hp (fun o u v => lo o u (by omega) (by omega)) (fun o u v => a_u_row (by omega)) (h9.hR.put (fun q9 hq9 e9 => by have := a_refs_no2 q9 hq9; omega)) (fun o u v => po o (by omega)) (fun k zz0 _ _ _ _ zz61 => mP_4 zz0 zz61) (h9.bk.put hc hf) (by obtain ⟨d, d1, d2⟩ := h9.dy; exact ⟨d, by rw [mP_4 (by decide) (by decide)]; exact d1, d2⟩) ⟨by rw [a_u_row (by decide), a_u_self], fun s hs => ?_, fun s t hs ht e => ?_⟩ ⟨fun q hq => by rw [lo 3 (by omega) (by decide) (by decide), po 54 (by decide)]; exact b9.1 q hq, fun q hq => by rw [lo 4 (by omega) (by decide) (by decide), po 55 (by decide)]; exact b9.2.1 q hq, fun q hq => by rw [lo 5 (by omega) (by decide) (by decide), po 56 (by decide)]; exact b9.2.2.1 q hq, fun q hq => by rw [lo 6 (by omega) (by decide) (by decide), po 53 (by decide)]; exact b9.2.2.2.1 q hq, by rw [a_u_row (by decide), a_u_ne (by decide), a_u_row (by omega), a_u_row (by omega), a_u_row (by omega), a_u_row (by omega), a_u_row (by omega), a_u_row (by omega), mP_4 (by decide) (by decide)]; exact b9.2.2.2.2⟩ a_u_self
  · by_cases zd : s = n
    · subst zd
      have z0 := hz T.length (Nat.le_refl _)
      have zn : ∀ q, (a_u (a_u (a_u (a_u (a_u (a_u (a_u (a_u I T.length 0 fl) T.length 1 pk) T.length 2 its) T.length 3 f) T.length 4 a) T.length 5 b) 1 1 (nI (s + 1))) 8 11 0) T.length q = (a_u (a_u (a_u (a_u (a_u (a_u I T.length 0 fl) T.length 1 pk) T.length 2 its) T.length 3 f) T.length 4 a) T.length 5 b) T.length q := fun q => by rw [a_u_row (by omega), a_u_row (by omega)]
      have u := h9.bk.2.2.2.1 s (Nat.le_refl _) (by omega)
      show a_u R 2 s (some T.length) 2 s = some (if s = s then T.length else sq s) ∧ StAt T2 _ _ (if s = s then T.length else sq s) s
      rw [if_pos rfl, a_u_self]
      unfold StAt
      rw [zn, zn, zn, zn, zn, zn, zn, zn, pn.1, pn.2.1, pn.2.2.1, pn.2.2.2.1, pn.2.2.2.2.1, pn.2.2.2.2.2, po 51 (by decide), po 52 (by decide), u.1, u.2]
      refine ⟨rfl, tq, ?_, ?_, ?_, ?_, ?_, ?_, ?_, ?_⟩ <;> simp [a_u, z0]
    · have q := cs.at (show s < n by omega)
      have g5 := ge s (by omega)
      show a_u R 2 n (some T.length) 2 s = some (if s = n then T.length else sq s) ∧ StAt T2 _ _ (if s = n then T.length else sq s) s
      rw [if_neg zd, a_u_ne (fun z => zd z.2)]
      have pb9 := pb s (by omega)
      unfold StAt at *
      rw [lo _ g5.2 (by omega) (by omega), pb9.1, pb9.2.1, pb9.2.2.1, pb9.2.2.2.1, pb9.2.2.2.2.1, pb9.2.2.2.2.2, po 51 (by decide), po 52 (by decide)]
      exact ⟨cs.rf (by omega), a_pfx hp q.1, q.2⟩
  · have e9 : (if s = n then T.length else sq s) = (if t = n then T.length else sq t) := e
    by_cases zd : s = n
    · by_cases zc : t = n
      · omega
      · rw [if_pos zd, if_neg zc] at e9
        have := (ge t (by omega)).2; omega
    · by_cases zc : t = n
      · rw [if_neg zd, if_pos zc] at e9
        have := (ge s (by omega)).2; omega
      · rw [if_neg zd, if_neg zc] at e9
        exact cs.inj (by omega) (by omega) e9
theorem nI_code {its f a b : Int32} {n k : Nat} (h : mCode its f a b n = nI k) (hk : 0 < k ∧ k < 4) : mCode its f a b n ≠ 0 := by
  rw [h]; intro e
  have e2 : nI k = nI 0 := e
  have := (nI_eq (by omega) (by omega)).mp e2; omega
set_option maxRecDepth 100000 in
theorem m_X11_addStatement {T : List aT} {I : aI} {J : aJ} {R : aR} (hT : aPT T) (hR : aPR R) {n q : Nat} (hn : I 1 1 = nI n) (hn30 : n < 30) (hq9 : T[q]? = some (.inr 8)) : MX11_addStatement 0 0 [.ref 0, .ref q] T I J R (aPure (some (.int (nI n))) T (a_u (a_u I 1 1 (nI (n + 1))) 8 11 0) J (a_u R 2 n (some q))) := by
  refine a_met (by decide +kernel) a_le (fun X hC hq => ?_)
  show AW X 0 0 0 [some (.ref 0), some (.ref q)] [] T I J R
  refine aw_aload_n hC dX11_addStatement_0 rfl ?_
  refine aw_getR hC dX11_addStatement_1 aF_X11_10 rfl (tg_0 hT) (pr_0_0 hR) ?_
  refine aw_getR hC dX11_addStatement_4 aF_X11_102 rfl (tg_1 hT) (pr_1_0 hR) ?_
  refine aw_aload_n hC dX11_addStatement_7 rfl ?_
  refine aw_getR hC dX11_addStatement_8 aF_X11_10 rfl (tg_0 hT) (pr_0_0 hR) ?_
  refine aw_getI hC dX11_addStatement_11 aF_X11_98 rfl (tg_1 hT) ?_
  rw [hn]
  refine aw_aload_n hC dX11_addStatement_14 rfl ?_
  refine aw_aastoreR_k (j := n) hC dX11_addStatement_15 (tg_2 hT) (nI_clamp (by omega)) (vp_in_nI (by omega) (by decide)) hq9 rfl ?_
  have hR1 : aPR (a_u R 2 n (some q)) := hR.put (fun q9 h9 e9 => by have := a_refs_no2 q9 h9; omega)
  refine aw_aload_n hC dX11_addStatement_16 rfl ?_
  refine aw_getR hC dX11_addStatement_17 aF_X11_10 rfl (tg_0 hT) (pr_0_0 hR1) ?_
  refine aw_dup hC dX11_addStatement_20 rfl ?_
  refine aw_getI hC dX11_addStatement_21 aF_X11_98 rfl (tg_1 hT) ?_
  rw [hn]
  refine aw_iconst (v := 1) hC dX11_addStatement_24 (by decide) ?_
  refine aw_iadd hC dX11_addStatement_25 ?_
  rw [show (nI n) + 1 = nI (n + 1) from nI_add n 1]
  refine aw_putI hC dX11_addStatement_26 aF_X11_98 rfl rfl (tg_1 hT) ?_
  refine aw_aload_n hC dX11_addStatement_29 rfl ?_
  refine aw_getR hC dX11_addStatement_30 aF_X11_21 rfl (tg_0 hT) (pr_0_1 hR1) ?_
  refine kX11_91 hC rfl (m_X10_forget (I := a_u I 1 1 (nI (n + 1))) hT hR1) dX11_addStatement_33 (tg_8 hT) rfl a_le a_le a_le a_le a_le rfl aPure_x (aPure_k ?_)
  show AW X 0 0 36 [some (.ref 0), some (.ref q)] [] T (a_u (a_u I 1 1 (nI (n + 1))) 8 11 0) J (a_u R 2 n (some q))
  refine aw_aload_n hC dX11_addStatement_36 rfl ?_
  refine aw_getR hC dX11_addStatement_37 aF_X11_10 rfl (tg_0 hT) (pr_0_0 hR1) ?_
  refine aw_getI hC dX11_addStatement_40 aF_X11_98 rfl (tg_1 hT) ?_
  rw [a_u_ne (f := a_u I 1 1 (nI (n + 1))) (o := 8) (k := 11) (a := 1) (b := 1) (v := 0) (fun q => absurd q.1 (by decide))]
  rw [a_u_self (f := I) (o := 1) (k := 1) (v := nI (n + 1))]
  refine aw_iconst (v := 1) hC dX11_addStatement_43 (by decide) ?_
  refine aw_isub hC dX11_addStatement_44 ?_
  rw [show (nI (n + 1)) - 1 = nI ((n + 1) - 1) from pk_sub (a := (n + 1)) (b := 1) (by omega)]
  exact aw_ireturn hC hq rfl dX11_addStatement_45 a_le a_le (aPure_i (by rw [show n + 1 - 1 = n by omega]))
theorem i_le5 {a : Int32} (h : a < 6) : a ≤ 5 := by simp only [i_lt, i_le, Int32.reduceToInt] at *; omega
theorem i_lt6 {a : Int32} (h : a ≤ 5) : a < 6 := by simp only [i_lt, i_le, Int32.reduceToInt] at *; omega
set_option maxRecDepth 100000 in
theorem m_X11_tell {T : List aT} {I : aI} {J : aJ} {R : aR} {m : aI} {c n : Nat} {sq : Nat → Nat} {g : Nat} {gq eq : Nat → Nat} {r p : Nat} {pq : Nat → Nat} {k : Nat} (h9 : G9 T I J R m c n sq g gq eq r p pq k) (x its f a b : Int32) : MX11_tell 3 200 [.ref 0, .int x, .int its, .int f, .int a, .int b] T I J R (CP [exI, exA, exS] I J m c (fun k v m2 => (((0 ≤ x ∧ x ≤ 5) ∧ mCode its f a b n = 0) ∧ k = 0 ∧ v = nI n ∧ m2 = mPut m n x (-1) its f a b) ∨ (((0 ≤ x ∧ x ≤ 5) ∧ mCode its f a b n ≠ 0) ∧ nI k = mCode its f a b n ∧ m2 = m) ∨ (¬ (0 ≤ x ∧ x ≤ 5) ∧ k = 1 ∧ m2 = m))) := by
  refine a_met (by decide +kernel) a_le (fun X hC hq => ?_)
  show AW X 0 0 0 [some (.ref 0), some (.int x), some (.int its), some (.int f), some (.int a), some (.int b)] [] T I J R
  have hT := h9.hT
  have hR := h9.hR
  refine aw_ok (fun hz => ?_)
  show AW X 0 0 0 [some (.ref 0), some (.int x), some (.int its), some (.int f), some (.int a), some (.int b)] [] T I J R
  refine aw_iload_n hC dX11_tell_0 rfl ?_
  refine aw_bipush (v := 6) hC dX11_tell_1 (by decide) ?_
  refine kX11_64 hC rfl (m_X11_isBelow x (6 : Int32)) dX11_tell_3 rfl a_le a_le a_le a_le a_le rfl aPure_x (aPure_k ?_)
  show AW X 0 0 6 [some (.ref 0), some (.int x), some (.int its), some (.int f), some (.int a), some (.int b)] [.int (bI (decide (0 ≤ x ∧ x < (6 : Int32))))] T I J R
  by_cases hn1 : bI (decide (0 ≤ x ∧ x < (6 : Int32))) = 0
  · rw [hn1]
    exact kX11_68 hC rfl (m_X11_needIndexF (T := T) (I := I) (J := J) (R := R)) dX11_tell_6 rfl a_le a_le a_le a_le a_le rfl (aTh_x (ae_out hC hq a_le a_le (CP.th (j := 0) rfl (Or.inr (Or.inr ⟨fun q => absurd (show 0 ≤ x ∧ x < 6 from ⟨q.1, i_lt6 q.2⟩) (of_decide_eq_false (bI_e0.mp (by assumption))), rfl, rfl⟩)) h9.gi))) aTh_k
  · refine kX11_68 hC rfl (m_X11_needIndexT (T := T) (I := I) (J := J) (R := R) (x := bI (decide (0 ≤ x ∧ x < (6 : Int32)))) hn1) dX11_tell_6 rfl a_le a_le a_le a_le a_le rfl aPure_x (aPure_k ?_)
    show AW X 0 0 9 [some (.ref 0), some (.int x), some (.int its), some (.int f), some (.int a), some (.int b)] [] T I J R
    refine aw_aload_n hC dX11_tell_9 rfl ?_
    refine aw_iload_n hC dX11_tell_10 rfl ?_
    refine aw_iload_n hC dX11_tell_11 rfl ?_
    refine aw_iload hC dX11_tell_12 rfl ?_
    refine aw_iload hC dX11_tell_14 rfl ?_
    have hxb := of_decide_eq_true (bI_n0.mp (by assumption))
    refine kX11_72 hC rfl (m_X11_needStatement hT hR its f a b h9.cb.1.1 h9.bk.1.n30) dX11_tell_16 (tg_0 hT) rfl a_le a_le a_le a_le a_le rfl (NsP_x (fun hcode => ae_out hC hq a_le a_le (CP.th (j := 0) rfl (Or.inr (Or.inl ⟨⟨⟨hxb.1, i_le5 hxb.2⟩, nI_code hcode (by decide)⟩, hcode.symm, rfl⟩)) h9.gi)) (fun hcode => ae_out hC hq a_le a_le (CP.th (j := 1) rfl (Or.inr (Or.inl ⟨⟨⟨hxb.1, i_le5 hxb.2⟩, nI_code hcode (by decide)⟩, hcode.symm, rfl⟩)) h9.gi)) (fun hcode => ae_out hC hq a_le a_le (CP.th (j := 2) rfl (Or.inr (Or.inl ⟨⟨⟨hxb.1, i_le5 hxb.2⟩, nI_code hcode (by decide)⟩, hcode.symm, rfl⟩)) h9.gi))) (NsP_k (fun hcode => ?_))
    have hn30 := h9.bk.1.n30
    have hn31 := (mC_z hcode).2.2
    have hn3 : n < 30 := by omega
    obtain ⟨L9, hL9⟩ : ∃ L9, T.length = L9 := ⟨_, rfl⟩
    have h95 := hT.len
    rw [hL9] at h95
    show AW X (0 + 1) (0 + 6) 19 [some (.ref 0), some (.int x), some (.int its), some (.int f), some (.int a), some (.int b)] [] T I J R
    refine aw_aload_n hC dX11_tell_19 rfl ?_
    refine aw_new hC dX11_tell_20 aK_X8 gW_X11_76 gB_X8 gN_X8 a_le a_le ?_
    rw [hL9]
    obtain ⟨T1, hTT1⟩ : ∃ T1, T1 = T ++ [.inr 8] := ⟨_, rfl⟩
    rw [← hTT1]
    have hA1 := T_ap1 hL9 hTT1
    have hp1 : T <+: T1 := hA1.1
    show AW X ((0 + 1) + 1) ((0 + 6) + a_nf 8) 23 [some (.ref 0), some (.int x), some (.int its), some (.int f), some (.int a), some (.int b)] [.ref L9, .ref 0] T1 I J R
    refine aw_dup hC dX11_tell_23 rfl ?_
    refine aw_iload_n hC dX11_tell_24 rfl ?_
    refine aw_iconst (v := (-1)) hC dX11_tell_25 (by decide) ?_
    refine aw_iload_n hC dX11_tell_26 rfl ?_
    refine aw_iload_n hC dX11_tell_27 rfl ?_
    refine aw_iload hC dX11_tell_28 rfl ?_
    refine aw_iload hC dX11_tell_30 rfl ?_
    refine kX11_78 hC rfl (m_X8_init (I := I) hA1.2.2 x ((-1) : Int32) its f a b) dX11_tell_32 rfl a_le a_le a_le a_le a_le rfl aPure_x (aPure_k ?_)
    show AW X ((0 + 1) + 1) ((0 + 6) + a_nf 8) 35 [some (.ref 0), some (.int x), some (.int its), some (.int f), some (.int a), some (.int b)] [.ref L9, .ref 0] T1 (a_u (a_u (a_u (a_u (a_u (a_u I L9 0 x) L9 1 (-1)) L9 2 its) L9 3 f) L9 4 a) L9 5 b) J R
    have hN1 : (a_u (a_u (a_u (a_u (a_u (a_u I L9 0 x) L9 1 (-1)) L9 2 its) L9 3 f) L9 4 a) L9 5 b) 1 1 = nI n := by rw [a_u_row (by omega), a_u_row (by omega), a_u_row (by omega), a_u_row (by omega), a_u_row (by omega), a_u_row (by omega)]; exact h9.cb.1.1
    refine kX11_81 hC rfl (m_X11_addStatement (hT.next hp1) hR (n := n) (q := L9) hN1 hn3 hA1.2.2) dX11_tell_35 (tg_0 (hT.next hp1)) rfl a_le a_le a_le a_le a_le rfl aPure_x (aPure_k ?_)
    have hR2 : aPR (a_u R 2 n (some L9)) := hR.put (fun q9 h9 e9 => by have := a_refs_no2 q9 h9; omega)
    show AW X ((0 + 1) + 1) ((0 + 6) + a_nf 8) 38 [some (.ref 0), some (.int x), some (.int its), some (.int f), some (.int a), some (.int b)] [.int (nI n)] T1 (a_u (a_u (a_u (a_u (a_u (a_u (a_u (a_u I L9 0 x) L9 1 (-1)) L9 2 its) L9 3 f) L9 4 a) L9 5 b) 1 1 (nI (n + 1))) 8 11 0) J (a_u R 2 n (some L9))
    exact aw_ireturn hC hq rfl dX11_tell_38 a_le a_le (CP.ok (Or.inl ⟨⟨⟨hxb.1, i_le5 hxb.2⟩, hcode⟩, rfl, rfl, rfl⟩) (fun o u v => ⟨by rw [a_u_row (by omega), a_u_row (by omega), a_u_row (by omega), a_u_row (by omega), a_u_row (by omega), a_u_row (by omega), a_u_row (by omega), a_u_row (by omega)], rfl⟩) (by have q9 := tl_g9 h9 (fl := x) (pk := (-1)) hcode (Or.inl ⟨hxb.1, i_le5 hxb.2, rfl⟩) hTT1 (fun o ho => (hz o ho).1); rw [hL9] at q9; exact q9.gi))
theorem i_nat2 {x : Int32} (h : 0 ≤ x ∧ x < 3) : ∃ k, x = nI k ∧ k < 3 := by
  obtain ⟨k, hk, zz1⟩ := i_nat h.1 h.2 (b := 3) rfl (by decide)
  exact ⟨k, zz1, hk⟩
set_option maxRecDepth 100000 in
theorem m_X11_draft {T : List aT} {I : aI} {J : aJ} {R : aR} {m : aI} {c n : Nat} {sq : Nat → Nat} {g : Nat} {gq eq : Nat → Nat} {r p : Nat} {pq : Nat → Nat} {k : Nat} (h9 : G9 T I J R m c n sq g gq eq r p pq k) (x its f a b : Int32) : MX11_draft 3 200 [.ref 0, .int x, .int its, .int f, .int a, .int b] T I J R (CP [exI, exA, exS] I J m c (fun k v m2 => (((0 ≤ x ∧ x ≤ 2) ∧ mCode its f a b n = 0) ∧ k = 0 ∧ v = nI n ∧ m2 = mPut m n (-1) x its f a b) ∨ (((0 ≤ x ∧ x ≤ 2) ∧ mCode its f a b n ≠ 0) ∧ nI k = mCode its f a b n ∧ m2 = m) ∨ (¬ (0 ≤ x ∧ x ≤ 2) ∧ k = 1 ∧ m2 = m))) := by
  refine a_met (by decide +kernel) a_le (fun X hC hq => ?_)
  show AW X 0 0 0 [some (.ref 0), some (.int x), some (.int its), some (.int f), some (.int a), some (.int b)] [] T I J R
  have hT := h9.hT
  have hR := h9.hR
  refine aw_ok (fun hz => ?_)
  show AW X 0 0 0 [some (.ref 0), some (.int x), some (.int its), some (.int f), some (.int a), some (.int b)] [] T I J R
  refine aw_iload_n hC dX11_draft_0 rfl ?_
  refine aw_iconst (v := 3) hC dX11_draft_1 (by decide) ?_
  refine kX11_64 hC rfl (m_X11_isBelow x (3 : Int32)) dX11_draft_2 rfl a_le a_le a_le a_le a_le rfl aPure_x (aPure_k ?_)
  show AW X 0 0 5 [some (.ref 0), some (.int x), some (.int its), some (.int f), some (.int a), some (.int b)] [.int (bI (decide (0 ≤ x ∧ x < (3 : Int32))))] T I J R
  by_cases hn1 : bI (decide (0 ≤ x ∧ x < (3 : Int32))) = 0
  · rw [hn1]
    exact kX11_68 hC rfl (m_X11_needIndexF (T := T) (I := I) (J := J) (R := R)) dX11_draft_5 rfl a_le a_le a_le a_le a_le rfl (aTh_x (ae_out hC hq a_le a_le (CP.th (j := 0) rfl (Or.inr (Or.inr ⟨fun q => absurd (show 0 ≤ x ∧ x < 3 from ⟨q.1, i_lt3 q.2⟩) (of_decide_eq_false (bI_e0.mp (by assumption))), rfl, rfl⟩)) h9.gi))) aTh_k
  · refine kX11_68 hC rfl (m_X11_needIndexT (T := T) (I := I) (J := J) (R := R) (x := bI (decide (0 ≤ x ∧ x < (3 : Int32)))) hn1) dX11_draft_5 rfl a_le a_le a_le a_le a_le rfl aPure_x (aPure_k ?_)
    show AW X 0 0 8 [some (.ref 0), some (.int x), some (.int its), some (.int f), some (.int a), some (.int b)] [] T I J R
    refine aw_aload_n hC dX11_draft_8 rfl ?_
    refine aw_iload_n hC dX11_draft_9 rfl ?_
    refine aw_iload_n hC dX11_draft_10 rfl ?_
    refine aw_iload hC dX11_draft_11 rfl ?_
    refine aw_iload hC dX11_draft_13 rfl ?_
    have hxb := of_decide_eq_true (bI_n0.mp (by assumption))
    refine kX11_72 hC rfl (m_X11_needStatement hT hR its f a b h9.cb.1.1 h9.bk.1.n30) dX11_draft_15 (tg_0 hT) rfl a_le a_le a_le a_le a_le rfl (NsP_x (fun hcode => ae_out hC hq a_le a_le (CP.th (j := 0) rfl (Or.inr (Or.inl ⟨⟨⟨hxb.1, i_le2 hxb.2⟩, nI_code hcode (by decide)⟩, hcode.symm, rfl⟩)) h9.gi)) (fun hcode => ae_out hC hq a_le a_le (CP.th (j := 1) rfl (Or.inr (Or.inl ⟨⟨⟨hxb.1, i_le2 hxb.2⟩, nI_code hcode (by decide)⟩, hcode.symm, rfl⟩)) h9.gi)) (fun hcode => ae_out hC hq a_le a_le (CP.th (j := 2) rfl (Or.inr (Or.inl ⟨⟨⟨hxb.1, i_le2 hxb.2⟩, nI_code hcode (by decide)⟩, hcode.symm, rfl⟩)) h9.gi))) (NsP_k (fun hcode => ?_))
    have hn30 := h9.bk.1.n30
    have hn31 := (mC_z hcode).2.2
    have hn3 : n < 30 := by omega
    obtain ⟨L9, hL9⟩ : ∃ L9, T.length = L9 := ⟨_, rfl⟩
    have h95 := hT.len
    rw [hL9] at h95
    show AW X (0 + 1) (0 + 6) 18 [some (.ref 0), some (.int x), some (.int its), some (.int f), some (.int a), some (.int b)] [] T I J R
    refine aw_aload_n hC dX11_draft_18 rfl ?_
    refine aw_new hC dX11_draft_19 aK_X8 gW_X11_76 gB_X8 gN_X8 a_le a_le ?_
    rw [hL9]
    obtain ⟨T1, hTT1⟩ : ∃ T1, T1 = T ++ [.inr 8] := ⟨_, rfl⟩
    rw [← hTT1]
    have hA1 := T_ap1 hL9 hTT1
    have hp1 : T <+: T1 := hA1.1
    show AW X ((0 + 1) + 1) ((0 + 6) + a_nf 8) 22 [some (.ref 0), some (.int x), some (.int its), some (.int f), some (.int a), some (.int b)] [.ref L9, .ref 0] T1 I J R
    refine aw_dup hC dX11_draft_22 rfl ?_
    refine aw_iconst (v := (-1)) hC dX11_draft_23 (by decide) ?_
    refine aw_iload_n hC dX11_draft_24 rfl ?_
    refine aw_iload_n hC dX11_draft_25 rfl ?_
    refine aw_iload_n hC dX11_draft_26 rfl ?_
    refine aw_iload hC dX11_draft_27 rfl ?_
    refine aw_iload hC dX11_draft_29 rfl ?_
    refine kX11_78 hC rfl (m_X8_init (I := I) hA1.2.2 ((-1) : Int32) x its f a b) dX11_draft_31 rfl a_le a_le a_le a_le a_le rfl aPure_x (aPure_k ?_)
    show AW X ((0 + 1) + 1) ((0 + 6) + a_nf 8) 34 [some (.ref 0), some (.int x), some (.int its), some (.int f), some (.int a), some (.int b)] [.ref L9, .ref 0] T1 (a_u (a_u (a_u (a_u (a_u (a_u I L9 0 (-1)) L9 1 x) L9 2 its) L9 3 f) L9 4 a) L9 5 b) J R
    have hN1 : (a_u (a_u (a_u (a_u (a_u (a_u I L9 0 (-1)) L9 1 x) L9 2 its) L9 3 f) L9 4 a) L9 5 b) 1 1 = nI n := by rw [a_u_row (by omega), a_u_row (by omega), a_u_row (by omega), a_u_row (by omega), a_u_row (by omega), a_u_row (by omega)]; exact h9.cb.1.1
    refine kX11_81 hC rfl (m_X11_addStatement (hT.next hp1) hR (n := n) (q := L9) hN1 hn3 hA1.2.2) dX11_draft_34 (tg_0 (hT.next hp1)) rfl a_le a_le a_le a_le a_le rfl aPure_x (aPure_k ?_)
    have hR2 : aPR (a_u R 2 n (some L9)) := hR.put (fun q9 h9 e9 => by have := a_refs_no2 q9 h9; omega)
    show AW X ((0 + 1) + 1) ((0 + 6) + a_nf 8) 37 [some (.ref 0), some (.int x), some (.int its), some (.int f), some (.int a), some (.int b)] [.int (nI n)] T1 (a_u (a_u (a_u (a_u (a_u (a_u (a_u (a_u I L9 0 (-1)) L9 1 x) L9 2 its) L9 3 f) L9 4 a) L9 5 b) 1 1 (nI (n + 1))) 8 11 0) J (a_u R 2 n (some L9))
    exact aw_ireturn hC hq rfl dX11_draft_37 a_le a_le (CP.ok (Or.inl ⟨⟨⟨hxb.1, i_le2 hxb.2⟩, hcode⟩, rfl, rfl, rfl⟩) (fun o u v => ⟨by rw [a_u_row (by omega), a_u_row (by omega), a_u_row (by omega), a_u_row (by omega), a_u_row (by omega), a_u_row (by omega), a_u_row (by omega), a_u_row (by omega)], rfl⟩) (by have q9 := tl_g9 h9 (fl := (-1)) (pk := x) hcode (Or.inr ⟨rfl, i_nat2 hxb⟩) hTT1 (fun o ho => (hz o ho).1); rw [hL9] at q9; exact q9.gi))
