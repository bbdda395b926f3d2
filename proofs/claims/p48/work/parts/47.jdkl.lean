theorem un_add_bit {x : Int32} {t : Nat} (ht : t < 32) (h0 : ∀ j, j < t → bt x j = false) (h1 : bt x t = true) : ∃ q, un x = 2 ^ t * (2 * q + 1) := by
  have p := Nat.two_pow_pos t
  have e := Nat.div_add_mod (un x) (2 ^ t)
  have z : un x % 2 ^ t = 0 := Nat.eq_of_testBit_eq fun i => by
    rw [Nat.testBit_mod_two_pow, Nat.zero_testBit]
    by_cases c : i < t
    · have : (un x).testBit i = false := h0 i c
      simp [this]
    · simp [c]
  have o : un x / 2 ^ t % 2 = 1 := by
    have h2 : (un x).testBit t = true := h1
    rw [Nat.testBit_eq_decide_div_mod_eq] at h2
    simpa using h2
  rw [z] at e
  have e2 := Nat.div_add_mod (un x / 2 ^ t) 2
  rw [o] at e2
  exact ⟨un x / 2 ^ t / 2, by rw [e2]; omega⟩
theorem mask_tz {x : Int32} {t : Nat} (ht : t < 32) (h0 : ∀ j, j < t → bt x j = false) (h1 : bt x t = true) : (x ^^^ (-1)) &&& (x - 1) = nI (2 ^ t - 1) := by
  obtain ⟨q, hq⟩ := un_add_bit ht h0 h1
  have p := Nat.two_pow_pos t
  have hx := un_lt x
  have hs : (x - 1).toBitVec.toNat = 2 ^ t * (2 * q) + (2 ^ t - 1) := by
    have e : (x - 1).toBitVec = x.toBitVec - 1#32 := rfl
    rw [e, BitVec.toNat_sub, show (1#32).toNat = 1 from rfl]
    have hq2 : x.toBitVec.toNat = 2 ^ t * (2 * q + 1) := hq
    have e3 : 2 ^ t * (2 * q + 1) = 2 ^ t * (2 * q) + 2 ^ t := by rw [Nat.mul_add, Nat.mul_one]
    have hx2 : x.toBitVec.toNat < 4294967296 := hx
    rw [hq2, e3] at *
    rw [show 2 ^ 32 - 1 + (2 ^ t * (2 * q) + 2 ^ t) = 2 ^ t * (2 * q) + (2 ^ t - 1) + 2 ^ 32 by omega, Nat.add_mod_right]
    exact Nat.mod_eq_of_lt (by omega)
  refine b_ext fun i hi => ?_
  rw [b_and, b_xor, b_m1 i hi, Bool.xor_true]
  have e4 : bt (nI (2 ^ t - 1)) i = decide (i < t) := by
    show (BitVec.ofNat 32 (2 ^ t - 1)).getLsbD i = _
    rw [BitVec.getLsbD_ofNat, Nat.testBit_two_pow_sub_one]; simp [hi]
  have e5 : bt (x - 1) i = if i < t then (2 ^ t - 1).testBit i else (2 * q).testBit (i - t) := by
    show (x - 1).toBitVec.toNat.testBit i = _
    rw [hs]; exact Nat.testBit_two_pow_mul_add (2 * q) (by omega) i
  rw [e4, e5]
  by_cases c : i < t
  · rw [if_pos c, Nat.testBit_two_pow_sub_one, h0 i c]; simp [c]
  · rw [if_neg c]
    by_cases d : i = t
    · subst d; rw [h1]; simp
    · have e6 : bt x i = (2 * q + 1).testBit (i - t) := by
        show x.toBitVec.toNat.testBit i = _
        have hq2 : x.toBitVec.toNat = 2 ^ t * (2 * q + 1) + 0 := hq
        rw [hq2, Nat.testBit_two_pow_mul_add _ p i, if_neg c]
      obtain ⟨k, hk⟩ : ∃ k, i - t = k + 1 := ⟨i - t - 1, by omega⟩
      rw [e6, hk, Nat.testBit_succ, Nat.testBit_succ, show (2 * q + 1) / 2 = q by omega, show 2 * q / 2 = q by omega]
      simp [c]
def iLeast (x : Int32) : Nat := ((List.range 32).find? (fun j => bt x j)).getD 32
theorem iLeast_sp (x : Int32) : (∀ j, j < iLeast x → bt x j = false) ∧ (iLeast x = 32 ∨ (iLeast x < 32 ∧ bt x (iLeast x) = true)) := by
  unfold iLeast
  cases f : (List.range 32).find? (fun j => bt x j) with
  | none =>
    rw [List.find?_eq_none] at f
    exact ⟨fun j hj => by simpa using f j (List.mem_range.mpr (by simpa using hj)), Or.inl rfl⟩
  | some v =>
    obtain ⟨h1, h2, h3⟩ := List.find?_range_eq_some.mp f
    exact ⟨fun j hj => by simpa using h3 j (by simpa using hj), Or.inr ⟨by simpa using h2, h1⟩⟩
theorem iLeast_eq {x : Int32} {k : Nat} (h : ∀ j, j < k → bt x j = false) (hk : k < 32) (hb : bt x k = true) : iLeast x = k := by
  obtain ⟨a, b⟩ := iLeast_sp x
  rcases Nat.lt_trichotomy (iLeast x) k with c | c | c
  · rcases b with b | b
    · omega
    · rw [h _ c] at b; cases b.2
  · exact c
  · rw [a k c] at hb; cases hb
theorem bt_z {x : Int32} : x = 0 ↔ ∀ j, j < 32 → bt x j = false := ⟨fun h j _ => by rw [h, b_0], fun h => b_ext fun i hi => by rw [h i hi, b_0]⟩
theorem m_ntz {T : List aT} {I : aI} {J : aJ} {R : aR} (x : Int32) : MJ6_numberOfTrailingZeros_0f7a4 0 0 [.int x] T I J R (aPure (some (.int (nI (iLeast x)))) T I J R) := by
  obtain ⟨a, b⟩ := iLeast_sp x
  rcases b with b | ⟨b1, b2⟩
  · have e : x = 0 := bt_z.mpr fun j hj => a j (by omega)
    rw [b, e]; exact m_ntzZ
  · have hm := mask_tz b1 a b2
    rcases Nat.eq_zero_or_pos (iLeast x) with z | z
    · rw [z] at hm ⊢; exact m_ntz0 x hm
    · have p : 2 ^ iLeast x ≤ 2 ^ 31 := Nat.pow_le_pow_right (by decide) (by omega)
      have p2 : 2 ^ 1 ≤ 2 ^ iLeast x := Nat.pow_le_pow_right (by decide) z
      exact m_ntzP z b1 rfl (by omega) (by omega) x hm
theorem bt_low {x : Int64} {j : Nat} (h : j < 32) : bt x.toInt32 j = xb x j := by
  show (x.toBitVec.signExtend 32).getLsbD j = _
  rw [BitVec.getLsbD_signExtend, if_pos (by omega), decide_eq_true h]; rfl
theorem bt_high {x : Int64} {j : Nat} (h : j < 32) : bt ((x.toUInt64 >>> ((32 : Int32).toInt64.toUInt64 &&& Int64.toUInt64 63)).toInt64.toInt32) j = xb x (32 + j) := by
  rw [bt_low h]; exact xb_ushr (k := 32) (by decide)
theorem sL_low {x : Int64} (h : x.toInt32 ≠ 0) : sLeast x = iLeast x.toInt32 := by
  obtain ⟨a, b⟩ := iLeast_sp x.toInt32
  rcases b with b | ⟨b1, b2⟩
  · exact absurd (bt_z.mpr fun j hj => a j (by omega)) h
  · exact sLeast_eq (fun j hj => by rw [← bt_low (by omega)]; exact a j hj) (Or.inr ⟨by omega, by rw [← bt_low (by omega)]; exact b2⟩)
theorem sL_high {x : Int64} (h : x.toInt32 = 0) : sLeast x = 32 + iLeast ((x.toUInt64 >>> ((32 : Int32).toInt64.toUInt64 &&& Int64.toUInt64 63)).toInt64.toInt32) := by
  obtain ⟨a, b⟩ := iLeast_sp ((x.toUInt64 >>> ((32 : Int32).toInt64.toUInt64 &&& Int64.toUInt64 63)).toInt64.toInt32)
  have z := bt_z.mp h
  have b9 : iLeast ((x.toUInt64 >>> ((32 : Int32).toInt64.toUInt64 &&& Int64.toUInt64 63)).toInt64.toInt32) ≤ 32 := by omega
  refine sLeast_eq (fun j hj => ?_) ?_
  · by_cases c : j < 32
    · rw [← bt_low c]; exact z j c
    · have := a (j - 32) (by omega)
      rw [bt_high (by omega), show 32 + (j - 32) = j by omega] at this; exact this
  · rcases b with b | ⟨b1, b2⟩
    · exact Or.inl (by omega)
    · exact Or.inr ⟨by omega, by rw [bt_high b1] at b2; exact b2⟩
theorem iG_hi {x : Int32} {j : Nat} (h : bl (un x) ≤ j) : bt x j = false := by
  show x.toBitVec.toNat.testBit j = false
  unfold bl at h
  by_cases c : un x = 0
  · have : x.toBitVec.toNat = 0 := c
    rw [this, Nat.zero_testBit]
  · rw [if_neg c] at h
    exact Nat.testBit_lt_two_pow (Nat.lt_of_lt_of_le Nat.lt_log2_self (Nat.pow_le_pow_right (by decide) h))
theorem iG_top {x : Int32} (h : un x ≠ 0) : 0 < bl (un x) ∧ bl (un x) ≤ 32 ∧ bt x (bl (un x) - 1) = true := by
  unfold bl; rw [if_neg h]
  refine ⟨by omega, ?_, Nat.testBit_log2 h⟩
  have := (Nat.log2_lt h).mpr (show un x < 2 ^ 32 from un_lt x)
  omega
theorem un_z {x : Int32} : un x = 0 ↔ x = 0 := ⟨fun h => by rw [nI_un x, h]; rfl, fun h => by rw [h]; rfl⟩
theorem sG_high {x : Int64} (h : (x.toUInt64 >>> ((32 : Int32).toInt64.toUInt64 &&& Int64.toUInt64 63)).toInt64.toInt32 ≠ 0) : sGreat x = 32 + bl (un ((x.toUInt64 >>> ((32 : Int32).toInt64.toUInt64 &&& Int64.toUInt64 63)).toInt64.toInt32)) := by
  obtain ⟨a, b, c⟩ := iG_top (fun q => h (un_z.mp q))
  refine sGreat_eq (by omega) (fun j h1 h2 => ?_) (Or.inr ⟨by omega, ?_⟩)
  · have := iG_hi (x := (x.toUInt64 >>> ((32 : Int32).toInt64.toUInt64 &&& Int64.toUInt64 63)).toInt64.toInt32) (j := j - 32) (by omega)
    rw [bt_high (by omega), show 32 + (j - 32) = j by omega] at this; exact this
  · rw [bt_high (by omega)] at c
    rw [show 32 + bl (un ((x.toUInt64 >>> ((32 : Int32).toInt64.toUInt64 &&& Int64.toUInt64 63)).toInt64.toInt32)) - 1 = 32 + (bl (un ((x.toUInt64 >>> ((32 : Int32).toInt64.toUInt64 &&& Int64.toUInt64 63)).toInt64.toInt32)) - 1) by omega]; exact c
theorem sG_low {x : Int64} (h : (x.toUInt64 >>> ((32 : Int32).toInt64.toUInt64 &&& Int64.toUInt64 63)).toInt64.toInt32 = 0) : sGreat x = bl (un x.toInt32) := by
  have z := bt_z.mp h
  have hh : ∀ j, bl (un x.toInt32) ≤ j → j < 64 → xb x j = false := fun j h1 h2 => by
    by_cases c : j < 32
    · rw [← bt_low c]; exact iG_hi h1
    · have := z (j - 32) (by omega)
      rw [bt_high (by omega), show 32 + (j - 32) = j by omega] at this; exact this
  by_cases c : un x.toInt32 = 0
  · refine sGreat_eq ?_ hh (Or.inl (by unfold bl; rw [if_pos c]))
    unfold bl; rw [if_pos c]; omega
  · obtain ⟨a, b, d⟩ := iG_top c
    exact sGreat_eq (by omega) hh (Or.inr ⟨a, by rw [← bt_low (by omega)]; exact d⟩)
theorem bl_32 (x : Int32) : bl (un x) ≤ 32 := by
  by_cases h : un x = 0
  · unfold bl; rw [if_pos h]; omega
  · exact (iG_top h).2.1
set_option maxRecDepth 100000 in
theorem m_J13_numberOfTrailingZeros_95d88 {T : List aT} {I : aI} {J : aJ} {R : aR} (x : Int64) : MJ13_numberOfTrailingZeros_95d88 0 0 [.long x] T I J R (aPure (some (.int (nI (sLeast x)))) T I J R) := by
  refine a_met (by decide +kernel) a_le (fun X hC hq => ?_)
  show AW X 0 0 0 [some (.long x), none, none] [] T I J R
  refine aw_lload_n hC dJ13_numberOfTrailingZeros_95d88_0 rfl ?_
  refine aw_l2i hC dJ13_numberOfTrailingZeros_95d88_1 ?_
  refine aw_istore_n (L2 := [some (.long x), none, some (.int x.toInt32)]) hC dJ13_numberOfTrailingZeros_95d88_2 rfl (by decide) rfl ?_
  refine aw_iload_n hC dJ13_numberOfTrailingZeros_95d88_3 rfl ?_
  refine aw_if_ne (tgt := 21) hC dJ13_numberOfTrailingZeros_95d88_4 (by decide) (fun h1 => ?_) (fun h1 => ?_)
  · show AW X 0 0 21 [some (.long x), none, some (.int x.toInt32)] [] T I J R
    refine aw_iload_n hC dJ13_numberOfTrailingZeros_95d88_21 rfl ?_
    refine kJ13_311 hC rfl (m_ntz x.toInt32) dJ13_numberOfTrailingZeros_95d88_22 rfl a_le a_le a_le a_le a_le rfl aPure_x (aPure_k ?_)
    show AW X 0 0 25 [some (.long x), none, some (.int x.toInt32)] [.int (nI (iLeast x.toInt32))] T I J R
    exact aw_ireturn hC hq rfl dJ13_numberOfTrailingZeros_95d88_25 a_le a_le (aPure_i (by first | rw [sL_low (by assumption)] | rw [sL_high (by assumption)]))
  · show AW X 0 0 7 [some (.long x), none, some (.int x.toInt32)] [] T I J R
    refine aw_bipush (v := 32) hC dJ13_numberOfTrailingZeros_95d88_7 (by decide) ?_
    refine aw_lload_n hC dJ13_numberOfTrailingZeros_95d88_9 rfl ?_
    refine aw_bipush (v := 32) hC dJ13_numberOfTrailingZeros_95d88_10 (by decide) ?_
    refine aw_lushr hC dJ13_numberOfTrailingZeros_95d88_12 ?_
    refine aw_l2i hC dJ13_numberOfTrailingZeros_95d88_13 ?_
    refine kJ13_311 hC rfl (m_ntz (((x.toUInt64 >>> ((32 : Int32).toInt64.toUInt64 &&& Int64.toUInt64 63)).toInt64).toInt32)) dJ13_numberOfTrailingZeros_95d88_14 rfl a_le a_le a_le a_le a_le rfl aPure_x (aPure_k ?_)
    show AW X 0 0 17 [some (.long x), none, some (.int x.toInt32)] [.int (nI (iLeast (((x.toUInt64 >>> ((32 : Int32).toInt64.toUInt64 &&& Int64.toUInt64 63)).toInt64).toInt32))), .int 32] T I J R
    refine aw_iadd hC dJ13_numberOfTrailingZeros_95d88_17 ?_
    rw [show 32 + (nI (iLeast (((x.toUInt64 >>> ((32 : Int32).toInt64.toUInt64 &&& Int64.toUInt64 63)).toInt64).toInt32))) = nI (32 + (iLeast (((x.toUInt64 >>> ((32 : Int32).toInt64.toUInt64 &&& Int64.toUInt64 63)).toInt64).toInt32))) from nI_add 32 (iLeast (((x.toUInt64 >>> ((32 : Int32).toInt64.toUInt64 &&& Int64.toUInt64 63)).toInt64).toInt32))]
    refine aw_goto (tgt := 25) hC dJ13_numberOfTrailingZeros_95d88_18 (by decide) ?_
    exact aw_ireturn hC hq rfl dJ13_numberOfTrailingZeros_95d88_25 a_le a_le (aPure_i (by first | rw [sL_low (by assumption)] | rw [sL_high (by assumption)]))
set_option maxRecDepth 100000 in
theorem m_J13_numberOfLeadingZeros_95d88 {T : List aT} {I : aI} {J : aJ} {R : aR} (x : Int64) : MJ13_numberOfLeadingZeros_95d88 0 0 [.long x] T I J R (aPure (some (.int (nI (64 - sGreat x)))) T I J R) := by
  refine a_met (by decide +kernel) a_le (fun X hC hq => ?_)
  show AW X 0 0 0 [some (.long x), none, none] [] T I J R
  have hb32 := bl_32 x.toInt32
  refine aw_lload_n hC dJ13_numberOfLeadingZeros_95d88_0 rfl ?_
  refine aw_bipush (v := 32) hC dJ13_numberOfLeadingZeros_95d88_1 (by decide) ?_
  refine aw_lushr hC dJ13_numberOfLeadingZeros_95d88_3 ?_
  refine aw_l2i hC dJ13_numberOfLeadingZeros_95d88_4 ?_
  refine aw_istore_n (L2 := [some (.long x), none, some (.int (((x.toUInt64 >>> ((32 : Int32).toInt64.toUInt64 &&& Int64.toUInt64 63)).toInt64).toInt32))]) hC dJ13_numberOfLeadingZeros_95d88_5 rfl (by decide) rfl ?_
  refine aw_iload_n hC dJ13_numberOfLeadingZeros_95d88_6 rfl ?_
  refine aw_if_ne (tgt := 21) hC dJ13_numberOfLeadingZeros_95d88_7 (by decide) (fun h1 => ?_) (fun h1 => ?_)
  · show AW X 0 0 21 [some (.long x), none, some (.int (((x.toUInt64 >>> ((32 : Int32).toInt64.toUInt64 &&& Int64.toUInt64 63)).toInt64).toInt32))] [] T I J R
    refine aw_iload_n hC dJ13_numberOfLeadingZeros_95d88_21 rfl ?_
    refine kJ13_308 hC rfl (m_nlz (((x.toUInt64 >>> ((32 : Int32).toInt64.toUInt64 &&& Int64.toUInt64 63)).toInt64).toInt32)) dJ13_numberOfLeadingZeros_95d88_22 rfl a_le a_le a_le a_le a_le rfl aPure_x (aPure_k ?_)
    show AW X 0 0 25 [some (.long x), none, some (.int (((x.toUInt64 >>> ((32 : Int32).toInt64.toUInt64 &&& Int64.toUInt64 63)).toInt64).toInt32))] [.int (nI (32 - bl (un (((x.toUInt64 >>> ((32 : Int32).toInt64.toUInt64 &&& Int64.toUInt64 63)).toInt64).toInt32))))] T I J R
    exact aw_ireturn hC hq rfl dJ13_numberOfLeadingZeros_95d88_25 a_le a_le (aPure_i (congrArg nI (by first | (have h9 := sG_low (by assumption); omega) | (have h9 := sG_high (by assumption); omega))))
  · show AW X 0 0 10 [some (.long x), none, some (.int (((x.toUInt64 >>> ((32 : Int32).toInt64.toUInt64 &&& Int64.toUInt64 63)).toInt64).toInt32))] [] T I J R
    refine aw_bipush (v := 32) hC dJ13_numberOfLeadingZeros_95d88_10 (by decide) ?_
    refine aw_lload_n hC dJ13_numberOfLeadingZeros_95d88_12 rfl ?_
    refine aw_l2i hC dJ13_numberOfLeadingZeros_95d88_13 ?_
    refine kJ13_308 hC rfl (m_nlz x.toInt32) dJ13_numberOfLeadingZeros_95d88_14 rfl a_le a_le a_le a_le a_le rfl aPure_x (aPure_k ?_)
    show AW X 0 0 17 [some (.long x), none, some (.int (((x.toUInt64 >>> ((32 : Int32).toInt64.toUInt64 &&& Int64.toUInt64 63)).toInt64).toInt32))] [.int (nI (32 - bl (un x.toInt32))), .int 32] T I J R
    refine aw_iadd hC dJ13_numberOfLeadingZeros_95d88_17 ?_
    rw [show 32 + (nI (32 - bl (un x.toInt32))) = nI (32 + (32 - bl (un x.toInt32))) from nI_add 32 (32 - bl (un x.toInt32))]
    refine aw_goto (tgt := 25) hC dJ13_numberOfLeadingZeros_95d88_18 (by decide) ?_
    exact aw_ireturn hC hq rfl dJ13_numberOfLeadingZeros_95d88_25 a_le a_le (aPure_i (congrArg nI (by first | (have h9 := sG_low (by assumption); omega) | (have h9 := sG_high (by assumption); omega))))
set_option maxRecDepth 100000 in
theorem m_J7_fill_53178 {T : List aT} {I : aI} {J : aJ} {R : aR} {a n : Nat} (ha : T[a]? = some (.inl (.int, n))) (hn : n ≤ 100000) (v : Int32) : MJ7_fill_53178 0 0 [.ref a, .int v] T I J R (aPure none T (a_fill I a n (fun _ => v)) J R) := by
  refine a_met (by decide +kernel) a_le (fun X hC hq => ?_)
  show AW X 0 0 0 [some (.ref a), some (.int v), none, none] [] T I J R
  refine aw_iconst (v := 0) hC dJ7_fill_53178_0 (by decide) ?_
  refine aw_istore_n (L2 := [some (.ref a), some (.int v), some (.int 0), none]) hC dJ7_fill_53178_1 rfl (by decide) rfl ?_
  refine aw_aload_n hC dJ7_fill_53178_2 rfl ?_
  refine aw_alen (v := nI n) hC dJ7_fill_53178_3 (by assumption) rfl ?_
  refine aw_istore_n (L2 := [some (.ref a), some (.int v), some (.int 0), some (.int (nI n))]) hC dJ7_fill_53178_4 rfl (by decide) rfl ?_
  rw [show I = a_fill I a 0 (fun _ => v) from a_fill_0.symm]
  have loop : ∀ k, k ≤ n → AW X 0 0 5 [some (.ref a), some (.int v), some (.int (nI k)), some (.int (nI n))] [] T (a_fill I a k (fun _ => v)) J R := by
    refine a_down n (fun k hkl ihl => ?_)
    refine aw_iload_n hC dJ7_fill_53178_5 rfl ?_
    refine aw_iload_n hC dJ7_fill_53178_6 rfl ?_
    refine aw_icmp_ge (tgt := 20) hC dJ7_fill_53178_7 (by decide) (fun h1 => ?_) (fun h1 => ?_)
    · show AW X 0 0 20 [some (.ref a), some (.int v), some (.int (nI k)), some (.int (nI n))] [] T (a_fill I a k (fun _ => v)) J R
      have h1n : n ≤ k := (nI_leI (a := n) (b := k) (by omega) (by omega)).mp h1
      exact aw_return hC hq rfl dJ7_fill_53178_20 a_le a_le (by rw [show k = n from by omega]; exact aPure_v)
    · show AW X 0 0 10 [some (.ref a), some (.int v), some (.int (nI k)), some (.int (nI n))] [] T (a_fill I a k (fun _ => v)) J R
      have h1n : ¬ n ≤ k := fun q9 => h1 ((nI_leI (a := n) (b := k) (by omega) (by omega)).mpr q9)
      refine aw_aload_n hC dJ7_fill_53178_10 rfl ?_
      refine aw_iload_n hC dJ7_fill_53178_11 rfl ?_
      refine aw_iload_n hC dJ7_fill_53178_12 rfl ?_
      refine aw_iastore_k (j := k) hC dJ7_fill_53178_13 (by assumption) (nI_clamp (by omega)) (vp_in_nI (by omega) (by omega)) ?_
      refine aw_iinc (v := nI (k + 1)) (L2 := [some (.ref a), some (.int v), some (.int (nI (k + 1))), some (.int (nI n))]) hC dJ7_fill_53178_14 rfl (nI_inc _) (by decide) rfl ?_
      refine aw_goto (tgt := 5) hC dJ7_fill_53178_17 (by decide) ?_
      rw [show a_u (a_fill I a k (fun _ => v)) a k v = a_fill I a (k + 1) (fun _ => v) from a_fill_succ (g := fun _ => v)]
      exact ihl (by omega)
  exact loop 0 (Nat.zero_le _)
set_option maxRecDepth 100000 in
theorem m_J7_fill_d0a16 {T : List aT} {I : aI} {J : aJ} {R : aR} {a n : Nat} (ha : T[a]? = some (.inl (.long, n))) (hn : n ≤ 100000) (v : Int64) : MJ7_fill_d0a16 0 0 [.ref a, .long v] T I J R (aPure none T I (a_fill J a n (fun _ => v)) R) := by
  refine a_met (by decide +kernel) a_le (fun X hC hq => ?_)
  show AW X 0 0 0 [some (.ref a), some (.long v), none, none, none] [] T I J R
  refine aw_iconst (v := 0) hC dJ7_fill_d0a16_0 (by decide) ?_
  refine aw_istore_n (L2 := [some (.ref a), some (.long v), none, some (.int 0), none]) hC dJ7_fill_d0a16_1 rfl (by decide) rfl ?_
  refine aw_aload_n hC dJ7_fill_d0a16_2 rfl ?_
  refine aw_alen (v := nI n) hC dJ7_fill_d0a16_3 (by assumption) rfl ?_
  refine aw_istore (L2 := [some (.ref a), some (.long v), none, some (.int 0), some (.int (nI n))]) hC dJ7_fill_d0a16_4 (by decide) rfl ?_
  rw [show J = a_fill J a 0 (fun _ => v) from a_fill_0.symm]
  have loop : ∀ k, k ≤ n → AW X 0 0 6 [some (.ref a), some (.long v), none, some (.int (nI k)), some (.int (nI n))] [] T I (a_fill J a k (fun _ => v)) R := by
    refine a_down n (fun k hkl ihl => ?_)
    refine aw_iload_n hC dJ7_fill_d0a16_6 rfl ?_
    refine aw_iload hC dJ7_fill_d0a16_7 rfl ?_
    refine aw_icmp_ge (tgt := 22) hC dJ7_fill_d0a16_9 (by decide) (fun h1 => ?_) (fun h1 => ?_)
    · show AW X 0 0 22 [some (.ref a), some (.long v), none, some (.int (nI k)), some (.int (nI n))] [] T I (a_fill J a k (fun _ => v)) R
      have h1n : n ≤ k := (nI_leI (a := n) (b := k) (by omega) (by omega)).mp h1
      exact aw_return hC hq rfl dJ7_fill_d0a16_22 a_le a_le (by rw [show k = n from by omega]; exact aPure_v)
    · show AW X 0 0 12 [some (.ref a), some (.long v), none, some (.int (nI k)), some (.int (nI n))] [] T I (a_fill J a k (fun _ => v)) R
      have h1n : ¬ n ≤ k := fun q9 => h1 ((nI_leI (a := n) (b := k) (by omega) (by omega)).mpr q9)
      refine aw_aload_n hC dJ7_fill_d0a16_12 rfl ?_
      refine aw_iload_n hC dJ7_fill_d0a16_13 rfl ?_
      refine aw_lload_n hC dJ7_fill_d0a16_14 rfl ?_
      refine aw_lastore_k (j := k) hC dJ7_fill_d0a16_15 (by assumption) (nI_clamp (by omega)) (vp_in_nI (by omega) (by omega)) ?_
      refine aw_iinc (v := nI (k + 1)) (L2 := [some (.ref a), some (.long v), none, some (.int (nI (k + 1))), some (.int (nI n))]) hC dJ7_fill_d0a16_16 rfl (nI_inc _) (by decide) rfl ?_
      refine aw_goto (tgt := 6) hC dJ7_fill_d0a16_19 (by decide) ?_
      rw [show a_u (a_fill J a k (fun _ => v)) a k v = a_fill J a (k + 1) (fun _ => v) from a_fill_succ (g := fun _ => v)]
      exact ihl (by omega)
  exact loop 0 (Nat.zero_le _)
