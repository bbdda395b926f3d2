/-- digits in base 2^k, the lowest first -/
def vD (k : Nat) : Nat → (Nat → Nat) → Nat
  | 0, _ => 0
  | n + 1, b => b 0 + 2 ^ k * vD k n (fun i => b (i + 1))
theorem and_low (p a b c d : Nat) (hb : b < 2 ^ p) (hd : d < 2 ^ p) : (b + 2 ^ p * a) &&& (d + 2 ^ p * c) = (b &&& d) + 2 ^ p * (a &&& c) := by
  apply Nat.eq_of_testBit_eq
  intro i
  rw [Nat.add_comm b, Nat.add_comm d, Nat.testBit_and, Nat.testBit_two_pow_mul_add _ hb, Nat.testBit_two_pow_mul_add _ hd, Nat.add_comm (b &&& d), Nat.testBit_two_pow_mul_add _ (Nat.lt_of_le_of_lt Nat.and_le_left hb)]
  split
  · rw [Nat.testBit_and]
  · rw [Nat.testBit_and]
theorem bc_1 : ∀ (n : Nat) (b : Nat → Nat), (∀ i, b i < 2) → vD 1 (2 * n) b = (vD 1 (2 * n) b / 2 &&& vD 2 n (fun _ => 1)) + vD 2 n (fun i => b (2 * i) + b (2 * i + 1))
  | 0, b, _ => by simp [vD]
  | n + 1, b, hb => by
    have ih := bc_1 n (fun i => b (i + 2)) (fun i => hb _)
    have e : vD 1 (2 * (n + 1)) b = b 0 + 2 * (b 1 + 2 * vD 1 (2 * n) (fun i => b (i + 2))) := by
      rw [show 2 * (n + 1) = (2 * n + 1) + 1 by omega, vD, vD]
    have e2 : vD 2 (n + 1) (fun i => b (2 * i) + b (2 * i + 1)) = (b 0 + b 1) + 4 * vD 2 n (fun i => b (2 * i + 2) + b (2 * i + 3)) := by
      rw [vD]; rfl
    have e3 : vD 2 (n + 1) (fun _ => 1) = 1 + 4 * vD 2 n (fun _ => 1) := by rw [vD]
    have h0 := hb 0
    have h1 := hb 1
    generalize vD 1 (2 * n) (fun i => b (i + 2)) = V at *
    rw [e, e2, e3]
    have d : (b 0 + 2 * (b 1 + 2 * V)) / 2 = (b 1 + 2 * (V % 2)) + 4 * (V / 2) := by omega
    rw [d]
    have a := and_low 2 (V / 2) (b 1 + 2 * (V % 2)) (vD 2 n (fun _ => 1)) 1 (by omega) (by decide)
    have l : (b 1 + 2 * (V % 2)) &&& 1 = b 1 := by rw [Nat.and_one_is_mod]; omega
    rw [l] at a
    rw [show (4 : Nat) = 2 ^ 2 from rfl, a]
    have ih2 : V = (V / 2 &&& vD 2 n (fun _ => 1)) + vD 2 n (fun i => b (2 * i + 2) + b (2 * i + 3)) := ih
    omega
theorem bc_2 : ∀ (n : Nat) (c : Nat → Nat), (∀ i, c i < 4) → (vD 2 (2 * n) c &&& vD 4 n (fun _ => 3)) + (vD 2 (2 * n) c / 4 &&& vD 4 n (fun _ => 3)) = vD 4 n (fun i => c (2 * i) + c (2 * i + 1))
  | 0, c, _ => by simp [vD]
  | n + 1, c, hb => by
    have ih := bc_2 n (fun i => c (i + 2)) (fun i => hb _)
    have e : vD 2 (2 * (n + 1)) c = c 0 + 4 * (c 1 + 4 * vD 2 (2 * n) (fun i => c (i + 2))) := by
      rw [show 2 * (n + 1) = (2 * n + 1) + 1 by omega, vD, vD]
    have e2 : vD 4 (n + 1) (fun i => c (2 * i) + c (2 * i + 1)) = (c 0 + c 1) + 16 * vD 4 n (fun i => c (2 * i + 2) + c (2 * i + 3)) := by
      rw [vD]; rfl
    have e3 : vD 4 (n + 1) (fun _ => 3) = 3 + 16 * vD 4 n (fun _ => 3) := by rw [vD]
    have h0 := hb 0
    have h1 := hb 1
    generalize vD 2 (2 * n) (fun i => c (i + 2)) = V at *
    rw [e, e2, e3]
    have d : (c 0 + 4 * (c 1 + 4 * V)) / 4 = (c 1 + 4 * (V % 4)) + 16 * (V / 4) := by omega
    have d2 : c 0 + 4 * (c 1 + 4 * V) = (c 0 + 4 * c 1) + 16 * V := by omega
    rw [d, d2]
    have a := and_low 4 (V / 4) (c 1 + 4 * (V % 4)) (vD 4 n (fun _ => 3)) 3 (by omega) (by decide)
    have a2 := and_low 4 V (c 0 + 4 * c 1) (vD 4 n (fun _ => 3)) 3 (by omega) (by decide)
    have l : (c 1 + 4 * (V % 4)) &&& 3 = c 1 := by have := Nat.and_two_pow_sub_one_eq_mod (c 1 + 4 * (V % 4)) 2; rw [show 2 ^ 2 - 1 = 3 from rfl] at this; omega
    have l2 : (c 0 + 4 * c 1) &&& 3 = c 0 := by have := Nat.and_two_pow_sub_one_eq_mod (c 0 + 4 * c 1) 2; rw [show 2 ^ 2 - 1 = 3 from rfl] at this; omega
    rw [l] at a; rw [l2] at a2
    rw [show (16 : Nat) = 2 ^ 4 from rfl, a, a2]
    have ih2 : (V &&& vD 4 n (fun _ => 3)) + (V / 4 &&& vD 4 n (fun _ => 3)) = vD 4 n (fun i => c (2 * i + 2) + c (2 * i + 3)) := ih
    omega
theorem vD_mod (k n : Nat) (c : Nat → Nat) (h : c 0 < 2 ^ k) : vD k n c % 2 ^ k = if n = 0 then 0 else c 0 := by
  cases n with
  | zero => simp [vD]
  | succ n => rw [vD, Nat.add_mul_mod_self_left, Nat.mod_eq_of_lt h]; simp
theorem bc_3 : ∀ (n : Nat) (c : Nat → Nat), (∀ i, c i < 8) → ((vD 4 (2 * n) c + vD 4 (2 * n) c / 16) &&& vD 8 n (fun _ => 15)) = vD 8 n (fun i => c (2 * i) + c (2 * i + 1))
  | 0, c, _ => by simp [vD]
  | n + 1, c, hb => by
    have ih := bc_3 n (fun i => c (i + 2)) (fun i => hb _)
    have e : vD 4 (2 * (n + 1)) c = c 0 + 16 * (c 1 + 16 * vD 4 (2 * n) (fun i => c (i + 2))) := by
      rw [show 2 * (n + 1) = (2 * n + 1) + 1 by omega, vD, vD]
    have e2 : vD 8 (n + 1) (fun i => c (2 * i) + c (2 * i + 1)) = (c 0 + c 1) + 256 * vD 8 n (fun i => c (2 * i + 2) + c (2 * i + 3)) := by
      rw [vD]; rfl
    have e3 : vD 8 (n + 1) (fun _ => 15) = 15 + 256 * vD 8 n (fun _ => 15) := by rw [vD]
    have h0 := hb 0
    have h1 := hb 1
    have hm := vD_mod 4 (2 * n) (fun i => c (i + 2)) (Nat.lt_trans (hb (0 + 2)) (by decide))
    have h2 := hb 2
    have hm2 : vD 4 (2 * n) (fun i => c (i + 2)) % 16 < 8 := by
      have : vD 4 (2 * n) (fun i => c (i + 2)) % 16 = if 2 * n = 0 then 0 else c 2 := hm
      rw [this]; split <;> omega
    generalize vD 4 (2 * n) (fun i => c (i + 2)) = V at *
    rw [e, e2, e3]
    have d : c 0 + 16 * (c 1 + 16 * V) + (c 0 + 16 * (c 1 + 16 * V)) / 16 = (c 0 + c 1 + 16 * (c 1 + V % 16)) + 256 * (V + V / 16) := by omega
    rw [d]
    have a := and_low 8 (V + V / 16) (c 0 + c 1 + 16 * (c 1 + V % 16)) (vD 8 n (fun _ => 15)) 15 (by omega) (by decide)
    have l : (c 0 + c 1 + 16 * (c 1 + V % 16)) &&& 15 = c 0 + c 1 := by have := Nat.and_two_pow_sub_one_eq_mod (c 0 + c 1 + 16 * (c 1 + V % 16)) 4; rw [show 2 ^ 4 - 1 = 15 from rfl] at this; omega
    rw [l] at a
    rw [show (256 : Nat) = 2 ^ 8 from rfl, a]
    have ih2 : ((V + V / 16) &&& vD 8 n (fun _ => 15)) = vD 8 n (fun i => c (2 * i + 2) + c (2 * i + 3)) := ih
    omega
theorem vD_bits : ∀ (n x : Nat), vD 1 n (fun i => x / 2 ^ i % 2) = x % 2 ^ n
  | 0, x => by simp [vD, Nat.mod_one]
  | n + 1, x => by
    rw [vD]
    have ih := vD_bits n (x / 2)
    have e : (fun i => x / 2 ^ (i + 1) % 2) = (fun i => x / 2 / 2 ^ i % 2) := funext fun i => by rw [Nat.div_div_eq_div_mul, Nat.pow_succ, Nat.mul_comm]
    rw [e, ih, Nat.pow_zero, Nat.div_one]
    show x % 2 + 2 * (x / 2 % 2 ^ n) = x % 2 ^ (n + 1)
    rw [show 2 ^ (n + 1) = 2 * 2 ^ n from by rw [Nat.pow_succ, Nat.mul_comm], Nat.mod_mul]
theorem uN_and (x y : Int64) : uN (x &&& y) = uN x &&& uN y := by
  show (x.toBitVec &&& y.toBitVec).toNat = _
  rw [BitVec.toNat_and]; rfl
theorem uN_sub {x y : Int64} (h : uN y ≤ uN x) : uN (x - y) = uN x - uN y := by
  have hx := uN_lt x
  show (x.toBitVec - y.toBitVec).toNat = _
  rw [BitVec.toNat_sub]
  have a : x.toBitVec.toNat = uN x := rfl
  have b : y.toBitVec.toNat = uN y := rfl
  rw [a, b, show 2 ^ 64 - uN y + uN x = (uN x - uN y) + 2 ^ 64 by omega, Nat.add_mod_right]
  exact Nat.mod_eq_of_lt (by omega)
theorem uN_addL {x y : Int64} (h : uN x + uN y < 18446744073709551616) : uN (x + y) = uN x + uN y := by rw [uN_add, Nat.mod_eq_of_lt h]
def sumD : Nat → (Nat → Nat) → Nat
  | 0, _ => 0
  | n + 1, b => sumD n b + b n
theorem xb_nat (x : Int64) (i : Nat) : (if xb x i then 1 else 0) = uN x / 2 ^ i % 2 := by
  have e : xb x i = (uN x).testBit i := rfl
  rw [e, Nat.testBit_eq_decide_div_mod_eq]
  have := Nat.mod_two_eq_zero_or_one (uN x / 2 ^ i)
  rcases this with h | h <;> simp [h]
theorem cnt_sum (x : Int64) : ∀ k, cntN x k = sumD k (fun i => uN x / 2 ^ i % 2)
  | 0 => rfl
  | k + 1 => by rw [cntN, sumD, cnt_sum x k, ← xb_nat]
theorem bc_m (x : Int64) : uN x = vD 1 64 (fun i => uN x / 2 ^ i % 2) := by
  rw [vD_bits]; exact (Nat.mod_eq_of_lt (uN_lt x)).symm
theorem bc_all {x y1 y2 y3 : Int64} {w : Nat}
    (h1 : uN y1 = uN x - (uN x / 2 &&& 6148914691236517205)) (h2 : uN y2 = (uN y1 &&& 3689348814741910323) + (uN y1 / 4 &&& 3689348814741910323)) (h3 : uN y3 = ((uN y2 + uN y2 / 16) &&& 1085102592571150095)) :
    ∃ g : Nat → Nat, (∀ i, g i ≤ 8) ∧ uN y3 = vD 8 8 g ∧ sumD 8 g = sCount x := by
  have b2 : ∀ i, uN x / 2 ^ i % 2 < 2 := fun i => Nat.mod_lt _ (by decide)
  generalize hb : (fun i => uN x / 2 ^ i % 2) = b at *
  have b3 : ∀ i, b i < 2 := fun i => by rw [← hb]; exact b2 i
  have m := bc_m x
  rw [hb] at m
  have s1 := bc_1 32 b b3
  rw [show 2 * 32 = 64 from rfl, ← m, show vD 2 32 (fun _ => 1) = 6148914691236517205 from by decide +kernel] at s1
  have e1 : uN y1 = vD 2 32 (fun i => b (2 * i) + b (2 * i + 1)) := by omega
  have s2 := bc_2 16 (fun i => b (2 * i) + b (2 * i + 1)) (fun i => by have := b3 (2 * i); have := b3 (2 * i + 1); omega)
  rw [show 2 * 16 = 32 from rfl, ← e1, show vD 4 16 (fun _ => 3) = 3689348814741910323 from by decide +kernel, ← h2] at s2
  have s3 := bc_3 8 (fun i => b (2 * (2 * i)) + b (2 * (2 * i) + 1) + (b (2 * (2 * i + 1)) + b (2 * (2 * i + 1) + 1))) (fun i => by have := b3 (2 * (2 * i)); have := b3 (2 * (2 * i) + 1); have := b3 (2 * (2 * i + 1)); have := b3 (2 * (2 * i + 1) + 1); omega)
  rw [show 2 * 8 = 16 from rfl, ← s2, show vD 8 8 (fun _ => 15) = 1085102592571150095 from by decide +kernel, ← h3] at s3
  refine ⟨_, fun i => ?_, s3, ?_⟩
  · have q : ∀ j, b j ≤ 1 := fun j => by have := b3 j; omega
    have := q (2 * (2 * (2 * i))); have := q (2 * (2 * (2 * i)) + 1); have := q (2 * (2 * (2 * i) + 1)); have := q (2 * (2 * (2 * i) + 1) + 1)
    have := q (2 * (2 * (2 * i + 1))); have := q (2 * (2 * (2 * i + 1)) + 1); have := q (2 * (2 * (2 * i + 1) + 1)); have := q (2 * (2 * (2 * i + 1) + 1) + 1)
    omega
  · unfold sCount; rw [cnt_sum, hb]
    simp only [sumD, Nat.mul_zero, Nat.zero_add, Nat.reduceMul, Nat.reduceAdd]
    omega
theorem bc_fin {g : Nat → Nat} (h : ∀ i, g i ≤ 8) {w : Nat} (hw : w = vD 8 8 g) : w + w / 256 + (w + w / 256) / 65536 + (w + w / 256 + (w + w / 256) / 65536) / 4294967296 < 18446744073709551616 ∧ (w + w / 256 + (w + w / 256) / 65536 + (w + w / 256 + (w + w / 256) / 65536) / 4294967296) % 128 = sumD 8 g := by
  have e : w = g 0 + 256 * (g 1 + 256 * (g 2 + 256 * (g 3 + 256 * (g 4 + 256 * (g 5 + 256 * (g 6 + 256 * g 7)))))) := by
    rw [hw]; simp only [vD, Nat.reducePow, Nat.mul_zero, Nat.add_zero, Nat.reduceAdd]
  have := h 0; have := h 1; have := h 2; have := h 3; have := h 4; have := h 5; have := h 6; have := h 7
  simp only [sumD, Nat.zero_add]
  generalize g 0 = a0 at *; generalize g 1 = a1 at *; generalize g 2 = a2 at *; generalize g 3 = a3 at *; generalize g 4 = a4 at *; generalize g 5 = a5 at *; generalize g 6 = a6 at *; generalize g 7 = a7 at *
  clear hw h
  have d1 : w / 256 = a1 + 256 * (a2 + 256 * (a3 + 256 * (a4 + 256 * (a5 + 256 * (a6 + 256 * a7))))) := by
    rw [e, Nat.add_mul_div_left _ _ (by decide), Nat.div_eq_of_lt (by omega), Nat.zero_add]
  rw [d1]
  obtain ⟨v1, hv1⟩ : ∃ v1, v1 = w + (a1 + 256 * (a2 + 256 * (a3 + 256 * (a4 + 256 * (a5 + 256 * (a6 + 256 * a7)))))) := ⟨_, rfl⟩
  rw [← hv1]
  clear d1
  have c1 : v1 = (a0 + a1 + 256 * (a1 + a2)) + 65536 * ((a2 + a3) + 256 * ((a3 + a4) + 256 * ((a4 + a5) + 256 * ((a5 + a6) + 256 * ((a6 + a7) + 256 * a7))))) := by omega
  have d2 : v1 / 65536 = (a2 + a3) + 256 * ((a3 + a4) + 256 * ((a4 + a5) + 256 * ((a5 + a6) + 256 * ((a6 + a7) + 256 * a7)))) := by
    rw [c1, Nat.add_mul_div_left _ _ (by decide), Nat.div_eq_of_lt (by omega), Nat.zero_add]
  rw [d2]
  obtain ⟨v2, hv2⟩ : ∃ v2, v2 = v1 + ((a2 + a3) + 256 * ((a3 + a4) + 256 * ((a4 + a5) + 256 * ((a5 + a6) + 256 * ((a6 + a7) + 256 * a7))))) := ⟨_, rfl⟩
  rw [← hv2]
  clear d2 hv1 e
  have c2 : v2 = ((a0 + a1 + a2 + a3) + 256 * ((a1 + a2 + a3 + a4) + 256 * ((a2 + a3 + a4 + a5) + 256 * (a3 + a4 + a5 + a6)))) + 4294967296 * ((a4 + a5 + a6 + a7) + 256 * ((a5 + a6 + a7) + 256 * ((a6 + a7) + 256 * a7))) := by omega
  have d3 : v2 / 4294967296 = (a4 + a5 + a6 + a7) + 256 * ((a5 + a6 + a7) + 256 * ((a6 + a7) + 256 * a7)) := by
    rw [c2, Nat.add_mul_div_left _ _ (by decide), Nat.div_eq_of_lt (by omega), Nat.zero_add]
  rw [d3]
  clear d3 hv2 c1
  have c3 : v2 + ((a4 + a5 + a6 + a7) + 256 * ((a5 + a6 + a7) + 256 * ((a6 + a7) + 256 * a7))) = (a0 + a1 + a2 + a3 + a4 + a5 + a6 + a7) + 128 * (2 * (((a1 + a2 + a3 + a4) + (a5 + a6 + a7)) + 256 * (((a2 + a3 + a4 + a5) + (a6 + a7)) + 256 * (((a3 + a4 + a5 + a6) + a7) + 256 * ((a4 + a5 + a6 + a7) + 256 * ((a5 + a6 + a7) + 256 * ((a6 + a7) + 256 * a7))))))) := by omega
  rw [c3]
  exact ⟨by omega, by rw [Nat.add_mul_mod_self_left]; exact Nat.mod_eq_of_lt (by omega)⟩
theorem uN_k {x : Int64} {k : Nat} {z : UInt64} (hz : z = ((nI k).toInt64.toUInt64 &&& Int64.toUInt64 63)) (hk : k < 64) : uN (x.toUInt64 >>> z).toInt64 = uN x / 2 ^ k := by rw [hz]; exact uN_sk x hk
theorem bc_lo {x : Int64} (h : uN x % 128 ≤ 64) : x.toInt32 &&& 127 = nI (uN x % 128) := by
  refine b_ext fun i hi => ?_
  have e : (127 : Int32) = nI (2 ^ 7 - 1) := rfl
  rw [b_and, bt_low hi, e]
  show ((uN x).testBit i && (BitVec.ofNat 32 (2 ^ 7 - 1)).getLsbD i) = (BitVec.ofNat 32 (uN x % 2 ^ 7)).getLsbD i
  rw [BitVec.getLsbD_ofNat, BitVec.getLsbD_ofNat, Nat.testBit_two_pow_sub_one, Nat.testBit_mod_two_pow]
  simp [hi, Bool.and_comm]
set_option maxRecDepth 100000 in
theorem m_J13_bitCount_95d88 {T : List aT} {I : aI} {J : aJ} {R : aR} (x : Int64) : MJ13_bitCount_95d88 0 0 [.long x] T I J R (aPure (some (.int (nI (sCount x)))) T I J R) := by
  refine a_met (by decide +kernel) a_le (fun X hC hq => ?_)
  show AW X 0 0 0 [some (.long x), none] [] T I J R
  refine aw_lload_n hC dJ13_bitCount_95d88_0 rfl ?_
  refine aw_lload_n hC dJ13_bitCount_95d88_1 rfl ?_
  refine aw_iconst (v := 1) hC dJ13_bitCount_95d88_2 (by decide) ?_
  refine aw_lushr hC dJ13_bitCount_95d88_3 ?_
  refine aw_ldc2 (v := 6148914691236517205) hC dJ13_bitCount_95d88_4 gK_J13_314 ?_
  refine aw_land hC dJ13_bitCount_95d88_7 ?_
  refine aw_lsub hC dJ13_bitCount_95d88_8 ?_
  refine aw_lstore_n (L2 := [some (.long (x - (((x.toUInt64 >>> ((1 : Int32).toInt64.toUInt64 &&& Int64.toUInt64 63)).toInt64) &&& 6148914691236517205))), none]) hC dJ13_bitCount_95d88_9 rfl (by decide) rfl ?_
  obtain ⟨y1, hy1⟩ : ∃ y1, y1 = x - (((x.toUInt64 >>> ((1 : Int32).toInt64.toUInt64 &&& Int64.toUInt64 63)).toInt64) &&& 6148914691236517205) := ⟨_, rfl⟩
  rw [← hy1]
  have q1 : uN y1 = uN x - (uN x / 2 &&& 6148914691236517205) := by rw [hy1, uN_sub (by rw [uN_and, (uN_k (x := x) (k := 1) (z := (((1 : Int32).toInt64.toUInt64 &&& Int64.toUInt64 63))) rfl (by decide))]; exact Nat.le_trans Nat.and_le_left (Nat.div_le_self _ _)), uN_and, (uN_k (x := x) (k := 1) (z := (((1 : Int32).toInt64.toUInt64 &&& Int64.toUInt64 63))) rfl (by decide))]; rfl
  refine aw_lload_n hC dJ13_bitCount_95d88_10 rfl ?_
  refine aw_ldc2 (v := 3689348814741910323) hC dJ13_bitCount_95d88_11 gK_J13_316 ?_
  refine aw_land hC dJ13_bitCount_95d88_14 ?_
  refine aw_lload_n hC dJ13_bitCount_95d88_15 rfl ?_
  refine aw_iconst (v := 2) hC dJ13_bitCount_95d88_16 (by decide) ?_
  refine aw_lushr hC dJ13_bitCount_95d88_17 ?_
  refine aw_ldc2 (v := 3689348814741910323) hC dJ13_bitCount_95d88_18 gK_J13_316 ?_
  refine aw_land hC dJ13_bitCount_95d88_21 ?_
  refine aw_ladd hC dJ13_bitCount_95d88_22 ?_
  refine aw_lstore_n (L2 := [some (.long ((y1 &&& 3689348814741910323) + (((y1.toUInt64 >>> ((2 : Int32).toInt64.toUInt64 &&& Int64.toUInt64 63)).toInt64) &&& 3689348814741910323))), none]) hC dJ13_bitCount_95d88_23 rfl (by decide) rfl ?_
  obtain ⟨y2, hy2⟩ : ∃ y2, y2 = (y1 &&& 3689348814741910323) + (((y1.toUInt64 >>> ((2 : Int32).toInt64.toUInt64 &&& Int64.toUInt64 63)).toInt64) &&& 3689348814741910323) := ⟨_, rfl⟩
  rw [← hy2]
  have q2 : uN y2 = (uN y1 &&& 3689348814741910323) + (uN y1 / 4 &&& 3689348814741910323) := by rw [hy2, uN_addL (by rw [uN_and, uN_and, (uN_k (x := y1) (k := 2) (z := (((2 : Int32).toInt64.toUInt64 &&& Int64.toUInt64 63))) rfl (by decide))]; have z1 := @Nat.and_le_right (uN y1) (uN 3689348814741910323); have z2 := @Nat.and_le_right (uN y1 / 2 ^ 2) (uN 3689348814741910323); have z3 : uN 3689348814741910323 = 3689348814741910323 := rfl; omega), uN_and, uN_and, (uN_k (x := y1) (k := 2) (z := (((2 : Int32).toInt64.toUInt64 &&& Int64.toUInt64 63))) rfl (by decide))]; rfl
  refine aw_lload_n hC dJ13_bitCount_95d88_24 rfl ?_
  refine aw_lload_n hC dJ13_bitCount_95d88_25 rfl ?_
  refine aw_iconst (v := 4) hC dJ13_bitCount_95d88_26 (by decide) ?_
  refine aw_lushr hC dJ13_bitCount_95d88_27 ?_
  refine aw_ladd hC dJ13_bitCount_95d88_28 ?_
  refine aw_ldc2 (v := 1085102592571150095) hC dJ13_bitCount_95d88_29 gK_J13_318 ?_
  refine aw_land hC dJ13_bitCount_95d88_32 ?_
  refine aw_lstore_n (L2 := [some (.long ((y2 + ((y2.toUInt64 >>> ((4 : Int32).toInt64.toUInt64 &&& Int64.toUInt64 63)).toInt64)) &&& 1085102592571150095)), none]) hC dJ13_bitCount_95d88_33 rfl (by decide) rfl ?_
  obtain ⟨y3, hy3⟩ : ∃ y3, y3 = (y2 + ((y2.toUInt64 >>> ((4 : Int32).toInt64.toUInt64 &&& Int64.toUInt64 63)).toInt64)) &&& 1085102592571150095 := ⟨_, rfl⟩
  rw [← hy3]
  have b2 : uN y2 < 8000000000000000000 := by rw [q2]; have z1 := @Nat.and_le_right (uN y1) 3689348814741910323; have z2 := @Nat.and_le_right (uN y1 / 4) 3689348814741910323; omega
  have q3 : uN y3 = ((uN y2 + uN y2 / 16) &&& 1085102592571150095) := by rw [hy3, uN_and, uN_addL (by rw [(uN_k (x := y2) (k := 4) (z := (((4 : Int32).toInt64.toUInt64 &&& Int64.toUInt64 63))) rfl (by decide))]; omega), (uN_k (x := y2) (k := 4) (z := (((4 : Int32).toInt64.toUInt64 &&& Int64.toUInt64 63))) rfl (by decide))]; rfl
  obtain ⟨gg, g1, g2, g3⟩ := bc_all (w := 0) q1 q2 q3
  have f1 := bc_fin g1 g2
  have g4 : sCount x ≤ 64 := cntN_le x 64
  refine aw_lload_n hC dJ13_bitCount_95d88_34 rfl ?_
  refine aw_lload_n hC dJ13_bitCount_95d88_35 rfl ?_
  refine aw_bipush (v := 8) hC dJ13_bitCount_95d88_36 (by decide) ?_
  refine aw_lushr hC dJ13_bitCount_95d88_38 ?_
  refine aw_ladd hC dJ13_bitCount_95d88_39 ?_
  refine aw_lstore_n (L2 := [some (.long (y3 + ((y3.toUInt64 >>> ((8 : Int32).toInt64.toUInt64 &&& Int64.toUInt64 63)).toInt64))), none]) hC dJ13_bitCount_95d88_40 rfl (by decide) rfl ?_
  obtain ⟨y4, hy4⟩ : ∃ y4, y4 = y3 + ((y3.toUInt64 >>> ((8 : Int32).toInt64.toUInt64 &&& Int64.toUInt64 63)).toInt64) := ⟨_, rfl⟩
  rw [← hy4]
  have q4 : uN y4 = uN y3 + uN y3 / 256 := by rw [hy4, uN_addL (by rw [(uN_k (x := y3) (k := 8) (z := (((8 : Int32).toInt64.toUInt64 &&& Int64.toUInt64 63))) rfl (by decide))]; omega), (uN_k (x := y3) (k := 8) (z := (((8 : Int32).toInt64.toUInt64 &&& Int64.toUInt64 63))) rfl (by decide))]
  refine aw_lload_n hC dJ13_bitCount_95d88_41 rfl ?_
  refine aw_lload_n hC dJ13_bitCount_95d88_42 rfl ?_
  refine aw_bipush (v := 16) hC dJ13_bitCount_95d88_43 (by decide) ?_
  refine aw_lushr hC dJ13_bitCount_95d88_45 ?_
  refine aw_ladd hC dJ13_bitCount_95d88_46 ?_
  refine aw_lstore_n (L2 := [some (.long (y4 + ((y4.toUInt64 >>> ((16 : Int32).toInt64.toUInt64 &&& Int64.toUInt64 63)).toInt64))), none]) hC dJ13_bitCount_95d88_47 rfl (by decide) rfl ?_
  obtain ⟨y5, hy5⟩ : ∃ y5, y5 = y4 + ((y4.toUInt64 >>> ((16 : Int32).toInt64.toUInt64 &&& Int64.toUInt64 63)).toInt64) := ⟨_, rfl⟩
  rw [← hy5]
  have q5 : uN y5 = uN y4 + uN y4 / 65536 := by rw [hy5, uN_addL (by rw [(uN_k (x := y4) (k := 16) (z := (((16 : Int32).toInt64.toUInt64 &&& Int64.toUInt64 63))) rfl (by decide)), q4]; omega), (uN_k (x := y4) (k := 16) (z := (((16 : Int32).toInt64.toUInt64 &&& Int64.toUInt64 63))) rfl (by decide))]
  refine aw_lload_n hC dJ13_bitCount_95d88_48 rfl ?_
  refine aw_lload_n hC dJ13_bitCount_95d88_49 rfl ?_
  refine aw_bipush (v := 32) hC dJ13_bitCount_95d88_50 (by decide) ?_
  refine aw_lushr hC dJ13_bitCount_95d88_52 ?_
  refine aw_ladd hC dJ13_bitCount_95d88_53 ?_
  refine aw_lstore_n (L2 := [some (.long (y5 + ((y5.toUInt64 >>> ((32 : Int32).toInt64.toUInt64 &&& Int64.toUInt64 63)).toInt64))), none]) hC dJ13_bitCount_95d88_54 rfl (by decide) rfl ?_
  obtain ⟨y6, hy6⟩ : ∃ y6, y6 = y5 + ((y5.toUInt64 >>> ((32 : Int32).toInt64.toUInt64 &&& Int64.toUInt64 63)).toInt64) := ⟨_, rfl⟩
  rw [← hy6]
  have q6 : uN y6 = uN y5 + uN y5 / 4294967296 := by rw [hy6, uN_addL (by rw [(uN_k (x := y5) (k := 32) (z := (((32 : Int32).toInt64.toUInt64 &&& Int64.toUInt64 63))) rfl (by decide)), q5, q4]; omega), (uN_k (x := y5) (k := 32) (z := (((32 : Int32).toInt64.toUInt64 &&& Int64.toUInt64 63))) rfl (by decide))]
  have q7 : uN y6 % 128 = sCount x := by rw [q6, q5, q4, ← g3]; exact f1.2
  refine aw_lload_n hC dJ13_bitCount_95d88_55 rfl ?_
  refine aw_l2i hC dJ13_bitCount_95d88_56 ?_
  refine aw_bipush (v := 127) hC dJ13_bitCount_95d88_57 (by decide) ?_
  refine aw_iand hC dJ13_bitCount_95d88_59 ?_
  exact aw_ireturn hC hq rfl dJ13_bitCount_95d88_60 a_le a_le (aPure_i (by rw [bc_lo (by omega), q7]))
