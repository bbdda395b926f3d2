/-! GHOSTS OF WRITTEN NUMBERS: all places of all rows in one number, 32 bits each -/
def gWT : Nat := 0x2000c000400000000000000020002000200020001000400080140000280028002800280028004000c00040004000c00040004000c00040001000200004000400040004000400100020004000100008000400200020002000200020002000200020004000000000000000000000000000000000000000000000000000000000000000000000000000000000000000000000000000000000000000000000000000000000000000000000000000000000000000000000000000000000
def gOT : Nat := 0x8e8082807e800000000000007c807a807880768075807180698090806700648062005f805d0059004d00490045003900350031002500210004001f001ec01e801e401e001dc01cc01ac016c015c015401500130011000f000d000b0009000700050000000000000000000000000000000000000000000000000000000000000000000000000000000000000000000000000000000000000000000000000000000000000000000000000000000000000000000000000000000000000
def wid (o : Nat) : Nat := (gWT >>> (16 * o)) % 65536
def off (o : Nat) : Nat := (gOT >>> (16 * o)) % 65536
def dig (N i : Nat) : Nat := (N >>> (32 * i)) % 4294967296
def gM (N : Nat) : aI := fun o j => nI (bif Nat.blt j (wid o) then dig N (off o + j) else 0)
/-- w bits of N from the place k on put anew -/
def nPw (N k w v : Nat) : Nat := ((N >>> (k + w)) <<< (k + w)) ||| (((v % 2 ^ w) <<< k) ||| (N % 2 ^ k))
theorem nPw_bit (N k w v i : Nat) : (nPw N k w v).testBit i = if i < k then N.testBit i else if i < k + w then v.testBit (i - k) else N.testBit i := by
  unfold nPw
  simp only [Nat.testBit_or, Nat.testBit_shiftLeft, Nat.testBit_shiftRight, Nat.testBit_mod_two_pow]
  by_cases h1 : i < k
  · simp only [h1, decide_true, Bool.true_and, if_true, show ¬ (i ≥ k + w) by omega, show ¬ (i ≥ k) by omega, decide_false, Bool.false_and, Bool.false_or]
  · by_cases h2 : i < k + w
    · simp only [h1, h2, decide_false, Bool.false_and, if_false, if_true, show ¬ (i ≥ k + w) by omega, show i ≥ k by omega, decide_true, Bool.true_and, Bool.false_or, Bool.or_false, show i - k < w by omega]
    · simp only [h1, h2, decide_false, Bool.false_and, if_false, show i ≥ k + w by omega, show i ≥ k by omega, decide_true, Bool.true_and, Bool.or_false, show ¬ (i - k < w) by omega, show k + w + (i - (k + w)) = i by omega]
theorem dig_bit (N i b : Nat) : (dig N i).testBit b = (decide (b < 32) && N.testBit (32 * i + b)) := by
  unfold dig
  rw [show (4294967296 : Nat) = 2 ^ 32 from rfl, Nat.testBit_mod_two_pow, Nat.testBit_shiftRight]
theorem dig_pw (N k w v i : Nat) : dig (nPw N (32 * k) (32 * w) v) i = if k ≤ i ∧ i < k + w then dig v (i - k) else dig N i := by
  apply Nat.eq_of_testBit_eq
  intro b
  by_cases hb : b < 32
  · by_cases h : k ≤ i ∧ i < k + w
    · rw [if_pos h, dig_bit, dig_bit, nPw_bit, if_neg (by omega), if_pos (by omega), show 32 * i + b - 32 * k = 32 * (i - k) + b by omega]
    · rw [if_neg h, dig_bit, dig_bit, nPw_bit]
      by_cases h1 : i < k
      · rw [if_pos (by omega)]
      · rw [if_neg (by omega), if_neg (by omega)]
  · by_cases h : k ≤ i ∧ i < k + w
    · rw [if_pos h, dig_bit, dig_bit, decide_eq_false hb, Bool.false_and, Bool.false_and]
    · rw [if_neg h, dig_bit, dig_bit, decide_eq_false hb, Bool.false_and, Bool.false_and]
/-- the rows lie apart -/
def lyB : Bool := allB (fun a => allB (fun o => decide (a = o) || (Nat.ble (off a + wid a) (off o) || (Nat.ble (off o + wid o) (off a) || (Nat.ble (wid a) 0 || Nat.ble (wid o) 0)))) 94) 94
theorem lyB_t : lyB = true := by decide +kernel
theorem gWT_lt : gWT < 2 ^ 1504 := Nat.le_of_ble_eq_true (by decide +kernel)
theorem wid_big {o : Nat} (h : 94 ≤ o) : wid o = 0 := by
  unfold wid
  rw [Nat.shiftRight_eq_div_pow, Nat.div_eq_of_lt (Nat.lt_of_lt_of_le gWT_lt (Nat.pow_le_pow_right (by decide) (by omega)))]
theorem wid_lt {o j : Nat} (h : j < wid o) : o < 94 := by
  by_cases c : o < 94
  · exact c
  · rw [wid_big (by omega)] at h; omega
theorem off_ap {a o b j : Nat} (hb : b < wid a) (hj : j < wid o) (h : off a + b = off o + j) : a = o ∧ b = j := by
  have h1 := wid_lt hb
  have h2 := wid_lt hj
  have q := allB_iff.mp (allB_iff.mp lyB_t a h1) o h2
  simp only [Bool.or_eq_true, decide_eq_true_eq, Nat.ble_eq] at q
  rcases q with q | q | q | q | q
  · subst q; exact ⟨rfl, by omega⟩
  all_goals exfalso; omega
theorem gM_in {N o j : Nat} (h : j < wid o) : gM N o j = nI (dig N (off o + j)) := by
  unfold gM
  rw [show Nat.blt j (wid o) = true from Nat.ble_eq.mpr h, cond_true]
theorem gM_out {N o j : Nat} (h : wid o ≤ j) : gM N o j = 0 := by
  unfold gM
  rw [show Nat.blt j (wid o) = false from Bool.eq_false_iff.mpr (fun q => by have q9 : j + 1 ≤ wid o := Nat.ble_eq.mp q; omega), cond_false]; rfl
theorem i_toBv (v : Int32) : nI v.toBitVec.toNat = v := by
  apply Int32.toBitVec_inj.mp
  rw [nI, Int32.toBitVec_ofNat', BitVec.ofNat_toNat, BitVec.setWidth_eq]
theorem dig_v (v : Int32) : dig v.toBitVec.toNat 0 = v.toBitVec.toNat := by
  unfold dig
  rw [Nat.mul_zero, Nat.shiftRight_zero]
  exact Nat.mod_eq_of_lt v.toBitVec.isLt
/-- one place -/
def gPt (N o j : Nat) (v : Int32) : Nat := nPw N (32 * (off o + j)) 32 v.toBitVec.toNat
theorem gM_put {N o j : Nat} {v : Int32} (hj : j < wid o) : a_u (gM N) o j v = gM (gPt N o j v) := by
  funext a b
  unfold a_u
  by_cases h : a = o ∧ b = j
  · rw [if_pos h, h.1, h.2, gM_in hj]
    unfold gPt
    rw [show nPw N (32 * (off o + j)) 32 v.toBitVec.toNat = nPw N (32 * (off o + j)) (32 * 1) v.toBitVec.toNat from rfl, dig_pw, if_pos ⟨Nat.le_refl _, by omega⟩, Nat.sub_self, dig_v, i_toBv]
  · rw [if_neg h]
    by_cases hb : b < wid a
    · rw [gM_in hb, gM_in hb]
      unfold gPt
      rw [show nPw N (32 * (off o + j)) 32 v.toBitVec.toNat = nPw N (32 * (off o + j)) (32 * 1) v.toBitVec.toNat from rfl, dig_pw, if_neg (fun q => h (off_ap hb hj (by omega)))]
    · rw [gM_out (by omega), gM_out (by omega)]
/-- a whole row, written as a number of its own -/
def gRw (N o r : Nat) : Nat := nPw N (32 * off o) (32 * wid o) r
def gRr (o r : Nat) : Nat → Int32 := fun j => nI (bif Nat.blt j (wid o) then dig r j else 0)
theorem gM_row {N o r : Nat} {f : Nat → Int32} (h : ∀ j, f j = gRr o r j) : a_ur (gM N) o f = gM (gRw N o r) := by
  funext a b
  by_cases e : a = o
  · rw [e, a_ur_self, h b]
    by_cases hb : b < wid o
    · rw [gM_in hb]
      unfold gRr gRw
      rw [show Nat.blt b (wid o) = true from Nat.ble_eq.mpr hb, cond_true, dig_pw, if_pos ⟨by omega, by omega⟩, show off o + b - off o = b by omega]
    · rw [gM_out (by omega)]
      unfold gRr
      rw [show Nat.blt b (wid o) = false from Bool.eq_false_iff.mpr (fun q => by have q9 : b + 1 ≤ wid o := Nat.ble_eq.mp q; omega), cond_false]; rfl
  · rw [a_ur_ne e]
    by_cases hb : b < wid a
    · rw [gM_in hb, gM_in hb]
      unfold gRw
      rw [dig_pw, if_neg (fun q => e (off_ap (b := b) (j := off a + b - off o) hb (by omega) (by omega)).1)]
    · rw [gM_out (by omega), gM_out (by omega)]
theorem gM_row_ne {N o a r : Nat} (h : a ≠ o) : gM (gRw N o r) a = gM N a := by
  rw [← gM_row (f := gRr o r) (fun _ => rfl), a_ur_ne h]
theorem gM_row_at {N o r : Nat} : gM (gRw N o r) o = gRr o r := by
  rw [← gM_row (f := gRr o r) (fun _ => rfl)]; funext j; rw [a_ur_self]
/-- places lo .. lo + n of a row put anew, as a function says -/
def rng1 (N : Nat) (f : aI) (o lo : Nat) : Nat → Nat
  | 0 => N
  | k + 1 => gPt (rng1 N f o lo k) o (lo + k) (f o (lo + k))
def rngC (N : Nat) (f : aI) : List (Nat × Nat × Nat) → Nat
  | [] => N
  | q :: t => rng1 (rngC N f t) f q.1 q.2.1 q.2.2
abbrev inR (q : Nat × Nat × Nat) (o j : Nat) : Prop := o = q.1 ∧ q.2.1 ≤ j ∧ j < q.2.1 + q.2.2
theorem rng1_ok {N : Nat} {f : aI} {o lo : Nat} : ∀ k, lo + k ≤ wid o → ∀ a b, gM (rng1 N f o lo k) a b = if a = o ∧ lo ≤ b ∧ b < lo + k then f a b else gM N a b
  | 0, _, a, b => by rw [if_neg (by omega)]; rfl
  | k + 1, h, a, b => by
    show gM (gPt (rng1 N f o lo k) o (lo + k) (f o (lo + k))) a b = _
    rw [← gM_put (by omega)]
    unfold a_u
    by_cases c : a = o ∧ b = lo + k
    · rw [if_pos c, if_pos ⟨c.1, by omega, by omega⟩, c.1, c.2]
    · rw [if_neg c, rng1_ok k (by omega) a b]
      by_cases d : a = o ∧ lo ≤ b ∧ b < lo + k
      · rw [if_pos d, if_pos ⟨d.1, d.2.1, by omega⟩]
      · rw [if_neg d, if_neg (fun q => ?_)]
        by_cases e : b = lo + k
        · exact c ⟨q.1, e⟩
        · exact d ⟨q.1, q.2.1, by omega⟩
def rngW : List (Nat × Nat × Nat) → Bool
  | [] => true
  | q :: t => Nat.ble (q.2.1 + q.2.2) (wid q.1) && rngW t
theorem rngC_ok {N : Nat} {f : aI} : ∀ {rs : List (Nat × Nat × Nat)}, rngW rs = true → ∀ a b, ((∃ q ∈ rs, inR q a b) → gM (rngC N f rs) a b = f a b) ∧ ((∀ q ∈ rs, ¬ inR q a b) → gM (rngC N f rs) a b = gM N a b)
  | [], _, a, b => ⟨fun ⟨q, zz1, _⟩ => (nomatch zz1), fun _ => rfl⟩
  | q :: t, h, a, b => by
    unfold rngW at h
    rw [Bool.and_eq_true] at h
    have h1 : q.2.1 + q.2.2 ≤ wid q.1 := Nat.ble_eq.mp h.1
    have ih := rngC_ok (N := N) (f := f) h.2 a b
    have e := rng1_ok (N := rngC N f t) (f := f) (o := q.1) (lo := q.2.1) q.2.2 h1 a b
    refine ⟨fun ⟨z, hz, zz3⟩ => ?_, fun hn => ?_⟩
    · show gM (rng1 (rngC N f t) f q.1 q.2.1 q.2.2) a b = f a b
      rw [e]
      by_cases c : a = q.1 ∧ q.2.1 ≤ b ∧ b < q.2.1 + q.2.2
      · rw [if_pos c]
      · rw [if_neg c]
        rcases List.mem_cons.mp hz with rfl | hz
        · exact (c zz3).elim
        · exact ih.1 ⟨z, hz, zz3⟩
    · show gM (rng1 (rngC N f t) f q.1 q.2.1 q.2.2) a b = gM N a b
      rw [e, if_neg (hn q List.mem_cons_self)]
      exact ih.2 (fun z hz => hn z (List.mem_cons_of_mem _ hz))
/-- a ghost that differs in known places only, written anew -/
theorem nrm {N : Nat} {f : aI} {rs : List (Nat × Nat × Nat)} (hw : rngW rs = true) (h : ∀ a b, (∀ q ∈ rs, ¬ inR q a b) → f a b = gM N a b) : f = gM (rngC N f rs) := by
  funext a b
  by_cases c : ∃ q ∈ rs, inR q a b
  · exact ((rngC_ok hw a b).1 c).symm
  · have c2 : ∀ q ∈ rs, ¬ inR q a b := fun q hq zz3 => c ⟨q, hq, zz3⟩
    rw [(rngC_ok hw a b).2 c2, h a b c2]
theorem nrm_to {N N2 : Nat} {f : aI} {rs : List (Nat × Nat × Nat)} (h : ∀ a b, (∀ q ∈ rs, ¬ inR q a b) → f a b = gM N a b) (hc : (rngW rs && Nat.beq (rngC N f rs) N2) = true) : f = gM N2 := by
  rw [Bool.and_eq_true] at hc
  rw [← Nat.eq_of_beq_eq_true hc.2]
  exact nrm hc.1 h
