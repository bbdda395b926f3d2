/-! SOLVING A WRITTEN GHOST, by counting -/
def gS (P : Nat) : Nat → Int64 := fun j => lN (bif Nat.blt j 10 then (P >>> (64 * j)) % 18446744073709551616 else 0)
theorem gS_in {P j : Nat} (h : j < 10) : gS P j = lN ((P >>> (64 * j)) % 18446744073709551616) := by
  unfold gS
  rw [show Nat.blt j 10 = true from Nat.ble_eq.mpr h, cond_true]
theorem gS_out {P j : Nat} (h : 10 ≤ j) : gS P j = 0 := by
  unfold gS
  rw [show Nat.blt j 10 = false from Bool.eq_false_iff.mpr (fun q => by have q9 : j + 1 ≤ 10 := Nat.ble_eq.mp q; omega), cond_false]; rfl
def sPut (S f : Nat) (v : Int64) : Nat := nPw S (64 * f) 64 v.toBitVec.toNat
theorem l_toBv (v : Int64) : lN v.toBitVec.toNat = v := by
  apply Int64.toBitVec_inj.mp
  rw [lN_bv, BitVec.ofNat_toNat, BitVec.setWidth_eq]
theorem d64_bit (N i b : Nat) : ((N >>> (64 * i)) % 18446744073709551616).testBit b = (decide (b < 64) && N.testBit (64 * i + b)) := by
  rw [show (18446744073709551616 : Nat) = 2 ^ 64 from rfl, Nat.testBit_mod_two_pow, Nat.testBit_shiftRight]
theorem d64_pw (N f v i : Nat) : (nPw N (64 * f) 64 v >>> (64 * i)) % 18446744073709551616 = if i = f then v % 18446744073709551616 else (N >>> (64 * i)) % 18446744073709551616 := by
  apply Nat.eq_of_testBit_eq
  intro b
  by_cases hb : b < 64
  · by_cases h : i = f
    · rw [if_pos h, d64_bit, nPw_bit, if_neg (by omega), if_pos (by omega), show (18446744073709551616 : Nat) = 2 ^ 64 from rfl, Nat.testBit_mod_two_pow, show 64 * i + b - 64 * f = b by omega]
    · rw [if_neg h, d64_bit, d64_bit, nPw_bit]
      by_cases h1 : i < f
      · rw [if_pos (by omega)]
      · rw [if_neg (by omega), if_neg (by omega)]
  · by_cases h : i = f
    · rw [if_pos h, d64_bit, decide_eq_false hb, Bool.false_and, show (18446744073709551616 : Nat) = 2 ^ 64 from rfl, Nat.testBit_mod_two_pow, decide_eq_false hb, Bool.false_and]
    · rw [if_neg h, d64_bit, d64_bit, decide_eq_false hb, Bool.false_and, Bool.false_and]
theorem gS_put {S f : Nat} {v : Int64} (hf : f < 10) : (fun j => if j = f then v else gS S j) = gS (sPut S f v) := by
  funext j
  by_cases hj : j < 10
  · by_cases e : j = f
    · rw [if_pos e, gS_in hj]
      unfold sPut
      rw [d64_pw, if_pos e, Nat.mod_eq_of_lt v.toBitVec.isLt, l_toBv]
    · rw [if_neg e, gS_in hj, gS_in hj]
      unfold sPut
      rw [d64_pw, if_neg e]
  · rw [gS_out (by omega), if_neg (by omega), gS_out (by omega)]
def fullN : Nat := 2 ^ 640 - 1
theorem fullN_eq : gS fullN = full := funext fun j => by
  by_cases c : j < 10
  · have e : allB (fun k => decide (gS fullN k = -1)) 10 = true := by decide +kernel
    rw [of_decide_eq_true (allB_iff.mp e j c), full, if_pos c]
  · rw [gS_out (by omega), full, if_neg c]
/-- one narrowing -/
def isPrB (I : aI) (s : Nat) : Bool := decide (I 45 s = 5) || decide (I 45 s = 6)
def nbF (I : aI) (s S f : Nat) : Nat := sPut S f (nBy I s (gS S) f)
def nbC (I : aI) (s S : Nat) : Nat :=
  bif isPrB I s then sPut (nbF I s S (iN I 46 s)) (iN I 47 s) (nBy I s (gS S) (iN I 47 s)) else nbF I s S (iN I 46 s)
/-- the fields of a statement are fields -/
def fdB (I : aI) (s : Nat) : Bool := Nat.blt (iN I 46 s) 10 && (!isPrB I s || Nat.blt (iN I 47 s) 10)
theorem nBy_o0 {I : aI} {s j : Nat} {S : Nat → Int64} (h1 : j ≠ iN I 46 s) (h2 : j ≠ iN I 47 s) : nBy I s S j = S j := by
  unfold nBy
  (repeat' split) <;> simp [sUpd, h1, h2]
theorem nBy_o1 {I : aI} {s j : Nat} {S : Nat → Int64} (h5 : I 45 s ≠ 5) (h6 : I 45 s ≠ 6) (h1 : j ≠ iN I 46 s) : nBy I s S j = S j := by
  unfold nBy
  rw [if_neg h5, if_neg h6]
  (repeat' split) <;> simp [sUpd, h1]
theorem nbC_ok {I : aI} {s S : Nat} (h : fdB I s = true) : nBy I s (gS S) = gS (nbC I s S) := by
  unfold fdB at h
  rw [Bool.and_eq_true] at h
  have hf : iN I 46 s < 10 := Nat.ble_eq.mp h.1
  have e1 : gS (nbF I s S (iN I 46 s)) = (fun j => if j = iN I 46 s then nBy I s (gS S) (iN I 46 s) else gS S j) := (gS_put hf).symm
  unfold nbC
  by_cases c : isPrB I s = true
  · rw [c, cond_true]
    have ha : iN I 47 s < 10 := by
      have q := h.2
      rw [c, Bool.not_true, Bool.false_or] at q
      exact Nat.ble_eq.mp q
    rw [← gS_put ha, e1]
    funext j
    by_cases q1 : j = iN I 47 s
    · rw [if_pos q1, q1]
    · rw [if_neg q1]
      show _ = (if j = iN I 46 s then _ else _)
      by_cases q2 : j = iN I 46 s
      · rw [if_pos q2, q2]
      · rw [if_neg q2]; exact nBy_o0 q2 q1
  · have c0 : isPrB I s = false := Bool.eq_false_iff.mpr c
    rw [c0, cond_false, e1]
    unfold isPrB at c0
    rw [Bool.or_eq_false_iff] at c0
    funext j
    show _ = (if j = iN I 46 s then _ else _)
    by_cases q2 : j = iN I 46 s
    · rw [if_pos q2, q2]
    · rw [if_neg q2]; exact nBy_o1 (of_decide_eq_false c0.1) (of_decide_eq_false c0.2) q2
/-- nothing is narrowed any more -/
def sEqC (I : aI) (s S : Nat) : Bool := Nat.beq (nbC I s S) S
/-- narrowing again and again, as q says which count -/
def nPs (I : aI) (q : Nat → Nat → Bool) : Nat → Nat → Nat
  | 0, S => S
  | k + 1, S => bif q (nPs I q k S) k then nbC I k (nPs I q k S) else nPs I q k S
def nFx (I : aI) (q : Nat → Nat → Bool) (n : Nat) : Nat → Nat → Nat
  | 0, S => S
  | t + 1, S => bif Nat.beq (nPs I q n S) S then S else nFx I q n t (nPs I q n S)
def fdA (I : aI) (n : Nat) : Bool := allB (fdB I) n
def stC (I : aI) (q : Nat → Nat → Bool) (n S : Nat) : Bool := allB (fun s => !q S s || sEqC I s S) n
theorem nFx_ok {I : aI} {q : Nat → Nat → Bool} {n : Nat} {B : (Nat → Int64) → Prop} (hfd : fdA I n = true) (hB : ∀ S s, s < n → q S s = true → B (gS S) → B (nBy I s (gS S))) : ∀ t S, B (gS S) → B (gS (nFx I q n t S)) := by
  have hp : ∀ k, k ≤ n → ∀ S, B (gS S) → B (gS (nPs I q k S)) := by
    intro k
    induction k with
    | zero => intro _ S h; exact h
    | succ k ih =>
      intro hk S h
      have i1 := ih (by omega) S h
      unfold nPs
      by_cases c : q (nPs I q k S) k = true
      · rw [c, cond_true, ← nbC_ok (allB_iff.mp hfd k (by omega))]
        exact hB _ k (by omega) c i1
      · rw [Bool.eq_false_iff.mpr c, cond_false]; exact i1
  intro t
  induction t with
  | zero => intro S h; exact h
  | succ t ih =>
    intro S h
    unfold nFx
    by_cases c : Nat.beq (nPs I q n S) S = true
    · rw [c, cond_true]; exact h
    · rw [Bool.eq_false_iff.mpr c, cond_false]; exact ih _ (hp n (Nat.le_refl _) S h)
theorem stC_ok {I : aI} {q : Nat → Nat → Bool} {n S : Nat} (hfd : fdA I n = true) (h : stC I q n S = true) : ∀ s, s < n → q S s = true → nBy I s (gS S) = gS S := fun s hs hq => by
  have z := allB_iff.mp h s hs
  rw [hq, Bool.not_true, Bool.false_or] at z
  rw [nbC_ok (allB_iff.mp hfd s hs), Nat.eq_of_beq_eq_true z]
/-- the statements that count by themselves -/
def qOn (I : aI) : Nat → Nat → Bool := fun S s => decide (cOn I (gS S) s)
def fixC (I : aI) (n S0 : Nat) : Nat := nFx I (qOn I) n 80 S0
def fixOk (I : aI) (n S0 : Nat) : Bool := fdA I n && stC I (qOn I) n (fixC I n S0)
theorem fixC_ok {I : aI} {n S0 : Nat} (h : fixOk I n S0 = true) : Fix I n (gS S0) (gS (fixC I n S0)) := by
  unfold fixOk at h
  rw [Bool.and_eq_true] at h
  have hb : BI I n (gS S0) (gS (fixC I n S0)) := nFx_ok (B := fun S => BI I n (gS S0) S) h.1 (fun S s hs hq hB => BI.put hs hB (of_decide_eq_true hq)) 80 S0 ⟨SLe_r _, fun T hT _ => hT⟩
  exact ⟨hb.1, fun s hs hc => stC_ok h.1 h.2 s hs (decide_eq_true hc), hb.2⟩
def anyZ (S : Nat) : Bool := anyB (fun j => decide (gS S j = 0)) 10
/-- the defaults -/
def chS1 (I : aI) (n f S : Nat) : Nat := sPut S f (dSet I n (gS S) f)
def ch1 (I : aI) (n f S : Nat) : Nat := bif (Nat.blt 1 (sCount (gS S f)) && Nat.beq (sCount (dSet I n (gS S) f)) 1) then (bif anyZ (fixC I n (chS1 I n f S)) then S else fixC I n (chS1 I n f S)) else S
def ch1Ok (I : aI) (n f S : Nat) : Bool := !(Nat.blt 1 (sCount (gS S f)) && Nat.beq (sCount (dSet I n (gS S) f)) 1) || fixOk I n (chS1 I n f S)
def chC (I : aI) (n P : Nat) : Nat → Nat
  | 0 => P
  | f + 1 => ch1 I n f (chC I n P f)
def chOk (I : aI) (n P : Nat) : Nat → Bool
  | 0 => true
  | f + 1 => chOk I n P f && ch1Ok I n f (chC I n P f)
theorem chC_ok {I : aI} {n P : Nat} : ∀ f, f ≤ 10 → chOk I n P f = true → Ch I n (gS P) f (gS (chC I n P f))
  | 0, _, _ => rfl
  | f + 1, hf, h => by
    unfold chOk at h
    rw [Bool.and_eq_true] at h
    have ih := chC_ok f (by omega) h.1
    have h2 := h.2
    refine ⟨gS (chC I n P f), ih, ?_⟩
    show (if 1 < sCount (gS (chC I n P f) f) then DefR I n f (gS (chC I n P f)) (gS (ch1 I n f (chC I n P f))) else gS (ch1 I n f (chC I n P f)) = gS (chC I n P f))
    generalize chC I n P f = S at *
    unfold ch1Ok at h2
    unfold ch1
    by_cases c1 : 1 < sCount (gS S f)
    · rw [if_pos c1]
      have d1 : Nat.blt 1 (sCount (gS S f)) = true := Nat.ble_eq.mpr c1
      rw [d1, Bool.true_and] at h2 ⊢
      unfold DefR
      by_cases c2 : sCount (dSet I n (gS S) f) = 1
      · rw [if_pos c2]
        have d2 : Nat.beq (sCount (dSet I n (gS S) f)) 1 = true := by rw [c2]; rfl
        rw [d2, Bool.not_true, Bool.false_or] at h2
        rw [d2, cond_true]
        refine ⟨gS (fixC I n (chS1 I n f S)), ?_, ?_⟩
        · rw [gS_put (by omega)]; exact fixC_ok h2
        · show gS (bif anyZ _ then S else _) = _
          by_cases c3 : anyZ (fixC I n (chS1 I n f S)) = true
          · rw [c3, cond_true]; unfold anyZ at c3; rw [if_pos c3]
          · rw [Bool.eq_false_iff.mpr c3, cond_false]; unfold anyZ at c3; rw [if_neg c3]
      · rw [if_neg c2]
        have d2 : Nat.beq (sCount (dSet I n (gS S) f)) 1 = false := Bool.eq_false_iff.mpr (fun q => c2 (Nat.eq_of_beq_eq_true q))
        rw [d2, cond_false]
    · rw [if_neg c1]
      have d1 : Nat.blt 1 (sCount (gS S f)) = false := Bool.eq_false_iff.mpr (fun q => c1 (Nat.ble_eq.mp q))
      rw [d1, Bool.false_and, cond_false]
/-! what is told: the wanted versions, what is there, guards and faults -/
def wnB (I : aI) (W : Nat → Int32) (s : Nat) : Bool := (decide (0 ≤ I 49 s ∧ I 52 s = 0) || (decide (I 49 s < 0 ∧ 0 < I 51 s) && decide (W (3 * I 50 s + I 51 s - 1).toNatClampNeg ≠ 0))) && decide (I 45 s = 12)
theorem wnB_iff {I : aI} {W : Nat → Int32} {s : Nat} : wnB I W s = true ↔ wantsW I (fun j => W j ≠ 0) s := by
  unfold wnB wantsW
  simp only [Bool.and_eq_true, Bool.or_eq_true, decide_eq_true_eq, and_assoc]
theorem wantsW_mono {I : aI} {V W : Nat → Prop} {s : Nat} (h : ∀ j, V j → W j) (g : wantsW I V s) : wantsW I W s := ⟨g.1.imp id (fun q => ⟨q.1, q.2.1, h _ q.2.2⟩), g.2⟩
def wTr (I : aI) (n : Nat) : List Nat → Nat → Nat
  | [], N => N
  | s :: t, N => bif (Nat.blt s n && wnB I (gM N 83) s && decide (0 < iN I 53 (iN I 46 s)) && Nat.blt (idxW I s) 16) then wTr I n t (gPt N 83 (idxW I s) 1) else N
theorem wTr_ok {I : aI} {n l : Nat} : ∀ {t : List Nat} {N : Nat}, ((∀ o, o ≠ 83 → gM N o = gM l o) ∧ ∀ W : Nat → Prop, ClosedW I n W → ∀ j, gM N 83 j ≠ 0 → W j) → (∀ o, o ≠ 83 → gM (wTr I n t N) o = gM l o) ∧ ∀ W : Nat → Prop, ClosedW I n W → ∀ j, gM (wTr I n t N) 83 j ≠ 0 → W j
  | [], N, h => h
  | s :: t, N, h => by
    unfold wTr
    by_cases c : (Nat.blt s n && wnB I (gM N 83) s && decide (0 < iN I 53 (iN I 46 s)) && Nat.blt (idxW I s) 16) = true
    · rw [c, cond_true]
      simp only [Bool.and_eq_true] at c
      obtain ⟨⟨⟨c1, c2⟩, c3⟩, c4⟩ := c
      have hw : idxW I s < wid 83 := by
        have q : idxW I s < 16 := Nat.ble_eq.mp c4
        rw [show wid 83 = 16 from by decide +kernel]; exact q
      refine wTr_ok ⟨fun o ho => ?_, fun W hW j hj => ?_⟩
      · rw [← gM_put hw, a_u_row ho]; exact h.1 o ho
      · rw [← gM_put hw] at hj
        unfold a_u at hj
        split at hj
        · next e =>
          rw [e.2]
          exact hW s (Nat.ble_eq.mp c1) (wantsW_mono (fun i hi9 => h.2 W hW i hi9) (wnB_iff.mp c2)) (of_decide_eq_true c3)
        · exact h.2 W hW j hj
    · rw [Bool.eq_false_iff.mpr c, cond_false]; exact h
def wCl (I : aI) (n : Nat) (W : Nat → Int32) : Bool := allB (fun s => !(wnB I W s && decide (0 < iN I 53 (iN I 46 s))) || decide (W (idxW I s) ≠ 0)) n
theorem wCl_ok {I : aI} {n : Nat} {W : Nat → Int32} (h : wCl I n W = true) : ClosedW I n (fun j => W j ≠ 0) := fun s hs hw h0 => by
  have q := allB_iff.mp h s hs
  rw [Bool.or_eq_true] at q
  rcases q with q | q
  · rw [wnB_iff.mpr hw, decide_eq_true h0] at q; cases q
  · exact of_decide_eq_true q
theorem rng1_row {N o n : Nat} {f : aI} {g : Nat → Int32} (hn : n ≤ wid o) (h1 : ∀ j, j < n → f o j = g j) (h2 : ∀ j, n ≤ j → g j = gM N o j) : a_ur (gM N) o g = gM (rng1 N f o 0 n) := by
  funext a b
  rw [rng1_ok n (by omega)]
  by_cases e : a = o
  · rw [e, a_ur_self]
    by_cases c : b < n
    · rw [if_pos ⟨rfl, by omega, by omega⟩, h1 b c]
    · rw [if_neg (by omega), h2 b (by omega)]
  · rw [a_ur_ne e, if_neg (fun z => e z.1)]
def la4 (N n : Nat) : Nat := rng1 N (fun _ j => S84 (gM N) n j) 84 0 n
def la5 (N n : Nat) : Nat := rng1 N (fun _ j => S85 (gM N) n j) 85 0 n
def la6 (N4 N n : Nat) : Nat := rng1 N (fun _ j => S86 (gM N4) n n j) 86 0 n
def laZ (l : Nat) : Bool := allB (fun j => decide (gM l 83 j = 0)) 16
theorem laysC_ok {l n : Nat} {t : List Nat} (hn : n ≤ 32) (hz : laZ l = true) (hc : wCl (gM l) n (gM (wTr (gM l) n t l) 83) = true) : LaysR (gM l) (gM (la6 (la4 (wTr (gM l) n t l) n) (la5 (la4 (wTr (gM l) n t l) n) n) n)) n := by
  have w8 : wid 84 = 32 ∧ wid 85 = 32 ∧ wid 86 = 32 ∧ wid 83 = 16 := by decide +kernel
  have q := wTr_ok (I := gM l) (n := n) (l := l) (t := t) (N := l) ⟨fun _ _ => rfl, fun W _ j hj => (by
    exfalso
    by_cases c : j < 16
    · exact hj (of_decide_eq_true (allB_iff.mp hz j c))
    · exact hj (gM_out (by omega)))⟩
  generalize wTr (gM l) n t l = N at *
  refine ⟨gM N, ⟨q.1, fun W hW j _ hj => q.2 W hW j hj, wCl_ok hc⟩, ?_⟩
  have e4 : a_ur (gM N) 84 (S84 (gM N) n) = gM (la4 N n) := rng1_row (by omega) (fun j _ => rfl) (fun j hj => if_neg (by omega))
  rw [e4]
  have e5 : a_ur (gM (la4 N n)) 85 (S85 (gM (la4 N n)) n) = gM (la5 (la4 N n) n) := rng1_row (by omega) (fun j _ => rfl) (fun j hj => if_neg (by omega))
  rw [e5]
  refine (rng1_row (N := la5 (la4 N n) n) (by omega) (fun j _ => rfl) (fun j hj => ?_)).symm
  show (if j < n then _ else gM (la4 N n) 86 j) = gM (la5 (la4 N n) n) 86 j
  rw [if_neg (by omega), ← e5, a_ur_ne (by decide)]
/-- all of it: the ghost with what was found, the sets without and with defaults -/
def solM (l n : Nat) (t : List Nat) : Nat := gPt (la6 (la4 (wTr (gM l) n t l) n) (la5 (la4 (wTr (gM l) n t l) n) n) n) 44 53 0
def solB (l : Nat) (t : List Nat) (M P S : Nat) : Bool :=
  Nat.ble (iN (gM l) 44 0) 32 && laZ l && wCl (gM l) (iN (gM l) 44 0) (gM (wTr (gM l) (iN (gM l) 44 0) t l) 83) && Nat.beq (gPt (solM l (iN (gM l) 44 0) t) 44 57 (bI (anyZ P))) M &&
  fixOk (gM M) (iN (gM l) 44 0) fullN && Nat.beq (fixC (gM M) (iN (gM l) 44 0) fullN) P &&
  (bif anyZ P then Nat.beq P S else (chOk (gM M) (iN (gM l) 44 0) P 10 && Nat.beq (chC (gM M) (iN (gM l) 44 0) P 10) S))
theorem sol_ok {l : Nat} {t : List Nat} {M P S : Nat} (h : solB l t M P S = true) : SvM (gM l) (gS P) (gS S) (gM M) := by
  unfold solB at h
  simp only [Bool.and_eq_true] at h
  obtain ⟨⟨⟨⟨⟨⟨a1, a2⟩, a3⟩, a4⟩, a5⟩, a6⟩, a7⟩ := h
  have F := fixC_ok a5
  rw [Nat.eq_of_beq_eq_true a6, fullN_eq] at F
  have w44 : wid 44 = 64 := by decide +kernel
  refine SvM.mk ⟨_, laysC_ok (t := t) (Nat.le_of_ble_eq_true a1) a2 a3, ?_, F, ?_⟩
  · rw [← Nat.eq_of_beq_eq_true a4, ← gM_put (by omega)]
    unfold solM
    rw [← gM_put (by omega)]; rfl
  · by_cases c : anyZ P = true
    · rw [c, cond_true] at a7
      unfold anyZ at c
      rw [if_pos c, Nat.eq_of_beq_eq_true a7]
    · rw [Bool.eq_false_iff.mpr c, cond_false, Bool.and_eq_true] at a7
      unfold anyZ at c
      rw [if_neg c, ← Nat.eq_of_beq_eq_true a7.2]; exact chC_ok 10 (by omega) a7.1
/-! a least conflict -/
def qAl (q : Nat → Bool) : Nat → Nat → Bool := fun _ s => q s
def fixQ (I : aI) (n : Nat) (q : Nat → Bool) : Nat := nFx I (qAl q) n 80 fullN
def okQ (I : aI) (n : Nat) (q : Nat → Bool) : Bool := fdA I n && stC I (qAl q) n (fixQ I n q)
theorem fixQ_ok {I : aI} {n : Nat} {q : Nat → Bool} (h : okQ I n q = true) : anyZ (fixQ I n q) = cfl I n q := by
  unfold okQ at h
  rw [Bool.and_eq_true] at h
  refine cfl_eq (S := gS (fixQ I n q)) ?_
  have hb : SLe (gS (fixQ I n q)) full ∧ ∀ T, SLe T full → (∀ s, s < n → q s = true → nBy I s T = T) → SLe T (gS (fixQ I n q)) := by
    refine nFx_ok (q := qAl q) (B := fun S => SLe S full ∧ ∀ T, SLe T full → (∀ s, s < n → q s = true → nBy I s T = T) → SLe T S) h.1 (fun S s hs hq hB => ⟨SLe_t (nBy_le _ _ _) hB.1, fun T hT g => ?_⟩) 80 fullN (by rw [fullN_eq]; exact ⟨SLe_r _, fun T hT _ => hT⟩)
    rw [← g s hs hq]; exact nBy_mono I s (hB.2 T hT g)
  exact ⟨hb.1, fun s hs hq => stC_ok (q := qAl q) h.1 h.2 s hs hq, hb.2⟩
def fsC (f : Nat → Option Int32) : Nat → Option Int32
  | 0 => some 0
  | k + 1 => match fsC f k with
    | none => none
    | some v => if v ≠ 0 then some v else f k
theorem fsC_ok {f : Nat → Int32} {fC : Nat → Option Int32} (h : ∀ k v, fC k = some v → f k = v) : ∀ n v, fsC fC n = some v → fs f n = v
  | 0, v, e => by cases e; rfl
  | n + 1, v, e => by
    unfold fsC at e
    unfold fs
    split at e
    · cases e
    · next v0 e0 =>
      have ih := fsC_ok h n v0 e0
      rw [ih]
      split at e
      · next c => cases e; rw [if_pos c]
      · next c => rw [if_neg c]; exact h n v e
def lqC (I : aI) (n : Nat) (may : Bool) (q : Nat → Bool) (b : Int32) : Option Int32 := bif may then (bif okQ I n q then some (bif anyZ (fixQ I n q) then b else 0) else none) else some 0
theorem lqC_ok {I : aI} {n : Nat} {p : Prop} [Decidable p] {q : Nat → Bool} {b v : Int32} (h : lqC I n (decide p) q b = some v) : (if p ∧ cfl I n q = true then b else 0) = v := by
  unfold lqC at h
  by_cases c : p
  · rw [decide_eq_true c, cond_true] at h
    by_cases d : okQ I n q = true
    · rw [d, cond_true, fixQ_ok d] at h
      by_cases e : cfl I n q = true
      · rw [e, cond_true] at h; cases h; rw [if_pos ⟨c, e⟩]
      · rw [Bool.eq_false_iff.mpr e, cond_false] at h; cases h; rw [if_neg (fun z => e z.2)]
    · rw [Bool.eq_false_iff.mpr d, cond_false] at h; cases h
  · rw [decide_eq_false c, cond_false] at h; cases h
    rw [if_neg (fun z => c z.1)]
def l1C (I : aI) (n : Nat) : Option Int32 := fsC (fun c => lqC I n (decide (I 93 c ≠ 0)) (al (-1) (-1) (nI c)) ((iBit (nI c) ||| 0) ||| 0)) n
def l2C (I : aI) (n : Nat) : Option Int32 := fsC (fun c => fsC (fun b => lqC I n (decide (I 93 c ≠ 0 ∧ I 93 b ≠ 0)) (al (-1) (nI b) (nI c)) ((iBit (nI c) ||| iBit (nI b)) ||| 0)) c) n
def l3C (I : aI) (n : Nat) : Option Int32 := fsC (fun c => fsC (fun b => fsC (fun a => lqC I n (decide (I 93 c ≠ 0 ∧ I 93 b ≠ 0 ∧ I 93 a ≠ 0)) (al (nI a) (nI b) (nI c)) ((iBit (nI c) ||| iBit (nI b)) ||| iBit (nI a))) b) c) n
def cfC (I : aI) (n : Nat) : Option Int32 := match l1C I n with
  | none => none
  | some v => if v ≠ 0 then some v else match l2C I n with
    | none => none
    | some v => if v ≠ 0 then some v else match l3C I n with
      | none => none
      | some v => if v ≠ 0 then some v else some (-1)
theorem cfC_ok {I : aI} {n : Nat} {v : Int32} (h : cfC I n = some v) : cfV I n = v := by
  unfold cfC at h
  unfold cfV
  split at h
  · cases h
  · next v1 e1 =>
    have q1 : lc1 I n = v1 := fsC_ok (fun c v e => lqC_ok e) n v1 e1
    rw [q1]
    split at h
    · next c => cases h; rw [if_pos c]
    · next c =>
      rw [if_neg c]
      split at h
      · cases h
      · next v2 e2 =>
        have q2 : lc2 I n = v2 := fsC_ok (fun c v e => fsC_ok (fun b v e => lqC_ok e) c v e) n v2 e2
        rw [q2]
        split at h
        · next c => cases h; rw [if_pos c]
        · next c =>
          rw [if_neg c]
          split at h
          · cases h
          · next v3 e3 =>
            have q3 : lc3 I n = v3 := fsC_ok (fun c v e => fsC_ok (fun b v e => fsC_ok (fun a v e => lqC_ok e) b v e) c v e) n v3 e3
            rw [q3]
            split at h
            · next c => cases h; rw [if_pos c]
            · next c => cases h; rw [if_neg c]
def cfB (M P n : Nat) (v : Int32) : Bool := bif decide (gM M 44 57 = 0) then decide (v = 0) else decide (cfC (a_ur (gM M) 93 (mayR (gM M) (gS P) n)) n = some v)
theorem cfB_ok {M P n : Nat} {v : Int32} (h : cfB M P n v = true) : cfA (gM M) (gS P) n = v := by
  unfold cfB at h
  unfold cfA
  by_cases c : gM M 44 57 = 0
  · rw [decide_eq_true c, cond_true] at h
    rw [if_pos c]; exact (of_decide_eq_true h).symm
  · rw [decide_eq_false c, cond_false] at h
    rw [if_neg c]; exact cfC_ok (of_decide_eq_true h)
/-! what is tainted -/
def tnWB (I : aI) (J : aJ) (s x : Nat) : Bool := (decide (0 ≤ I 85 s) && x.testBit (gfld I s)) || (isPrB I s && (x.testBit (iN I 46 s) || x.testBit (iN I 47 s)) && decide (mOpen I J s))
def tzU (I : aI) (J : aJ) (s x : Nat) : Nat := bif decide (I 84 s = 0) then 0 else bif decide (I 45 s = 11) then 1 <<< iN I 46 s else bif (decide (I 45 s < 7) && decide (I 86 s = 0) && tnWB I J s x) then (1 <<< iN I 46 s) ||| (bif isPrB I s then 1 <<< iN I 47 s else 0) else 0
def tzP (I : aI) (J : aJ) : Nat → Nat → Nat
  | 0, x => x
  | k + 1, x => tzP I J k x ||| tzU I J k (tzP I J k x)
def tzI (I : aI) (J : aJ) (n : Nat) : Nat → Nat → Nat
  | 0, x => x
  | t + 1, x => tzI I J n t (tzP I J n x)
def tnB (I : aI) (J : aJ) (n x : Nat) : Bool := Nat.beq (tzI I J n 6 0) x && Nat.blt x 1024 && allB (fun s => Nat.beq (x ||| tzU I J s x) x) n
theorem tb_or1 {x u j : Nat} (h : x ||| u = x) (hj : u.testBit j = true) : x.testBit j = true := by
  rw [← h, Nat.testBit_or, hj, Bool.or_true]
theorem tb_1 {f j : Nat} : ((1 : Nat) <<< f).testBit j = decide (j = f) := by
  rw [Nat.one_shiftLeft, Nat.testBit_two_pow]
  exact decide_eq_decide.mpr ⟨fun z => z.symm, fun z => z.symm⟩
theorem isPrB_iff {I : aI} {s : Nat} : isPrB I s = true ↔ isPr I s := by
  unfold isPrB isPr
  rw [Bool.or_eq_true, decide_eq_true_eq, decide_eq_true_eq]
theorem tnWB_iff {I : aI} {J : aJ} {s x : Nat} : tnWB I J s x = true ↔ tnW I J s (fun j => x.testBit j = true) := by
  unfold tnWB tnW
  rw [Bool.or_eq_true, Bool.and_eq_true, Bool.and_eq_true, Bool.and_eq_true, Bool.or_eq_true, decide_eq_true_eq, decide_eq_true_eq, isPrB_iff, and_assoc]
theorem tnW_mono {I : aI} {J : aJ} {s : Nat} {V W : Nat → Prop} (h : ∀ j, V j → W j) (g : tnW I J s V) : tnW I J s W := g.imp (fun z => ⟨z.1, h _ z.2⟩) (fun z => ⟨z.1, z.2.1.imp (h _) (h _), z.2.2⟩)
theorem tzU_ok {I : aI} {J : aJ} {n s x : Nat} (hs : s < n) (h : ∀ W : Nat → Prop, TnC I J n W → ∀ j, x.testBit j = true → W j) : ∀ W : Nat → Prop, TnC I J n W → ∀ j, (tzU I J s x).testBit j = true → W j := by
  intro W hW j hj
  have q := hW s hs
  unfold tzU at hj
  by_cases c : I 84 s = 0
  · rw [decide_eq_true c, cond_true, Nat.zero_testBit] at hj; cases hj
  · rw [decide_eq_false c, cond_false] at hj
    have q := q c
    by_cases d : I 45 s = 11
    · rw [decide_eq_true d, cond_true, tb_1] at hj
      rw [of_decide_eq_true hj]; exact q.1 d
    · rw [decide_eq_false d, cond_false] at hj
      by_cases e : (decide (I 45 s < 7) && decide (I 86 s = 0) && tnWB I J s x) = true
      · rw [e, cond_true, Nat.testBit_or, tb_1, Bool.or_eq_true, decide_eq_true_eq] at hj
        rw [Bool.and_eq_true, Bool.and_eq_true] at e
        have z := q.2 (of_decide_eq_true e.1.1) (of_decide_eq_true e.1.2) (tnW_mono (fun i hi9 => h W hW i hi9) (tnWB_iff.mp e.2))
        rcases hj with hj | hj
        · rw [hj]; exact z.1
        · by_cases p : isPrB I s = true
          · rw [p, cond_true, tb_1] at hj
            rw [of_decide_eq_true hj]; exact z.2 (isPrB_iff.mp p)
          · rw [Bool.eq_false_iff.mpr p, cond_false, Nat.zero_testBit] at hj; cases hj
      · rw [Bool.eq_false_iff.mpr e, cond_false, Nat.zero_testBit] at hj; cases hj
theorem tzP_ok {I : aI} {J : aJ} {n : Nat} : ∀ k, k ≤ n → ∀ x, (∀ W : Nat → Prop, TnC I J n W → ∀ j, x.testBit j = true → W j) → ∀ W : Nat → Prop, TnC I J n W → ∀ j, (tzP I J k x).testBit j = true → W j
  | 0, _, x, h => h
  | k + 1, hk, x, h => by
    have ih := tzP_ok k (by omega) x h
    intro W hW j hj
    unfold tzP at hj
    rw [Nat.testBit_or, Bool.or_eq_true] at hj
    exact hj.elim (ih W hW j) (tzU_ok (by omega) ih W hW j)
theorem tzI_ok {I : aI} {J : aJ} {n : Nat} : ∀ t x, (∀ W : Nat → Prop, TnC I J n W → ∀ j, x.testBit j = true → W j) → ∀ W : Nat → Prop, TnC I J n W → ∀ j, (tzI I J n t x).testBit j = true → W j
  | 0, x, h => h
  | t + 1, x, h => tzI_ok t _ (tzP_ok n (Nat.le_refl _) x h)
theorem bt_nI {x j : Nat} (hx : x < 1024) : bt (nI x) j = x.testBit j := by
  unfold bt
  rw [nI, Int32.toBitVec_ofNat', BitVec.getLsbD_ofNat]
  by_cases c : j < 32
  · rw [decide_eq_true c, Bool.true_and]
  · rw [decide_eq_false c, Bool.false_and]
    exact (Nat.testBit_lt_two_pow (Nat.lt_of_lt_of_le hx (Nat.le_trans (by decide : 1024 ≤ 2 ^ 32) (Nat.pow_le_pow_right (by decide) (by omega))))).symm
theorem tnB_ok {I : aI} {J : aJ} {n x : Nat} (h : tnB I J n x = true) : TnL I J n (nI x) := by
  unfold tnB at h
  rw [Bool.and_eq_true, Bool.and_eq_true] at h
  obtain ⟨⟨h1, h2⟩, h3⟩ := h
  have hx : x < 1024 := Nat.ble_eq.mp h2
  have e : (fun j => bt (nI x) j = true) = (fun j => x.testBit j = true) := funext fun j => by rw [bt_nI hx]
  refine ⟨fun j hj => ?_, ?_, fun W hW j hj => ?_⟩
  · rw [bt_nI hx]
    exact Nat.testBit_lt_two_pow (Nat.lt_of_lt_of_le hx (Nat.le_trans (by decide : 1024 ≤ 2 ^ 10) (Nat.pow_le_pow_right (by decide) hj)))
  · rw [e]
    intro s hs h84
    have q := Nat.eq_of_beq_eq_true (allB_iff.mp h3 s hs)
    unfold tzU at q
    rw [decide_eq_false h84, cond_false] at q
    refine ⟨fun h11 => ?_, fun h7 h86 hw => ?_⟩
    · rw [decide_eq_true h11, cond_true] at q
      exact tb_or1 q (by rw [tb_1]; exact decide_eq_true rfl)
    · have n11 : ¬ I 45 s = 11 := fun z => by rw [z] at h7; exact absurd h7 (by decide)
      rw [decide_eq_false n11, cond_false, decide_eq_true h7, decide_eq_true h86, tnWB_iff.mpr hw] at q
      simp only [Bool.and_self, cond_true] at q
      refine ⟨tb_or1 q (by rw [Nat.testBit_or, tb_1, decide_eq_true rfl, Bool.true_or]), fun p => ?_⟩
      rw [isPrB_iff.mpr p, cond_true] at q
      exact tb_or1 q (by rw [Nat.testBit_or, tb_1, tb_1, decide_eq_true (rfl : iN I 47 s = iN I 47 s), Bool.or_true])
  · rw [bt_nI hx, ← Nat.eq_of_beq_eq_true h1] at hj
    exact tzI_ok 6 0 (fun W _ j hj => by rw [Nat.zero_testBit] at hj; cases hj) W hW j hj
/-! the same statements: the solution serves there too -/
def stSl (l : Nat) : Nat := (l >>> 2560) % 2 ^ 11136
theorem stSl_dig {l i : Nat} (h1 : 80 ≤ i) (h2 : i < 428) : dig (stSl l) (i - 80) = dig l i := by
  apply Nat.eq_of_testBit_eq
  intro b
  rw [dig_bit, dig_bit]
  unfold stSl
  by_cases hb : b < 32
  · rw [Nat.testBit_mod_two_pow, Nat.testBit_shiftRight, decide_eq_true (show 32 * (i - 80) + b < 11136 by omega), Bool.true_and, show 2560 + (32 * (i - 80) + b) = 32 * i + b by omega]
  · rw [decide_eq_false hb, Bool.false_and, Bool.false_and]
theorem st_rows : allB (fun k => Nat.ble 80 (off (45 + k)) && Nat.ble (off (45 + k) + wid (45 + k)) 428) 12 = true := by decide +kernel
def stEqB (l l2 : Nat) : Bool := Nat.beq (stSl l) (stSl l2) && decide (gM l2 44 0 = gM l 44 0) && decide (gM l2 44 13 = gM l 44 13)
theorem stEqB_ok {l l2 : Nat} (h : stEqB l l2 = true) : StEq (gM l) (gM l2) := by
  unfold stEqB at h
  rw [Bool.and_eq_true, Bool.and_eq_true] at h
  obtain ⟨⟨h1, h2⟩, h3⟩ := h
  have e := Nat.eq_of_beq_eq_true h1
  refine ⟨fun o ho => funext fun j => ?_, of_decide_eq_true h2, of_decide_eq_true h3⟩
  by_cases c : j < wid o
  · have q := allB_iff.mp st_rows (o - 45) (by omega)
    rw [Bool.and_eq_true, show 45 + (o - 45) = o by omega] at q
    have q1 := Nat.le_of_ble_eq_true q.1
    have q2 := Nat.le_of_ble_eq_true q.2
    rw [gM_in c, gM_in c, ← stSl_dig (by omega) (by omega), ← stSl_dig (l := l) (by omega) (by omega), e]
  · rw [gM_out (by omega), gM_out (by omega)]
