/-! THE DRAWN TURNS: their calls -/
def Kp (m m' : aI) : Prop := (∀ o, 45 ≤ o → o ≤ 57 → m' o = m o) ∧ m' 44 0 = m 44 0 ∧ m' 44 14 = m 44 14 ∧ m' 44 20 = m 44 20
theorem Kp.rfl' {m : aI} : Kp m m := ⟨fun _ _ _ => rfl, rfl, rfl, rfl⟩
theorem Kp.trans {a b c : aI} (h : Kp a b) (g : Kp b c) : Kp a c := ⟨fun o u v => (g.1 o u v).trans (h.1 o u v), g.2.1.trans h.2.1, g.2.2.1.trans h.2.2.1, g.2.2.2.trans h.2.2.2⟩
theorem Kp.ds {m m' : aI} {n : Nat} (h : Kp m m') (g : DS m n) : DS m' n := by
  unfold DS iN at *
  rw [h.1 45 (by decide) (by decide), h.1 46 (by decide) (by decide), h.1 47 (by decide) (by decide), h.1 49 (by decide) (by decide), h.1 55 (by decide) (by decide)]
  exact g
theorem Kp.i0 {m m' : aI} (h : Kp m m') : iN m' 44 0 = iN m 44 0 ∧ iN m' 44 14 = iN m 44 14 ∧ iN m' 44 20 = iN m 44 20 := by
  unfold iN; rw [h.2.1, h.2.2.1, h.2.2.2]; exact ⟨rfl, rfl, rfl⟩
theorem Kp.pl {m : aI} {p : Nat} {l : List Nat} {x : Int32} : Kp m (plB m p l x) := ⟨fun o u v => plB_o (by omega) (by omega) (by omega) (by omega) (by omega), plB_4 (by decide), plB_4 (by decide), plB_4 (by decide)⟩
theorem pl_13 {m : aI} {p : Nat} {l : List Nat} {x : Int32} : plB m p l x 44 13 = m 44 13 ∧ plB m p l x 44 35 = m 44 35 ∧ plB m p l x 44 45 = m 44 45 ∧ plB m p l x 44 36 = nI (p + 1) := ⟨plB_4 (by decide), plB_4 (by decide), plB_4 (by decide), plB_36⟩
theorem pl_at {m : aI} {p : Nat} {l : List Nat} {x : Int32} : plB m p l x 75 p = x ∧ plB m p l x 76 p = m 44 35 ∧ plB m p l x 79 p = nI l.length ∧ (∀ j, j < l.length → plB m p l x 80 (128 * p + j) = nI (l.getD j 0)) ∧ plB m p l x 77 = m 77 ∧ plB m p l x 78 = m 78 := by
  unfold plB
  refine ⟨?_, ?_, ?_, fun j hj => ?_, ?_, ?_⟩
  · rw [a_u_row (by decide), a_ur_ne (by decide), a_u_row (by decide), a_u_row (by decide), a_u_self]
  · rw [a_u_row (by decide), a_ur_ne (by decide), a_u_row (by decide), a_u_self]
  · rw [a_u_row (by decide), a_ur_ne (by decide), a_u_self]
  · rw [a_u_row (by decide), a_ur_self]
    show (if 128 * p ≤ 128 * p + j ∧ 128 * p + j < 128 * p + l.length then nI (l.getD (128 * p + j - 128 * p) 0) else _) = _
    rw [if_pos ⟨by omega, by omega⟩, show 128 * p + j - 128 * p = j by omega]
  · rw [a_u_row (by decide), a_ur_ne (by decide), a_u_row (by decide), a_u_row (by decide), a_u_row (by decide)]
  · rw [a_u_row (by decide), a_ur_ne (by decide), a_u_row (by decide), a_u_row (by decide), a_u_row (by decide)]
theorem pl_es {m : aI} {p : Nat} {l : List Nat} {x : Int32} : ∀ o, 45 ≤ o → o ≤ 73 → plB m p l x o = m o := fun o u v => by
  unfold plB
  rw [a_u_row (by omega), a_ur_ne (by omega), a_u_row (by omega), a_u_row (by omega), a_u_row (by omega)]
/-- a plan just made holds just what is due -/
theorem pl_has {m : aI} {p : Nat} {l : List Nat} {x : Int32} (hl : l.length ≤ 128) : hasA (plB m p l x) p (some l) = true := by
  have q := pl_at (m := m) (p := p) (l := l) (x := x)
  have e : iN (plB m p l x) 79 p = l.length := by unfold iN; rw [q.2.2.1]; exact nI_clamp (by omega)
  show allB (fun i => anyB (fun k => decide (nI (l.getD k 0) = plB m p l x 80 (128 * p + i))) l.length) (iN (plB m p l x) 79 p) = true
  rw [e]
  exact allB_iff.mpr (fun i hi9 => anyB_iff.mpr ⟨i, hi9, decide_eq_true (q.2.2.2.1 i hi9).symm⟩)
theorem Fnd.plan {m : aI} {A : Option (List Nat)} {p : Nat} {l : List Nat} {x : Int32} (h : Fnd m A) : Fnd (plB m p l x) A := Fnd.cg pl_es Kp.pl.2.1 pl_13.1 Kp.pl.2.2.2 h
theorem Fnd.one {m : aI} {A : Option (List Nat)} {o k : Nat} {v : Int32} (ho : 74 ≤ o) (h : Fnd m A) : Fnd (a_u m o k v) A := Fnd.cg (fun q _ v9 => a_u_row (by omega)) (a_u_ne (by omega)) (a_u_ne (by omega)) (a_u_ne (by omega)) h
theorem Kp.one {m : aI} {o k : Nat} {v : Int32} (ho : 58 ≤ o) : Kp m (a_u m o k v) := ⟨fun q _ v9 => a_u_row (by omega), a_u_ne (by omega), a_u_ne (by omega), a_u_ne (by omega)⟩
theorem Kp.ap {m : aI} {x : Nat} : Kp m (apB m x) := ⟨fun o u v => apB_o (by omega) (by omega) (by omega) (by omega), apB_4 (by decide) (by decide) (by decide), apB_4 (by decide) (by decide) (by decide), apB_4 (by decide) (by decide) (by decide)⟩
theorem ap_13 {m : aI} {x : Nat} : apB m x 44 13 = m 44 13 ∧ apB m x 44 36 = m 44 36 ∧ apB m x 44 43 = nI x := ⟨apB_4 (by decide) (by decide) (by decide), apB_4 (by decide) (by decide) (by decide), apB_43⟩
section DT
variable {T : List aT} {I : aI} {J : aJ} {R : aR} {m : aI}
theorem c_key {x y z : Int32} (h : GX T I J R m) : MX11_key 3 200 [.ref 0, .int x, .int y, .int z] T I J R (EX (fun w m2 => -73 ≤ w ∧ ∀ o, o ≠ 63 → o ≠ 64 → m2 o = m o)) := by
  have hd := h.dy
  obtain ⟨sq, gq, eq, pq, h9⟩ := h.g9
  refine AMet.mono (m_X11_key h9 x y z) (ex_of (by simp) hd (fun v m2 q => ?_) (fun j E9 hj q => ?_))
  · rcases q with ⟨q0, q1, q2, q3⟩ | ⟨q0, q1, q2⟩ | ⟨q0, q1, q2⟩ | ⟨q0, q1, q2⟩
    · have r : ∀ o, o ≠ 63 → o ≠ 64 → m2 o = m o := fun o u v9 => by rw [q3]; unfold kyM; rw [a_u_row u, a_ur_ne v9]
      refine ⟨⟨?_, r⟩, ?_⟩
      · have hk := q0.2.2.2.2
        rw [q2, i_le, show ((-73 : Int32).toInt) = -73 from rfl, nI, Int32.toInt_ofNat_of_lt (by omega)]
        omega
      · show (m2 44 13).toNatClampNeg ≤ 30000; rw [r 44 (by decide) (by decide)]; exact hd
    · exact absurd q1 (by omega)
    · exact absurd q1 (by omega)
    · exact absurd q1 (by omega)
  · have hE : E9 = exI ∨ E9 = exA ∨ E9 = exS := by
      have := List.mem_of_getElem? hj
      simpa using this
    refine ⟨?_, fun _ _ _ => rfl⟩
    rcases hE with rfl | rfl | rfl
    · rw [xc_I]; decide
    · rw [xc_A]; decide
    · rw [xc_S]; decide
theorem c_plan {x : Int32} {A : Option (List Nat)} (h : GX T I J R m) (hA : PlQ m (iN m 44 0) (iN m 44 20) A) (h1 : 0 ≤ x ∧ x ≤ 2) (h2 : iN m 44 36 ≠ 40) : MX11_plan 3 200 [.ref 0, .int x] T I J R (EX (fun w m2 => (A = none ∧ w = -73 ∧ m2 = m) ∨ ∃ l, A = some l ∧ w = nI (iN m 44 36) ∧ m2 = plB m (iN m 44 36) l x)) := by
  cases A with
  | none => exact AMet.mono (x_plan_none h (Fnd.of hA) h1) (EX.mono (fun w m2 q => Or.inl ⟨rfl, q.1, q.2⟩))
  | some l => exact AMet.mono (e_plan h (Fnd.of hA) ⟨h1, h2⟩ rfl rfl (by show (plB m _ l x 44 13).toNatClampNeg ≤ 30000; rw [pl_13.1]; exact h.dy)) (EX.mono (fun w m2 q => Or.inr ⟨l, rfl, q.1, q.2⟩))
theorem c_pass {d : Nat} (h : GX T I J R m) (h1 : 1 ≤ d ∧ d ≤ 4) (h2 : iN m 44 13 ≤ 200) : MX11_pass 3 200 [.ref 0, .int (nI d)] T I J R (EX (fun w m2 => w = nI (iN m 44 13 + d) ∧ Kp m m2 ∧ m2 44 36 = m 44 36 ∧ iN m2 44 13 = iN m 44 13 + d)) := by
  have hd := h.dy
  obtain ⟨sq, gq, eq, pq, h9⟩ := h.g9
  obtain ⟨d0, dd, _⟩ := h9.dy
  have e13 : m 44 13 = nI (iN m 44 13) := by
    have : iN m 44 13 = d0 := by unfold iN; rw [dd]; exact nI_clamp (by omega)
    rw [this]; exact dd
  have es : m 44 13 + nI d = nI (iN m 44 13 + d) := by rw [← nI_add, ← e13]
  refine AMet.mono (m_X11_pass h9 (nI d)) (ex_of (by simp) hd (fun v m2 q => ?_) (fun j E9 hj q => ?_))
  · rcases q with ⟨q0, q1, q2, q3⟩ | ⟨q0, q1, q2⟩
    · have k1 : Kp m m2 := by
        rw [q3]; split
        · exact ⟨fun o u v9 => by rw [a_u_row (by omega), a_u_row (by omega), a_u_row (by omega)], by rw [a_u_ne (by decide), a_u_ne (by decide), a_u_ne (by decide)], by rw [a_u_ne (by decide), a_u_ne (by decide), a_u_ne (by decide)], by rw [a_u_ne (by decide), a_u_ne (by decide), a_u_ne (by decide)]⟩
        · exact ⟨fun o u v9 => by rw [a_u_row (by omega)], by rw [a_u_ne (by decide)], by rw [a_u_ne (by decide)], by rw [a_u_ne (by decide)]⟩
      have k2 : m2 44 36 = m 44 36 := by
        rw [q3]; split
        · rw [a_u_ne (by decide), a_u_ne (by decide), a_u_ne (by decide)]
        · rw [a_u_ne (by decide)]
      have k3 : m2 44 13 = nI (iN m 44 13 + d) := by
        rw [q3]; split
        · rw [a_u_ne (by decide), a_u_ne (by decide), a_u_self]; exact es
        · rw [a_u_self]; exact es
      have k4 : iN m2 44 13 = iN m 44 13 + d := by
        show (m2 44 13).toNatClampNeg = _
        rw [k3]; exact nI_clamp (by omega)
      exact ⟨⟨q2.trans es, k1, k2, k4⟩, by show iN m2 44 13 ≤ 30000; rw [k4]; omega⟩
    · exact absurd q1 (by omega)
  · rcases q with ⟨q0, q1, q2⟩ | ⟨q0, q1, q2⟩
    · exact absurd q1 (by omega)
    · exfalso
      refine q0 ⟨?_, ?_⟩
      · rw [i_le, nI, Int32.toInt_ofNat_of_lt (by omega), show ((1 : Int32).toInt) = 1 from rfl]; omega
      · rw [i_le, nI, Int32.toInt_ofNat_of_lt (by omega), show ((30 : Int32).toInt) = 30 from rfl]; omega
/-- a step, where nothing more is wanted than what stays -/
theorem d_step {w : Int32} (h : GX T I J R m) (h1 : 0 ≤ w ∧ w ≤ 2) : MX11_step 3 200 [.ref 0, .int w] T I J R (EX (fun y m2 => -73 ≤ y ∧ (0 ≤ m 44 43 → 100 ≤ y) ∧ Kp m m2 ∧ m2 44 36 = m 44 36 ∧ m2 44 13 = m 44 13)) := by
  refine AMet.mono (c_step h h1) (EX.mono (fun y m2 q => ⟨q.1, q.2.1, ?_⟩))
  rcases q.2.2 with e | ⟨A, S, x, wh, r, u, a, rA, r4, e⟩
  · rw [e]; exact ⟨Kp.rfl', rfl, rfl⟩
  · have k4 : ∀ k, k ≠ 43 → k ≠ 44 → k ≠ 45 → k ≠ 25 → k ≠ 35 → k ≠ 57 → m2 44 k = m 44 k := fun k a1 a2 a3 a4 a5 a6 => by rw [e, stS_4e a1 a2 a3 a4 a5]; exact r4 k a6
    exact ⟨⟨fun o u9 v9 => by rw [e, stS_e (by omega) (by omega)]; exact rA o (by omega) (by omega), k4 0 (by decide) (by decide) (by decide) (by decide) (by decide) (by decide), k4 14 (by decide) (by decide) (by decide) (by decide) (by decide) (by decide), k4 20 (by decide) (by decide) (by decide) (by decide) (by decide) (by decide)⟩, k4 36 (by decide) (by decide) (by decide) (by decide) (by decide) (by decide), k4 13 (by decide) (by decide) (by decide) (by decide) (by decide) (by decide)⟩
theorem d_read (h : GX T I J R m) : MX11_read 3 200 [.ref 0] T I J R (EX (fun w m2 => -73 ≤ w ∧ Kp m m2 ∧ m2 44 36 = m 44 36 ∧ m2 44 13 = m 44 13)) := by
  refine AMet.mono (c_read h) (EX.mono (fun y m2 q => ⟨q.1, ?_⟩))
  rcases q.2 with e | ⟨c, S, e⟩
  · rw [e]; exact ⟨Kp.rfl', rfl, rfl⟩
  · exact ⟨⟨fun o u9 v9 => by rw [e, rdS_o (by omega), rdN_fr (by omega)], by rw [e, rdS_4 (by decide)], by rw [e, rdS_4 (by decide)], by rw [e, rdS_4 (by decide)]⟩, by rw [e, rdS_4 (by decide)], by rw [e, rdS_4 (by decide)]⟩
end DT
/-! what is told -/
theorem nI_rng {k b : Nat} (h : k ≤ b) (hb : b < 1000) : 0 ≤ nI k ∧ nI k ≤ nI b := ⟨by
  rw [i_le, nI, Int32.toInt_ofNat_of_lt (by omega), show ((0 : Int32).toInt) = 0 from rfl]; omega, by
  rw [i_le, nI, Int32.toInt_ofNat_of_lt (by omega), nI, Int32.toInt_ofNat_of_lt (by omega)]; omega⟩
theorem mc_ok {its f a b : Int32} {n : Nat} (h1 : mPlaces its f a) (h2 : mRange its a b) (hn : n ≠ 30) : mCode its f a b n = 0 := by
  show (if ¬ mPlaces its f a then (1 : Int32) else if ¬ mRange its a b then 2 else if n = 30 then 3 else 0) = 0
  rw [if_neg (not_not_intro h1), if_neg (not_not_intro h2), if_neg hn]
/-- what a drawn turn may tell -/
def Tel (K : Nat) (a b : Int32) : Prop := ∀ f n : Nat, f ≤ 3 → n ≠ 30 → mCode (nI K) (nI f) a b n = 0
theorem pl9 {K f : Nat} {a : Int32} (hK : K ≤ 7) (hf : f ≤ 3) (ha : K = 5 ∨ K = 6 → 0 ≤ a ∧ a ≤ 9) : mPlaces (nI K) (nI f) a := by
  have r := nI_rng (k := f) (b := 9) (by omega) (by decide)
  have e : ∀ v : Nat, v < 1000 → (nI K = nI v ↔ K = v) := fun v hv => ⟨fun z => by
    have z2 := congrArg Int32.toNatClampNeg z
    rw [nI_clamp (by omega), nI_clamp (by omega)] at z2; exact z2, fun z => by rw [z]⟩
  refine ⟨?_, ?_⟩
  · rw [if_neg (fun z => by have := (e 12 (by decide)).mp z; omega)]; exact r
  · by_cases c : K = 5 ∨ K = 6
    · exact Or.inr (ha c)
    · exact Or.inl (fun z => c (z.imp (e 5 (by decide)).mp (e 6 (by decide)).mp))
theorem tel_v {K v : Nat} (hK : K = 0 ∨ K = 3 ∨ K = 4 ∨ K = 7) (hv : v ≤ 63) : Tel K (nI v) 0 := fun f n hf hn => mc_ok (pl9 (by omega) hf (fun z => by omega)) (Or.inl ⟨by rcases hK with rfl | rfl | rfl | rfl <;> decide, (nI_rng hv (by decide)).1, (nI_rng hv (by decide)).2, rfl⟩) hn
theorem tel_1 {v : Nat} (hv : v ≤ 63) : Tel 1 (nI v) 63 := fun f n hf hn => mc_ok (pl9 (by omega) hf (fun z => by omega)) (Or.inr (Or.inl ⟨by decide, (nI_rng hv (by decide)).1, (nI_rng hv (by decide)).2, (nI_rng hv (by decide)).2, by decide⟩)) hn
theorem tel_2 {v w : Nat} (hv : v ≤ 63) (hw : w ≤ 63) : Tel 2 (nI v) (nI w) := fun f n hf hn => mc_ok (pl9 (by omega) hf (fun z => by omega)) (Or.inr (Or.inr (Or.inl ⟨by decide, (nI_rng hv (by decide)).1, (nI_rng hv (by decide)).2, (nI_rng hw (by decide)).1, (nI_rng hw (by decide)).2⟩))) hn
theorem tel_5 {v w : Nat} (hv : v ≤ 3) (hw : w ≤ 8) : Tel 5 (nI v) (nI w - 4) := fun f n hf hn => mc_ok (pl9 (by omega) hf (fun _ => nI_rng (b := 9) (by omega) (by decide))) (Or.inr (Or.inr (Or.inr (Or.inl ⟨by decide, by
  have q : ∀ w, w < 9 → (-63 : Int32) ≤ nI w - 4 ∧ nI w - 4 ≤ 63 := by decide +kernel
  exact q w (by omega)⟩)))) hn
theorem tel_6 {v : Nat} (hv : v ≤ 3) : Tel 6 (nI v) 0 := fun f n hf hn => mc_ok (pl9 (by omega) hf (fun _ => nI_rng (b := 9) (by omega) (by decide))) (Or.inr (Or.inr (Or.inr (Or.inr (Or.inl ⟨by decide, rfl⟩))))) hn
theorem ush8 (v : Int32) : ∃ x, x < 16777216 ∧ (v.toUInt32 >>> (Int32.toUInt32 8 &&& Int32.toUInt32 31)).toInt32 = nI x := by
  refine ⟨v.toUInt32.toNat / 256, ?_, ?_⟩
  · have := v.toUInt32.toNat_lt
    omega
  · apply Int32.toBitVec_inj.mp
    rw [nI, Int32.toBitVec_ofNat']
    apply BitVec.eq_of_toNat_eq
    rw [BitVec.toNat_ofNat]
    show ((v.toUInt32 >>> (Int32.toUInt32 8 &&& Int32.toUInt32 31))).toNat = _
    rw [UInt32.toNat_shiftRight, show (Int32.toUInt32 8 &&& Int32.toUInt32 31).toNat % 32 = 8 from by decide, Nat.shiftRight_eq_div_pow]
    have := v.toUInt32.toNat_lt
    rw [Nat.mod_eq_of_lt (by omega)]
/-- the ghost behind a telling -/
theorem put_ds {m : aI} {k F K : Nat} {x a b : Int32} {X : Nat} (hD : DS m k) (hF : F ≤ 3) (hK : K ≤ 7) (ha : K = 5 ∨ K = 6 → a.toNatClampNeg ≤ 3) (hx : x = nI X) (hX : X ≤ 5) : DS (mPut m k x (-1) (nI K) (nI F) a b) (k + 1) := by
  have e45 : mPut m k x (-1) (nI K) (nI F) a b 45 = a_u m 45 k (nI K) 45 := by
    unfold mPut; rw [a_u_row (by decide), a_u_row (by decide), a_u_row (by decide), a_u_row (by decide), a_u_row (by decide), a_u_row (by decide)]
    funext j; by_cases c : j = k
    · rw [c, a_u_self, a_u_self]
    · rw [a_u_ne (fun z => c z.2), a_u_ne (fun z => c z.2), a_u_row (by decide)]
  have e46 : mPut m k x (-1) (nI K) (nI F) a b 46 = a_u m 46 k (nI F) 46 := by
    unfold mPut; rw [a_u_row (by decide), a_u_row (by decide), a_u_row (by decide), a_u_row (by decide), a_u_row (by decide)]
    funext j; by_cases c : j = k
    · rw [c, a_u_self, a_u_self]
    · rw [a_u_ne (fun z => c z.2), a_u_row (by decide), a_u_row (by decide), a_u_ne (fun z => c z.2)]
  have e47 : mPut m k x (-1) (nI K) (nI F) a b 47 = a_u m 47 k a 47 := by
    unfold mPut; rw [a_u_row (by decide), a_u_row (by decide), a_u_row (by decide), a_u_row (by decide)]
    funext j; by_cases c : j = k
    · rw [c, a_u_self, a_u_self]
    · rw [a_u_ne (fun z => c z.2), a_u_row (by decide), a_u_row (by decide), a_u_row (by decide), a_u_ne (fun z => c z.2)]
  have e49 : mPut m k x (-1) (nI K) (nI F) a b 49 = a_u m 49 k x 49 := by
    unfold mPut; rw [a_u_row (by decide), a_u_row (by decide)]
    funext j; by_cases c : j = k
    · rw [c, a_u_self, a_u_self]
    · rw [a_u_ne (fun z => c z.2), a_u_row (by decide), a_u_row (by decide), a_u_row (by decide), a_u_row (by decide), a_u_row (by decide), a_u_ne (fun z => c z.2)]
  have e55 : mPut m k x (-1) (nI K) (nI F) a b 55 = m 55 := by
    unfold mPut; rw [a_u_row (by decide), a_u_row (by decide), a_u_row (by decide), a_u_row (by decide), a_u_row (by decide), a_u_row (by decide), a_u_row (by decide), a_u_row (by decide)]
  unfold DS iN at *
  rw [e45, e46, e47, e49, e55]
  refine ⟨fun s hs => ?_, hD.2⟩
  by_cases c : s = k
  · rw [c, a_u_self, a_u_self, a_u_self, a_u_self, nI_clamp (by omega), nI_clamp (by omega)]
    refine ⟨hK, hF, fun z => ha ?_, by rw [hx]; exact (nI_rng (b := 5) hX (by decide)).1⟩
    have e : ∀ v : Nat, v < 1000 → nI K = nI v → K = v := fun v hv z => by
      have z2 := congrArg Int32.toNatClampNeg z
      rw [nI_clamp (by omega), nI_clamp (by omega)] at z2; exact z2
    exact z.imp (e 5 (by decide)) (e 6 (by decide))
  · rw [a_u_ne (fun z => c z.2), a_u_ne (fun z => c z.2), a_u_ne (fun z => c z.2), a_u_ne (fun z => c z.2)]
    exact hD.1 s (by omega)
theorem put_ag {m : aI} {k : Nat} {x y its f a b : Int32} : (∀ o, 45 ≤ o → o ≤ 52 → ∀ s, s < k → mPut m k x y its f a b o s = m o s) ∧ mPut m k x y its f a b 52 k = m 52 k ∧ mPut m k x y its f a b 49 k = x := by
  unfold mPut
  refine ⟨fun o u v s hs => ?_, ?_, ?_⟩
  · rw [a_u_ne (by omega), a_u_ne (by omega), a_u_ne (by omega), a_u_ne (by omega), a_u_ne (by omega), a_u_ne (by omega), a_u_ne (by omega), a_u_ne (by omega)]
  · rw [a_u_ne (fun z => absurd z.1 (by decide)), a_u_ne (fun z => absurd z.1 (by decide)), a_u_ne (fun z => absurd z.1 (by decide)), a_u_ne (fun z => absurd z.1 (by decide)), a_u_ne (fun z => absurd z.1 (by decide)), a_u_ne (fun z => absurd z.1 (by decide)), a_u_ne (fun z => absurd z.1 (by decide)), a_u_ne (fun z => absurd z.1 (by decide))]
  · rw [a_u_ne (fun z => absurd z.1 (by decide)), a_u_ne (fun z => absurd z.1 (by decide)), a_u_self]
theorem put_4 {m : aI} {k : Nat} {x y its f a b : Int32} : mPut m k x y its f a b 44 0 = nI (k + 1) ∧ ∀ j, j ≠ 0 → j ≠ 61 → mPut m k x y its f a b 44 j = m 44 j := by
  unfold mPut
  refine ⟨a_u_self, fun j h1 h2 => ?_⟩
  rw [a_u_ne (fun z => h1 z.2), a_u_ne (fun z => absurd z.1 (by decide)), a_u_ne (fun z => absurd z.1 (by decide)), a_u_ne (fun z => absurd z.1 (by decide)), a_u_ne (fun z => absurd z.1 (by decide)), a_u_ne (fun z => absurd z.1 (by decide)), a_u_ne (fun z => absurd z.1 (by decide)), a_u_ne (fun z => h2 z.2)]
theorem GX.z52 {T : List aT} {I : aI} {J : aJ} {R : aR} {m : aI} (h : GX T I J R m) : ∀ s, iN m 44 0 ≤ s → s < 30 → m 52 s = 0 := by
  obtain ⟨sq, gq, eq, pq, h9⟩ := h.g9
  exact fun s a b => (h9.bk.2.2.2.1 s a b).2
theorem GX.z77 {T : List aT} {I : aI} {J : aJ} {R : aR} {m : aI} (h : GX T I J R m) : ∀ i, iN m 44 36 ≤ i → i < 40 → m 77 i = 0 ∧ m 78 i = 0 := by
  obtain ⟨sq, gq, eq, pq, h9⟩ := h.g9
  exact h9.pl.2.2.2.1.2
theorem GX.len {T : List aT} {I : aI} {J : aJ} {R : aR} {m : aI} {l : List Nat} (h : GX T I J R m) (hA : PlQ m (iN m 44 0) (iN m 44 20) (some l)) : l.length ≤ 128 := by
  obtain ⟨sq, gq, eq, pq, h9⟩ := h.g9
  exact hA.le h9.es.1.1.g4
theorem GX.d13 {T : List aT} {I : aI} {J : aJ} {R : aR} {m : aI} (h : GX T I J R m) : m 44 13 = nI (iN m 44 13) ∧ m 44 36 = nI (iN m 44 36) ∧ m 44 0 = nI (iN m 44 0) := by
  obtain ⟨sq, gq, eq, pq, h9⟩ := h.g9
  obtain ⟨d0, dd, hd⟩ := h9.dy
  refine ⟨?_, h9.pl.1, h9.bk.1.2.1⟩
  have : iN m 44 13 = d0 := by unfold iN; rw [dd]; exact nI_clamp (by omega)
  rw [this]; exact dd
theorem nI_nx {A : Nat} (h : A < 100000000) : nI A ≠ -71 ∧ nI A ≠ -72 ∧ nI A ≠ -73 := by
  have e : (nI A).toInt = A := by rw [nI]; exact Int32.toInt_ofNat_of_lt (by omega)
  refine ⟨fun z => ?_, fun z => ?_, fun z => ?_⟩
  · have q := congrArg Int32.toInt z; rw [e, show ((-71 : Int32).toInt) = -71 from rfl] at q; omega
  · have q := congrArg Int32.toInt z; rw [e, show ((-72 : Int32).toInt) = -72 from rfl] at q; omega
  · have q := congrArg Int32.toInt z; rw [e, show ((-73 : Int32).toInt) = -73 from rfl] at q; omega
theorem sSum_nx (x : Int64) : sSum x ≠ -71 ∧ sSum x ≠ -72 ∧ sSum x ≠ -73 := by
  by_cases h : x = 0
  · unfold sSum; rw [if_pos h]; decide
  have c1 := sCount_pos h
  have c2 := sCount_le x
  have l := sLeast_le x h
  have g := sGr_le x 64
  have e1 : (10000 * nI (sCount x) + 100 * nI (sLeast x) : Int32) = nI (10000 * sCount x + 100 * sLeast x) := by
    rw [← nI_add, ← pk_mul, ← pk_mul]; rfl
  have hA : 10000 ≤ 10000 * sCount x + 100 * sLeast x := by omega
  have hB : 10000 * sCount x + 100 * sLeast x ≤ 650000 := by omega
  unfold sSum
  rw [if_neg h, e1]
  generalize 10000 * sCount x + 100 * sLeast x = A at *
  have hG : sGreat x ≤ 64 := g
  generalize sGreat x = G at *
  have e2 : nI A + (nI G + (-1)) = nI (A + G - 1) := by
    by_cases h0 : G = 0
    · rw [h0, show (nI 0 + (-1) : Int32) = Int32.ofInt (-1) from by decide, nI_decs (by omega), Nat.add_zero]
    · rw [show (nI G + (-1) : Int32) = nI G + Int32.ofInt (-1) from rfl, nI_decs (by omega), nI_add, show A + (G - 1) = A + G - 1 by omega]
  rw [e2]; exact nI_nx (by omega)
theorem sVl_nx (c : Int32) (S : Nat → Int64) (f : Nat) : sVl c S f ≠ -71 ∧ sVl c S f ≠ -72 ∧ sVl c S f ≠ -73 := by
  unfold sVl
  split
  · split
    · next q =>
      by_cases h0 : S f = 0
      · rw [h0] at q; exact absurd q (by decide +kernel)
      · have l := sLeast_le (S f) h0
        exact nI_nx (by omega)
    · decide
  · decide
theorem pl_has2 {m : aI} {p k : Nat} {l : List Nat} {x v : Int32} (hl : l.length ≤ 128) : hasA (a_u (plB m p l x) 77 k v) p (some l) = true := by
  have q := pl_has (m := m) (p := p) (x := x) hl
  show allB (fun i => anyB (fun k9 => decide (nI (l.getD k9 0) = (a_u (plB m p l x) 77 k v) 80 (128 * p + i))) l.length) (iN (a_u (plB m p l x) 77 k v) 79 p) = true
  unfold iN
  rw [a_u_row (by decide), a_u_row (by decide)]
  exact q
theorem PlQ.plan {m : aI} {p : Nat} {l : List Nat} {x : Int32} {A : Option (List Nat)} (hg : GW (plB m p l x) (iN (plB m p l x) 44 20)) (h : PlQ m (iN m 44 0) (iN m 44 20) A) : PlQ (plB m p l x) (iN (plB m p l x) 44 0) (iN (plB m p l x) 44 20) A := by
  have k := Kp.pl (m := m) (p := p) (l := l) (x := x)
  have e := k.i0
  rw [e.2.2] at hg
  rw [e.1, e.2.2]
  exact PlQ.cg (m := plB m p l x) (m2 := m) (fun o u v => (pl_es o u v).symm) k.2.1.symm pl_13.1.symm hg h
