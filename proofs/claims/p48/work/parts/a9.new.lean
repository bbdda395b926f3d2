/-! A NEW OBJECT: the first world -/
def lwI0 : aI := fun o k => if (o = 4 ∧ k < 10) ∨ (o = 44 ∧ (k = 43 ∨ k = 45)) ∨ (o = 65 ∧ k < 12) then -1 else 0
theorem lwz {o : Nat} (h : o ≠ 4 ∧ o ≠ 44 ∧ o ≠ 65) (k : Nat) : lwI0 o k = 0 := by
  unfold lwI0
  rw [if_neg (by omega)]
theorem lwn {o : Nat} (h : o ≠ 4 ∧ o ≠ 44 ∧ o ≠ 65) (k : Nat) : iN lwI0 o k = 0 := by
  unfold iN
  rw [lwz h]; rfl
theorem lwNR {o n b : Nat} (h : o ≠ 4 ∧ o ≠ 44 ∧ o ≠ 65) (hb : 0 < b) : NR lwI0 o n b := fun j _ => ⟨by rw [lwn h, lwz h]; rfl, by rw [lwn h]; exact hb⟩
theorem lw65 {k : Nat} (h : k < 12) : lwI0 65 k = -1 := by
  unfold lwI0
  rw [if_pos (Or.inr (Or.inr ⟨rfl, h⟩))]
theorem lw_MBk : MBk lwI0 0 := by
  refine ⟨⟨by omega, rfl, lwNR (by decide) (by omega), lwNR (by decide) (by omega), lwNR (by decide) (by omega), lwNR (by decide) (by omega), lwNR (by decide) (by omega), fun s h => by omega, fun s h => by omega, fun s h => by omega, fun s h => by omega, fun s h => by omega⟩, fun s h => by omega, lwNR (by decide) (by omega), fun s _ _ => ⟨lwz (by decide) _, lwz (by decide) _⟩, fun s h => by omega⟩
theorem lw_MEs : MEs lwI0 0 0 := by
  refine ⟨⟨⟨by omega, rfl, ?_, lwNR (by decide) (by omega), lwNR (by decide) (by omega), lwNR (by decide) (by omega), fun j => Or.inl (lwz (by decide) _)⟩, ⟨fun i a h => by omega, fun x _ h => absurd (lwz (by decide) _) h, fun x a _ _ h => by rw [lwz (by decide)] at h; exact absurd h (by unfold bt; simp)⟩, ⟨fun x a _ _ h => absurd (lwz (by decide) _) h, fun j a _ _ _ => by rw [lwn (by decide), lwz (by decide)]; exact ⟨rfl, Nat.zero_le _⟩, fun x _ h => absurd (lwz (by decide) _) h, lwNR (by decide) (by omega)⟩, fun x _ => ⟨fun _ => lwz (by decide) _, fun _ _ => lwz (by decide) _⟩⟩, ⟨fun i a s h => by omega, fun x a _ _ h => absurd (lwz (by decide) _) h⟩, fun x _ => ⟨by rw [lwn (by decide), lwz (by decide)]; rfl, by rw [lwn (by decide)]; exact Nat.le_refl _⟩, fun x _ h => absurd (lwz (by decide) _) h, ⟨fun j a _ _ _ => lwz (by decide) _, fun i _ h4 => ⟨lwz (by decide) _, fun k _ => lwz (by decide) _, fun a ha => lw65 (by omega)⟩⟩⟩
  intro j hj
  exact Or.inl (lw65 hj)
theorem lw_MPl : MPl lwI0 0 0 0 := by
  refine ⟨rfl, by omega, fun i h => by omega, ⟨lwNR (by decide) (by omega), fun i _ _ => ⟨lwz (by decide) _, lwz (by decide) _⟩⟩, fun j => Or.inl (lwz (by decide) _), fun y _ => ⟨by rw [lwn (by decide), lwz (by decide)]; rfl, by rw [lwn (by decide)]; exact Nat.le_refl _⟩, Or.inl rfl, Or.inl rfl⟩
theorem lw_MPo : MPo lwI0 0 := ⟨rfl, by omega, lwNR (by decide) (by omega), fun j h => by omega⟩
theorem lw_MDy : MDy lwI0 0 := ⟨0, rfl, by omega⟩
def lwRa (R : aR) : aR := (a_u (a_u (a_u (a_u (a_u (a_u (a_u (a_u (a_u (a_u (a_u (a_u (a_u (a_u (a_u (a_u (a_u (a_u (a_u (a_u (a_u (a_u (a_u (a_u (a_u (a_u (a_u (a_u (a_u (a_u (a_u (a_u (a_u (a_u (a_u (a_u (a_u (a_u (a_u (a_u (a_u (a_u (a_u (a_u (a_u (a_u (a_u (a_u R 1 0 (some 2)) 1 2 (some 3)) 1 3 (some 4)) 1 4 (some 5)) 1 5 (some 6)) 1 7 (some 7)) 0 0 (some 1)) 9 0 (some 10)) 8 1 (some 9)) 8 4 (some 11)) 12 0 (some 13)) 8 5 (some 12)) 14 0 (some 15)) 8 6 (some 14)) 8 7 (some 16)) 8 8 (some 17)) 8 9 (some 18)) 8 0 (some 1)) 0 1 (some 8)) 19 0 (some 20)) 19 1 (some 21)) 19 3 (some 22)) 19 4 (some 23)) 19 5 (some 24)) 19 7 (some 25)) 19 9 (some 26)) 27 0 (some 28)) 20 0 (some 27)) 29 0 (some 30)) 20 1 (some 29)) 31 0 (some 32)) 20 2 (some 31)) 0 2 (some 19)) 33 0 (some 34)) 33 1 (some 35)) 33 4 (some 36)) 33 6 (some 37)) 33 2 (some 8)) 33 3 (some 19)) 0 3 (some 33)) 38 6 (some 39)) 38 7 (some 40)) 38 1 (some 19)) 38 2 (some 33)) 0 4 (some 38)) 0 5 (some 41)) 0 6 (some 42)) 0 8 (some 43))
def lwIc : aI := a_fill (fun _ _ => 0) 4 10 (fun _ => (-1))
def lcR : aR := lwRa (fun _ _ => none)
def g9new : Nat := 0xffffffffffffffffffffffffffffffffffffffffffffffffffffffffffffffffffffffffffffffffffffffffffffffff000000000000000000000000000000000000000000000000000000000000000000000000000000000000000000000000000000000000000000000000000000000000000000000000ffffffff00000000ffffffff00000000000000000000000000000000000000000000000000000000000000000000000000000000000000000000000000000000000000000000000000000000000000000000000000000000000000000000000000000000000000000000000000000000000000000000000000000000000000000000000000000000000000000000000000000000000000000000000000000000000000000000000000000000000000000000000000000000
theorem lcz {o : Nat} (h : o ≠ 4) (k : Nat) : lwIc o k = 0 := by
  unfold lwIc a_fill
  simp [h]
theorem lcR_none {o : Nat} (h1 : o = 25 ∨ o = 21) (k : Nat) : lcR o k = none := by
  rcases h1 with rfl | rfl <;> simp [lcR, lwRa, a_u]
theorem lc_gi {J : aJ} (hJ : ∀ o k, J o k = 0) : GI a_tags lwIc J lcR lwI0 0 := by
  refine ⟨0, fun _ => 0, 0, fun _ => 0, fun _ => 0, 0, 0, fun _ => 0, 0, List.prefix_refl _, (show aPR lcR by unfold aPR; decide +kernel), ⟨lw_MBk, lw_MEs, lw_MPl, lw_MPo, lw_MDy⟩, ⟨⟨rfl, fun s h => by omega, fun s t h => by omega⟩, ⟨fun q _ => (by first | exact (lcz (by decide) _).trans (lwz (by decide) _).symm | exact (lwz (by decide) _).trans (lwz (by decide) _).symm), fun f hf => ?_, fun j _ => (by first | exact (lcz (by decide) _).trans (lwz (by decide) _).symm | exact (lwz (by decide) _).trans (lwz (by decide) _).symm), fun j _ => (by first | exact (lcz (by decide) _).trans (lwz (by decide) _).symm | exact (lwz (by decide) _).trans (lwz (by decide) _).symm), rfl⟩, fun j _ => ⟨hJ _ _, hJ _ _, hJ _ _⟩, Or.inl (by first | exact lcz (by decide) _ | exact lwz (by decide) _), Or.inl (by first | exact lcz (by decide) _ | exact lwz (by decide) _)⟩, ⟨rfl, fun j h => by omega⟩, ⟨⟨rfl, fun i h => by omega, fun i j h => by omega⟩, fun t ht => ?_, ⟨rfl, rfl, by omega, fun j _ => ⟨(by first | exact (lcz (by decide) _).trans (lwz (by decide) _).symm | exact (lwz (by decide) _).trans (lwz (by decide) _).symm), (by first | exact (lcz (by decide) _).trans (lwz (by decide) _).symm | exact (lwz (by decide) _).trans (lwz (by decide) _).symm), fun _ a _ => (by first | exact (lcz (by decide) _).trans (lwz (by decide) _).symm | exact (lwz (by decide) _).trans (lwz (by decide) _).symm)⟩, fun j _ _ => (by first | exact lcz (by decide) _ | exact lwz (by decide) _)⟩, ⟨fun x _ => ⟨fun _ => lcR_none (Or.inl rfl) _, fun h => absurd (lwz (by decide) _) h⟩, fun x y _ _ h => absurd (lwz (by decide) _) h⟩, rfl, fun x _ => (by first | exact (lcz (by decide) _).trans (lwz (by decide) _).symm | exact (lwz (by decide) _).trans (lwz (by decide) _).symm)⟩, ⟨rfl, fun i h => by omega⟩, fun i j h => by omega, ⟨fun _ => by decide +kernel, fun p hp h => ?_, rfl, fun h => absurd h (by decide +kernel)⟩⟩
  · rw [lwz (o := 55) (by decide)]
    unfold lwIc a_fill
    rw [if_pos ⟨rfl, hf⟩]
    show (-1 : Int32) = 0 - 1
    decide
  · exact ⟨fun a _ => (by first | exact (lcz (by omega) _).trans (lwz (by decide) _).symm | exact (lcz (by omega) _).trans (lwz (by omega) _).symm), (by first | exact (lcz (by omega) _).trans (lwz (by decide) _).symm | exact (lcz (by omega) _).trans (lwz (by omega) _).symm), (by first | exact (lcz (by omega) _).trans (lwz (by decide) _).symm | exact (lcz (by omega) _).trans (lwz (by omega) _).symm), (by first | exact (lcz (by omega) _).trans (lwz (by decide) _).symm | exact (lcz (by omega) _).trans (lwz (by omega) _).symm)⟩
  · exfalso
    have e1 : lwI0 44 43 = -1 := rfl
    rw [e1] at h
    have e2 : (nI p).toInt = p := by rw [nI]; exact Int32.toInt_ofNat_of_lt (by omega)
    rw [← h, show ((-1 : Int32).toInt) = -1 from rfl] at e2
    omega
theorem g9new_le : LEq lwI0 (gM g9new) := by
  have e4 : allB (fun k => decide (gM g9new 44 k = lwI0 44 k)) 64 = true := by decide +kernel
  have e65 : allB (fun k => decide (gM g9new 65 k = lwI0 65 k)) 16 = true := by decide +kernel
  have w4 : wid 44 = 64 ∧ wid 65 = 16 := by decide +kernel
  have er : allB (fun o => decide (o < 45) || decide (o = 65) || allB (fun j => decide (gM g9new o j = 0)) (bif decide (o = 80) then 0 else wid o)) 83 = true := by decide +kernel
  have e80 : (g9new >>> (32 * off 80)) = 0 := by decide +kernel
  refine ⟨fun o u v => funext fun j => ?_, fun k _ _ _ _ => ?_⟩
  · by_cases h65 : o = 65
    · subst h65
      by_cases c : j < 16
      · exact of_decide_eq_true (allB_iff.mp e65 j c)
      · rw [gM_out (by omega)]
        unfold lwI0
        rw [if_neg (by omega)]
    · rw [lwz ⟨by omega, by omega, h65⟩]
      by_cases c : j < wid o
      · by_cases h80 : o = 80
        · subst h80
          rw [gM_in c]
          unfold dig
          rw [show 32 * (off 80 + j) = 32 * off 80 + 32 * j by omega, Nat.shiftRight_add, e80, Nat.zero_shiftRight]; rfl
        · have q := allB_iff.mp er o (by omega)
          rw [decide_eq_false (show ¬ o < 45 by omega), decide_eq_false h65, decide_eq_false h80, Bool.false_or, Bool.false_or, cond_false] at q
          exact of_decide_eq_true (allB_iff.mp q j c)
      · exact gM_out (by omega)
  · by_cases c : k < 64
    · exact of_decide_eq_true (allB_iff.mp e4 k c)
    · rw [gM_out (by omega)]
      unfold lwI0
      rw [if_neg (by omega)]
theorem new_gx : GX a_tags lwIc (fun _ _ => 0) lcR (gM g9new) := ((lc_gi (fun _ _ => rfl)).cgm g9new_le).low (by decide) (by decide +kernel)
/-! forgetting all that there is -/
def xT0 (X : aX) : List aT := X.2.2.2.2.2.2.2.2.2.2.2.2.2.2
theorem a_met0 {y : MethodName} {cc : ByteArray} {nL : Nat} {ret : Option FieldType} {fr lo kc ks : Nat} {As : List Value} {T : List aT} {I : aI} {J : aJ} {R : aR} {P : aP} (hy : plainName y.cls = true) (hn : a_sz As ≤ nL)
    (body : ∀ X : aX, xT0 X = T → aC y cc nL ret fr lo kc ks [] X → aRet X kc ks P → AW X 0 0 0 (a_L0 As nL) [] T I J R) : AMet y cc nL ret fr lo kc ks [] As T I J R P := by
  intro l hl D tys ad ws sz h1 h2 h3
  refine vx_ofW (cc := cc) (maxL := nL) (ret := ret) hy rfl ?_
  intro p e s m args below meth c s₁ B hml htab hv
  obtain ⟨rfl, hsz, hP, hK, hD0, hN, hZ⟩ := hv
  subst hsz
  have hts := atoms_spec B.pre
  have hX : aC y cc nL ret fr lo kc ks [] (p, l, e, { frames := fr, cells := kc, slots := ks, locals := lo }, s, m, (As.map (a_cv ad)).toArray, below, meth, c, vx_MQ below (aQc P D T ad (va_A ws s.heap.size)) (aXc P D T ad (va_A ws s.heap.size)) (As.map (a_cv ad)).toArray s kc ks (va_A ws s.heap.size), va_A ws s.heap.size, D, ad, T) :=
    ⟨⟨B.exec, B.bytes, hml, findClass_of_methodNamed B.named, fun w hw => hts w (List.mem_cons_of_mem _ hw)⟩, B.returns, B.notSynchronized, (name_of_methodNamed B.named B.method).1, hl, rfl, rfl, rfl, rfl, (List.eq_nil_iff_forall_not_mem.mpr htab), fun q h => Or.inr h, hN, hZ⟩
  have hl0 := lv_entry (As.map (a_cv ad)) (n := nL) (by rw [a_lg_sl]; exact hn)
  rw [lg_entry_eq]
  exact body _ rfl hX rfl tys ad ws s.heap [] _ h1 h2 (a_L0_ok h3) a_okS_nil (List.prefix_refl T) (fun _ _ => rfl) hK hP hD0.self va_S.rf (by rw [hml]; exact a_lv_le hl0 a_L0_mem)
theorem aw_clear {X : aX} {cells slots pc : Nat} {L : List (Option Value)} {T : List aT} {I : aI} {J : aJ} {R : aR} (hX : xT0 X = []) (hL : a_okL 0 L) (k : AW X cells slots pc L [] [] (fun _ _ => 0) (fun _ _ => 0) (fun _ _ => none)) : AW X cells slots pc L [] T I J R := by
  obtain ⟨p, l, e, Rm, s, m, args, below, meth, c, Q, A, D, ad0, T0⟩ := X
  have hX : T0 = [] := hX
  subst hX
  intro tys ad ws H locs ls h1 h2 h3 h4 h5 h6 hK hP hD hS hl
  exact k tys ad [] H locs ls ⟨rfl, fun i t h => by simp at h⟩ ⟨fun o k q h => (nomatch h), fun o _ => ⟨rfl, rfl, rfl⟩⟩ hL (fun v hv => by simp at hv) (List.prefix_refl _) h6 hK (fun k q h => by simp at h) ⟨fun i j p q h => by simp at h, fun k q h => by simp at h⟩ hS hl
/-- new Layerwright() where nothing is remembered -/
theorem aw_newL {y : MethodName} {cc : ByteArray} {nL : Nat} {ret : Option FieldType} {fr lo kc ks : Nat} {hh : List (Nat × Nat × Nat × Nat)} {X : aX} {cells slots pc : Nat} {L : List (Option Value)} (hC : aC y cc nL ret fr lo kc ks hh X) (hy : y.cls = RL) (h1 : decode cc pc = .ok (.new 8, 3)) (h2 : decode cc (pc + 3) = .ok (.dup, 1)) (h3 : decode cc (pc + 4) = .ok (.invokespecial 161, 3)) (hfr : 3 + 1 ≤ fr) (hlo : 8 + (1 + 11) + 53 ≤ lo) (hc : cells + 44 ≤ kc) (hs : slots + 1520 ≤ ks) (k : ∀ {T : List aT} {I : aI} {J : aJ} {R : aR}, GX T I J R (gM g9new) → AW X (cells + 44) (slots + 1520) (pc + 7) L [.ref 0] T I J R) : AW X cells slots pc L [] [] (fun _ _ => 0) (fun _ _ => 0) (fun _ _ => none) := by
  refine aw_new hC h1 aK_X11 (hy ▸ gW_L_8) gB_X11 gN_X11 (by omega) (by show slots + 10 ≤ ks; omega) ?_
  rw [show ([] : List aT) ++ [.inr 11] = a_tags.take 1 from rfl, show ([] : List aT).length = 0 from rfl]
  refine aw_dup hC h2 rfl ?_
  refine kL_161 hC hy i_X11_init_0 h3 rfl hfr hlo (by decide) (by omega) (by show slots + 10 + 1510 ≤ ks; omega) rfl aPure_x (aPure_k ?_)
  have q := k new_gx
  rw [show cells + 44 = cells + 1 + 43 by omega, show slots + 1520 = slots + a_nf 11 + 1510 by show slots + 1520 = slots + 10 + 1510; omega] at q
  exact q
theorem okc_0 : a_okL 0 [] := fun v hv => by simp at hv
theorem okc_n {L : List (Option Value)} (h : a_okL 0 L) : a_okL 0 (none :: L) := fun v hv => by
  rcases List.mem_cons.mp hv with e | e
  · cases e
  · exact h v e
theorem okc_i {x : Int32} {L : List (Option Value)} (h : a_okL 0 L) : a_okL 0 (some (.int x) :: L) := fun v hv => by
  rcases List.mem_cons.mp hv with e | e
  · cases e; exact a_okv_int
  · exact h v e
theorem evp {n : aI} {T0 : List aT} {X : aX} {c s pc : Nat} {L : List (Option Value)} {st : List Value} (k : ∀ (T2 : List aT) (I2 : aI) (J2 : aJ) (R2 : aR), GX T2 I2 J2 R2 n → AW X c s pc L st T2 I2 J2 R2) : ∀ (v2 : Option Value) (T2 : List aT) (I2 : aI) (J2 : aJ) (R2 : aR), T0 <+: T2 → EV (pt 0 n) (.inl v2) T2 I2 J2 R2 → AW X c s pc L (v2.toList ++ st) T2 I2 J2 R2 := evk (fun m2 T2 I2 J2 R2 hF h0 => by rw [hF.2] at h0; exact k T2 I2 J2 R2 h0)
/-- it answers yes, whatever is left -/
def PT : aP := fun o _ _ _ _ => o = .inl (some (.int 1))
theorem ptx {T0 : List aT} {X : aX} {c s pc : Nat} {L : List (Option Value)} : ∀ (E : String) (T2 : List aT) (I2 : aI) (J2 : aJ) (R2 : aR), T0 <+: T2 → PT (.inr E) T2 I2 J2 R2 → AE X c s pc L E T2 I2 J2 R2 := fun _ _ _ _ _ _ h => nomatch h
theorem ptk {T0 : List aT} {X : aX} {c s pc : Nat} {L : List (Option Value)} {st : List Value} (k : ∀ (T2 : List aT) (I2 : aI) (J2 : aJ) (R2 : aR), AW X c s pc L (.int 1 :: st) T2 I2 J2 R2) : ∀ (v2 : Option Value) (T2 : List aT) (I2 : aI) (J2 : aJ) (R2 : aR), T0 <+: T2 → PT (.inl v2) T2 I2 J2 R2 → AW X c s pc L (v2.toList ++ st) T2 I2 J2 R2 := by
  intro v2 T2 I2 J2 R2 _ h
  unfold PT at h
  cases h
  exact k T2 I2 J2 R2
/-! the same estate: the same plan -/
theorem StEq.of73 {m m2 : aI} (hr : ∀ o, 45 ≤ o → o ≤ 73 → m2 o = m o) (h0 : m2 44 0 = m 44 0) (h13 : m2 44 13 = m 44 13) : StEq m m2 := ⟨fun o u => hr o u.1 (by omega), h0, h13⟩
theorem PlQ.cg {m m2 : aI} {n g : Nat} {A : Option (List Nat)} (hr : ∀ o, 45 ≤ o → o ≤ 73 → m2 o = m o) (h0 : m2 44 0 = m 44 0) (h13 : m2 44 13 = m 44 13) (hg : GW m g) (h : PlQ m2 n g A) : PlQ m n g A := by
  obtain ⟨m0, M, P, S, mj, w, a1, a2, a3, a4, a5⟩ := h
  have hg4 := hg.g4
  have hso : SO3 (gst m2 M) := SO3_cg ((gst_lo (by decide) (by decide)).trans (hr 65 (by decide) (by decide))) hg.so
  have rr : ∀ o, 58 ≤ o → o ≤ 73 → gst m M o = gst m2 M o := fun o u v => by rw [gst_lo (by omega) (by omega), gst_lo (by omega) (by omega), hr o (by omega) v]
  have c := cPv_cr (A := gst m2 M) (B := gst m M) (JA := mj) (JB := mj) (n := n) (g := g) (w := w) hg4 hso (by rw [gst_57, gst_57]) rfl rr (fun s _ => by rw [gst_hi (by decide), gst_hi (by decide)])
  refine ⟨m0, M, P, S, mj, w, StEq.trans (StEq.of73 hr h0 h13) a1, a2, a3, a4, ?_⟩
  rw [c]
  refine a5.imp id (fun ⟨d1, N, G, d2, d3⟩ => ⟨d1, N, G, fun x hx => ?_, ?_⟩)
  · obtain ⟨f1, f2⟩ := d2 x hx
    have r2 : ∀ o, 58 ≤ o → o ≤ 73 → a_ur (gst m M) 91 N o = a_ur (gst m2 M) 91 N o := fun o u v => by rw [a_ur_ne (by omega), a_ur_ne (by omega)]; exact rr o u v
    have so2 : SO3 (a_ur (gst m2 M) 91 N) := SO3_cg (a_ur_ne (by decide)) hso
    have e57 : a_ur (gst m M) 91 N 44 57 = a_ur (gst m2 M) 91 N 44 57 := by rw [a_ur_ne (by decide), a_ur_ne (by decide), gst_57, gst_57]
    refine ⟨?_, fun a ha => ?_⟩
    · rw [f1]; exact (sCmp_cr so2 (by omega) e57 rfl r2 (fun y _ => by rw [a_ur_self, a_ur_self])).symm
    · rw [f2 a ha]
      exact (sGives_cg so2 (by omega) ha e57 rfl (r2 58 (by decide) (by decide)) (r2 61 (by decide) (by decide)) (r2 62 (by decide) (by decide)) (r2 65 (by decide) (by decide)) (r2 69 (by decide) (by decide)) (r2 70 (by decide) (by decide)) (fun y _ => by rw [a_ur_self, a_ur_self])).symm
  · rw [d3]
    exact congrArg some (allA_cx (by rw [a_ur_ne (by decide), a_ur_ne (by decide)]; exact (rr 59 (by decide) (by decide)).symm) (by rw [a_ur_ne (by decide), a_ur_ne (by decide)]; exact (rr 62 (by decide) (by decide)).symm) (fun x _ => by rw [a_ur_self, a_ur_self]))
theorem GW.cg73 {m m2 : aI} {g : Nat} (hr : ∀ o, 45 ≤ o → o ≤ 73 → m2 o = m o) (h20 : m2 44 20 = m 44 20) (h : GW m2 g) : GW m g := GW_cg h20.symm (hr 65 (by decide) (by decide)).symm (hr 62 (by decide) (by decide)).symm (hr 61 (by decide) (by decide)).symm (hr 63 (by decide) (by decide)).symm (hr 71 (by decide) (by decide)).symm h
theorem Fnd.cg {m m2 : aI} {A : Option (List Nat)} (hr : ∀ o, 45 ≤ o → o ≤ 73 → m2 o = m o) (h0 : m2 44 0 = m 44 0) (h13 : m2 44 13 = m 44 13) (h20 : m2 44 20 = m 44 20) (h : Fnd m A) : Fnd m2 A := fun B h1 h2 h3 => by
  have e0 : iN m2 44 0 = iN m 44 0 := by unfold iN; rw [h0]
  have e20 : iN m2 44 20 = iN m 44 20 := by unfold iN; rw [h20]
  rw [e0] at h1 h3
  rw [e20] at h2 h3
  have hw := GW.cg73 hr h20 h2
  exact h B (SW_cgr h1 (fun o u v => (hr o u (by omega)).symm) h0.symm) hw (PlQ.cg hr h0 h13 hw h3)
def esSl (l : Nat) : Nat := (l >>> 2048) % 2 ^ 43520
theorem esSl_dig {l i : Nat} (h1 : 64 ≤ i) (h2 : i < 1424) : dig (esSl l) (i - 64) = dig l i := by
  apply Nat.eq_of_testBit_eq
  intro b
  rw [dig_bit, dig_bit]
  unfold esSl
  by_cases hb : b < 32
  · rw [Nat.testBit_mod_two_pow, Nat.testBit_shiftRight, decide_eq_true (show 32 * (i - 64) + b < 43520 by omega), Bool.true_and, show 2048 + (32 * (i - 64) + b) = 32 * i + b by omega]
  · rw [decide_eq_false hb, Bool.false_and, Bool.false_and]
theorem es_rows : allB (fun k => Nat.ble 64 (off (45 + k)) && Nat.ble (off (45 + k) + wid (45 + k)) 1424) 29 = true := by decide +kernel
def esEqB (l l2 : Nat) : Bool := Nat.beq (esSl l) (esSl l2) && decide (gM l2 44 0 = gM l 44 0) && decide (gM l2 44 13 = gM l 44 13) && decide (gM l2 44 20 = gM l 44 20)
theorem Fnd.eq {l l2 : Nat} {A : Option (List Nat)} (h : Fnd (gM l) A) (e : esEqB l l2 = true) : Fnd (gM l2) A := by
  unfold esEqB at e
  rw [Bool.and_eq_true, Bool.and_eq_true, Bool.and_eq_true] at e
  obtain ⟨⟨⟨e1, e2⟩, e3⟩, e4⟩ := e
  have q := Nat.eq_of_beq_eq_true e1
  refine Fnd.cg (fun o u v => funext fun j => ?_) (of_decide_eq_true e2) (of_decide_eq_true e3) (of_decide_eq_true e4) h
  by_cases c : j < wid o
  · have z := allB_iff.mp es_rows (o - 45) (by omega)
    rw [Bool.and_eq_true, show 45 + (o - 45) = o by omega] at z
    have z1 := Nat.le_of_ble_eq_true z.1
    have z2 := Nat.le_of_ble_eq_true z.2
    rw [gM_in c, gM_in c, ← esSl_dig (by omega) (by omega), ← esSl_dig (l := l) (by omega) (by omega), q]
  · rw [gM_out (by omega), gM_out (by omega)]
/-! what a call leaves of a written ghost -/
theorem f_reb {m : aI} {b : Bool} {x : Nat} {v : Int32} : ∀ o j, (∀ q ∈ ([(76, x, 1)] : List (Nat × Nat × Nat)), ¬ inR q o j) → (if b = true then a_u m 76 x v else m) o j = m o j := by
  intro o j hn
  split
  · exact f_one o j hn
  · rfl
theorem g_st {l l2 : Nat} {c : Int32} {N : Nat → Int32} {S : Nat → Int64} {x wh hw r u a : Nat} (hx : x < 64) (hc : (rngW (stR (stG (gM l) c N) x r) && Nat.beq (rngC l (stS (stG (gM l) c N) (fun _ => S) x wh hw r u a) (stR (stG (gM l) c N) x r)) l2) = true) : LEq (stS (stG (gM l) c N) (fun _ => S) x wh hw r u a) (gM l2) := by
  rw [Bool.and_eq_true] at hc
  rw [← Nat.eq_of_beq_eq_true hc.2]
  have key : ∀ o j, (gM l o j = stG (gM l) c N o j) → gM (rngC l (stS (stG (gM l) c N) (fun _ => S) x wh hw r u a) (stR (stG (gM l) c N) x r)) o j = stS (stG (gM l) c N) (fun _ => S) x wh hw r u a o j := fun o j e => by
    have q := rngC_ok (N := l) (f := stS (stG (gM l) c N) (fun _ => S) x wh hw r u a) hc.1 o j
    by_cases z : ∃ q ∈ stR (stG (gM l) c N) x r, inR q o j
    · exact q.1 z
    · have z2 : ∀ q ∈ stR (stG (gM l) c N) x r, ¬ inR q o j := fun q hq hi9 => z ⟨q, hq, hi9⟩
      rw [q.2 z2, f_st hx o j z2]; exact e
  refine ⟨fun o u v => funext fun j => key o j ?_, fun k z1 z2 z3 z4 => key 44 k ?_⟩
  · rw [stG_o (by omega) (by omega)]
  · rw [stG_4 z2]
