theorem sCmp_cr {A B : aI} {JA JB : aJ} {x : Nat} (hso : SO3 A) (hx : x < 64) (h57 : B 44 57 = A 44 57) (hJ : JB 88 = JA 88) (h : ∀ o, 58 ≤ o → o ≤ 73 → B o = A o) (h91 : ∀ y, y < 16 * (x / 16) → B 91 y = A 91 y) : sCmp B JB x = sCmp A JA x := by
  have g : ∀ a, a < 3 → sDf B JB x a = sDf A JA x a := fun a ha => sDiff_cg (sGives_cg hso hx ha h57 hJ (h 58 (by decide) (by decide)) (h 61 (by decide) (by decide)) (h 62 (by decide) (by decide)) (h 65 (by decide) (by decide)) (h 69 (by decide) (by decide)) (h 70 (by decide) (by decide)) h91) (h 58 (by decide) (by decide)) (h 62 (by decide) (by decide)) (h 70 (by decide) (by decide)) (h 72 (by decide) (by decide)) (h 73 (by decide) (by decide))
  have gF : anyB (fF B JB x) 3 = anyB (fF A JA x) 3 := anyB_cg (fun j hj => by simp only [fF]; rw [g j hj, h 58 (by decide) (by decide)]; unfold iN; rw [h 62 (by decide) (by decide)])
  have gD : anyB (fD B JB x) 3 = anyB (fD A JA x) 3 := anyB_cg (fun j hj => g j hj)
  have gK : sKept B x = sKept A x := by simp only [sKept]; unfold iN; rw [h 64 (by decide) (by decide), h 63 (by decide) (by decide)]
  rw [sCmp, sCmp, gF, gD, gK, h 69 (by decide) (by decide), h 71 (by decide) (by decide)]
theorem cmp_eq {A B : aI} {JA JB : aJ} {g : Nat} (hg : g ≤ 4) (hso : SO3 A) (h57 : B 44 57 = A 44 57) (hJ : JB 88 = JA 88) (h : ∀ o, 58 ≤ o → o ≤ 73 → B o = A o) (hA : ∀ x, x < 16 * g → A 91 x = sCmp A JA x) (hB : CmpOK B JB g) : ∀ x, x < 16 * g → B 91 x = A 91 x := by
  intro x
  induction x using Nat.strongRecOn with
  | ind x ih =>
    intro hx
    rw [hB x hx, hA x hx]
    exact sCmp_cr hso (by omega) h57 hJ h (fun y hy => ih y (by omega) (by omega))
/-- what the model has found, and what the class found -/
def CX (m M : aI) (n : Nat) (P S : Nat → Int64) (I2 : aI) (J2 : aJ) : Prop := (∀ o, 45 ≤ o → o ≤ 82 → I2 o = m o) ∧ (∀ k, k ≠ 53 → k ≠ 57 → k ≠ 59 → k ≠ 61 → I2 44 k = m 44 k) ∧ I2 44 57 = M 44 57 ∧ J2 88 = S ∧ J2 89 = P ∧ DQ M I2 n
theorem LEq.steq2 {m I0 m0 : aI} (h : LEq m I0) (h0 : StEq m m0) : StEq m0 I0 := StEq.trans (StEq.sym h0) h.steq
theorem sol_cx {m m0 I0 I2 M : aI} {n : Nat} {P S : Nat → Int64} {J J2 : aJ} (hB : MBk m n) (hL : LEq m I0) (h0 : StEq m m0) (hs : SolR m0 M n P S) (hp : SolP I0 I2 J J2 n) : CX m M n P S I2 J2 := by
  have fr := hp.bf
  obtain ⟨K, P2, S2, e, h2⟩ := hp
  have q := SolR_uniq (h0.sw hB.1) (hL.steq2 h0) hs h2
  refine ⟨fun o u v => ?_, fun k z1 z2 z3 z4 => (fr.2 k ⟨z1, z2, z3⟩).trans (hL.2 k z1 z2 z3 z4), q.2.2.2, by rw [e, a_ur_self]; exact q.2.2.1, by rw [e, a_ur_ne (by decide), a_ur_self]; exact q.2.1, q.1⟩
  rw [fr.1 o (by omega)]; exact hL.1 o u v
theorem CX.m91 {m M I2 : aI} {n : Nat} {P S : Nat → Int64} {J2 : aJ} {N : Nat → Int32} (h : CX m M n P S I2 J2) : CX m M n P S (a_ur I2 91 N) J2 := ⟨fun o u v => by rw [a_ur_ne (by omega)]; exact h.1 o u v, fun k a b c d => by rw [a_ur_ne (by decide)]; exact h.2.1 k a b c d, by rw [a_ur_ne (by decide)]; exact h.2.2.1, h.2.2.2.1, h.2.2.2.2.1, ⟨fun o u => by rw [a_ur_ne (by omega)]; exact h.2.2.2.2.2.1 o u, h.2.2.2.2.2.2.1, by rw [a_ur_ne (by decide)]; exact h.2.2.2.2.2.2.2.1, fun s hs => by rw [a_ur_ne (by decide), a_ur_ne (by decide), a_ur_ne (by decide)]; exact h.2.2.2.2.2.2.2.2 s hs⟩⟩
theorem cm_cx {m m0 I0 I2 M : aI} {n g : Nat} {P S : Nat → Int64} {J J2 : aJ} (hB : MBk m n) (hL : LEq m I0) (h0 : StEq m m0) (hs : SolR m0 M n P S) (hp : CmR I0 I2 J J2 n g) : CX m M n P S I2 J2 ∧ CmpOK I2 J2 g := by
  obtain ⟨I1, h1, ⟨Q, e⟩, h3⟩ := hp
  refine ⟨?_, h3⟩
  rw [e]; exact (sol_cx hB hL h0 hs h1).m91
/-- rows as a query's ghost has them -/
theorem CX.gs {m M I2 : aI} {n : Nat} {P S : Nat → Int64} {J2 : aJ} {N : Nat → Int32} (h : CX m M n P S I2 J2) : (∀ o, 58 ≤ o → o ≤ 73 → I2 o = a_ur (gst m M) 91 N o) ∧ I2 44 57 = a_ur (gst m M) 91 N 44 57 ∧ ∀ s, s < n → I2 86 s = gst m M 86 s := ⟨fun o u v => by rw [a_ur_ne (by omega), gst_lo (by omega) (by omega)]; exact h.1 o (by omega) (by omega), by rw [a_ur_ne (by decide), gst_57]; exact h.2.2.1, fun s hs => by rw [gst_hi (by decide)]; exact (h.2.2.2.2.2.2.2.2 s hs).2.2⟩
theorem CX.eq91 {m M I2 : aI} {c n g r p k : Nat} {P S : Nat → Int64} {J2 : aJ} {N : Nat → Int32} {mj : aJ} (h : CX m M n P S I2 J2) (hm : MI m c n g r p k) (hj : mj 88 = S) (hN : ∀ x, x < 16 * g → N x = sCmp (a_ur (gst m M) 91 N) mj x) (hc : CmpOK I2 J2 g) : ∀ x, x < 16 * g → I2 91 x = N x := by
  have w := h.gs (N := N)
  have q := cmp_eq (A := a_ur (gst m M) 91 N) (JA := mj) hm.2.1.1.1.1 (SO3_cg (by rw [a_ur_ne (by decide), gst_lo (by decide) (by decide)]) hm.2.1.1.1.so) w.2.1 (h.2.2.2.1.trans hj.symm) w.1 (fun x hx => by rw [a_ur_self]; exact hN x hx) hc
  intro x hx
  rw [q x hx, a_ur_self]
theorem cPv_cr {A B : aI} {JA JB : aJ} {n g : Nat} {w : Int32} (hg : g ≤ 4) (hso : SO3 A) (h57 : B 44 57 = A 44 57) (hJ : JB 88 = JA 88) (h : ∀ o, 58 ≤ o → o ≤ 73 → B o = A o) (h86 : ∀ s, s < n → B 86 s = A 86 s) : cPv B JB n g w = cPv A JA n g w := by
  have e1 : allB (cF B) n = allB (cF A) n := allB_cg (fun s hs => by show decide (B 86 s = 0) = decide (A 86 s = 0); rw [h86 s hs])
  have iN_ : ∀ q, 58 ≤ q → q ≤ 73 → iN B q = iN A q := fun q u v => by unfold iN; rw [h q u v]
  have e2 : ∀ i, cG B JB w i = cG A JA w i := fun i => by
    unfold cG
    rw [iN_ 63 (by decide) (by decide)]
    by_cases z : iN A 63 i = 0
    · rw [if_pos z, if_pos z]
    · rw [if_neg z, if_neg z]
      refine allB_cg (fun a ha => ?_)
      unfold cS
      rw [h 65 (by decide) (by decide), iN_ 65 (by decide) (by decide), iN_ 62 (by decide) (by decide), iN_ 63 (by decide) (by decide), h 58 (by decide) (by decide), sVal_cg h57 hJ]
      have e3 : csK B i (iN A 65 (3 * i + a)) = csK A i (iN A 65 (3 * i + a)) := by
        unfold csK hkB
        rw [h 64 (by decide) (by decide), iN_ 63 (by decide) (by decide)]
      rw [e3]
  show ((decide (B 44 57 = 0) && allB (cF B) n) && allB (cG B JB w) g) = ((decide (A 44 57 = 0) && allB (cF A) n) && allB (cG A JA w) g)
  rw [e1, h57, allB_cg (fun i _ => e2 i)]
theorem upL_cx {A B : aI} {x : Nat} (h91 : B 91 x = A 91 x) (h59 : B 59 = A 59) (h62 : B 62 = A 62) : upL B x = upL A x := by unfold upL iN; rw [h91, h59, h62]
theorem dnL_cx {A B : aI} {x : Nat} (h91 : B 91 x = A 91 x) (h59 : B 59 = A 59) (h62 : B 62 = A 62) : dnL B x = dnL A x := by unfold dnL iN; rw [h91, h59, h62]
theorem aUp_cx {A B : aI} (h59 : B 59 = A 59) (h62 : B 62 = A 62) : ∀ n, (∀ x, x < n → B 91 x = A 91 x) → aUp B n = aUp A n
  | 0, _ => rfl
  | n + 1, h => by rw [aUp, aUp, aUp_cx h59 h62 n (fun x hx => h x (by omega)), upL_cx (h n (by omega)) h59 h62]
theorem aDn_cx {A B : aI} {n : Nat} (h59 : B 59 = A 59) (h62 : B 62 = A 62) (h : ∀ x, x < n → B 91 x = A 91 x) : ∀ j, j ≤ n → aDn B n j = aDn A n j
  | 0, _ => rfl
  | j + 1, hj => by rw [aDn, aDn, aDn_cx h59 h62 h j (by omega), dnL_cx (h (n - 1 - j) (by omega)) h59 h62]
theorem allA_cx {A B : aI} {n : Nat} (h59 : B 59 = A 59) (h62 : B 62 = A 62) (h : ∀ x, x < n → B 91 x = A 91 x) : allA B n = allA A n := by
  show aUp B n ++ aDn B n n = aUp A n ++ aDn A n n
  rw [aUp_cx h59 h62 n h, aDn_cx h59 h62 h n (Nat.le_refl _)]
/-- the model's list is the class's -/
theorem PlR_eq {m I0 I2 : aI} {c n g r p k : Nat} {J J2 : aJ} {A : Option (List Nat)} (hm : MI m c n g r p k) (hL : LEq m I0) (hA : PlQ m n g A) (hp : PlR I0 I2 J J2 n g) : (A = none ∧ cP I2 J2 n g = false) ∨ ∃ l, A = some l ∧ cP I2 J2 n g = true ∧ allA I2 (16 * g) = l := by
  obtain ⟨m0, M, P, S, mj, w, h0, hso, hj, hw, hh⟩ := hA
  obtain ⟨I1, Ic, p1, p2, p3, p4⟩ := hp
  have q := cm_cx hm.1 hL h0 hso ⟨I1, p1, p2, p3⟩
  have hg4 := hm.2.1.1.1.1
  have hsoG : SO3 (gst m M) := SO3_cg (gst_lo (by decide) (by decide)) hm.2.1.1.1.so
  have I2r : ∀ o, o ≠ 44 → o ≠ 92 → I2 o = Ic o := fun o u v => p4.1 o ⟨u, v⟩
  have I24 : ∀ j, j ≠ 59 → I2 44 j = Ic 44 j := fun j hj => p4.2.1 j hj
  have d2 : DQ M I2 n := ⟨fun o u => by rw [I2r o (by omega) (by omega)]; exact q.1.2.2.2.2.2.1 o u, q.1.2.2.2.2.2.2.1, by rw [I24 53 (by decide)]; exact q.1.2.2.2.2.2.2.2.1, fun s hs => by rw [I2r 84 (by decide) (by decide), I2r 85 (by decide) (by decide), I2r 86 (by decide) (by decide)]; exact q.1.2.2.2.2.2.2.2.2 s hs⟩
  have ew : tnt I2 J2 n = w := (tnt_eq (hw.tr d2 (show J2 89 = P from q.1.2.2.2.2.1))).symm
  have gs := q.1.gs (N := fun _ => 0)
  have eP : cP I2 J2 n g = cPv (gst m M) mj n g w := by
    have e1 : cP I2 J2 n g = cPv I2 J2 n g (tnt I2 J2 n) := rfl
    rw [e1, ew]
    refine cPv_cr hg4 hsoG ?_ (q.1.2.2.2.1.trans hj.symm) (fun o u v => ?_) (fun s hs => ?_)
    · rw [I24 57 (by decide), gs.2.1, a_ur_ne (by decide)]
    · rw [I2r o (by omega) (by omega), gs.1 o u v, a_ur_ne (by omega)]
    · rw [I2r 86 (by decide) (by decide)]; exact gs.2.2 s hs
  rcases hh with ⟨z1, z2⟩ | ⟨z1, N, G, hk, z2⟩
  · exact Or.inl ⟨z2, eP.trans z1⟩
  · refine Or.inr ⟨_, z2, eP.trans z1, ?_⟩
    have e91 := q.1.eq91 hm hj (fun x hx => (hk x hx).1) q.2
    exact allA_cx (by rw [I2r 59 (by decide) (by decide), a_ur_ne (by decide), gst_lo (by decide) (by decide)]; exact q.1.1 59 (by decide) (by decide)) (by rw [I2r 62 (by decide) (by decide), a_ur_ne (by decide), gst_lo (by decide) (by decide)]; exact q.1.1 62 (by decide) (by decide)) (fun x hx => by rw [I2r 91 (by decide) (by decide), a_ur_self]; exact e91 x hx)
theorem hA_eq {m I0 I2 : aI} {c n g r p k x : Nat} {J J2 : aJ} {A : Option (List Nat)} (hm : MI m c n g r p k) (hL : LEq m I0) (hAq : PlQ m n g A) (hp : PlR I0 I2 J J2 n g) : hA I2 J2 n g x = hasA m x A := by
  have fr := hp.bf
  have li := hp.list
  have e80 : I2 80 = m 80 := by rw [fr.1 80 (by decide)]; exact hL.r (by decide)
  have e79 : iN I2 79 = iN m 79 := by unfold iN; rw [fr.1 79 (by decide), hL.r (q := 79) (by decide)]
  have e0 : hA I2 J2 n g x = (cP I2 J2 n g && allB (hA1 I2 x (allA I2 (16 * g)).length) (iN I2 79 x)) := rfl
  rcases PlR_eq hm hL hAq hp with ⟨z1, z2⟩ | ⟨l, z1, z2, z3⟩
  · rw [e0, z2, z1]; rfl
  · rw [e0, z2, z1, Bool.true_and, z3, e79]
    show _ = allB (fun i => anyB (fun k => decide (nI (l.getD k 0) = m 80 (128 * x + i))) l.length) (iN m 79 x)
    refine allB_cg (fun i hi => anyB_cg (fun j hj => ?_))
    have lj := li.2 j (by rw [z3]; exact hj)
    rw [lj, e80, show l.getD j 0 = l[j] from by simp [List.getD, hj]]
    simp only [z3]
theorem mi_rw {m I0 I2 : aI} (hL : LEq m I0) (hB : BaseF I0 I2) : LEq m I2 := by
  refine ⟨fun o u v => ?_, fun k z1 z2 z3 z4 => (hB.2 k ⟨z1, z2, z3⟩).trans (hL.2 k z1 z2 z3 z4)⟩
  by_cases zc : o = 44
  · omega
  · rw [hB.1 o (by omega)]; exact hL.1 o u v
