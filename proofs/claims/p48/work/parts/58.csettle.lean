theorem CDr.cgm {I : aI} {R : aR} {m m2 : aI} {n : Nat} {sq : Nat → Nat} (h : CDr I R m n sq) (h45 : m2 45 = m 45) (h84 : m2 84 = m 84) (h85 : m2 85 = m 85) (h86 : m2 86 = m 86) : CDr I R m2 n sq := fun s hs => by rw [h45, h84, h85, h86]; exact h s hs
theorem CSt.cgI {T : List aT} {I I2 : aI} {R : aR} {m : aI} {n : Nat} {sq : Nat → Nat} (h : CSt T I R m n sq) (h1 : I2 1 1 = I 1 1) (h2 : ∀ s, s < n → ∀ k, k < 8 → I2 (sq s) k = I (sq s) k) : CSt T I2 R m n sq := h.cg h1 h2
/-- what settling writes -/
def sx (n : Nat) (sq : Nat → Nat) (a p : Nat) : Prop := a = 7 ∨ a = 11 ∨ (a = 1 ∧ (p = 8 ∨ p = 9)) ∨ (a = 8 ∧ (p = 2 ∨ p = 3 ∨ p = 11 ∨ p = 12)) ∨ ((p = 8 ∨ p = 9 ∨ p = 10) ∧ ∃ s, s < n ∧ a = sq s)
def SFr (I I2 : aI) (J J2 : aJ) (R R2 : aR) (n : Nat) (sq : Nat → Nat) : Prop := (∀ a p, ¬ sx n sq a p → I2 a p = I a p) ∧ (∀ a, a ≠ 10 → a ≠ 13 → a ≠ 15 → J2 a = J a) ∧ ∀ a p, ¬ (p = 11 ∧ ∃ s, s < n ∧ a = sq s) → R2 a p = R a p
theorem SFr.refl {I : aI} {J : aJ} {R : aR} {n : Nat} {sq : Nat → Nat} : SFr I I J J R R n sq := ⟨fun _ _ _ => rfl, fun _ _ _ _ => rfl, fun _ _ _ => rfl⟩
abbrev sVl (c : Int32) (S : Nat → Int64) (f : Nat) : Int32 := if c = 0 then (if sCount (S f) = 1 then nI (sLeast (S f)) else -1) else -2
/-- the answer about conflicts -/
noncomputable def cfA (M : aI) (P : Nat → Int64) (n : Nat) : Int32 := if M 44 57 = 0 then 0 else cfV (a_ur M 93 (mayR M P n)) n
abbrev ZR3 (J : aJ) : Prop := ∀ j, 10 ≤ j → J 10 j = 0 ∧ J 13 j = 0 ∧ J 15 j = 0
/-- the class is settled: what it has found are the answers of a solved model -/
def Sld (I : aI) (J : aJ) (R : aR) (m : aI) (n : Nat) (sq : Nat → Nat) : Prop := ∃ M P S, SolR m M n P S ∧ CDr I R M n sq ∧ CCn I M P n sq ∧ J 10 = P ∧ J 13 = S ∧ I 8 2 = M 44 57 ∧ (∀ f, f < 10 → I 11 f = sVl (I 8 2) S f) ∧ TnL M (fun _ => P) n (I 8 3) ∧ (I 8 12 = 0 ∨ (I 8 12 = 1 ∧ I 8 13 = cfA M P n))
def EX3 (I2 : aI) (M : aI) (P : Nat → Int64) (n : Nat) (sq : Nat → Nat) (k : Nat) (I3 : aI) : Prop := (∀ a p, ¬ (p = 9 ∧ ∃ s, s < n ∧ a = sq s) → I3 a p = I2 a p) ∧ ∀ s, s < k → I3 (sq s) 9 = bI (decide (cOn M P s))
theorem EX3.step {T : List aT} {I0 : aI} {R0 : aR} {m : aI} {I2 M : aI} {P : Nat → Int64} {n k : Nat} {sq : Nat → Nat} {I3 : aI} (hSt : CSt T I0 R0 m n sq) (hk : k < n) (h : EX3 I2 M P n sq k I3) : EX3 I2 M P n sq (k + 1) (a_u I3 (sq k) 9 (bI (decide (cOn M P k)))) := by
  refine ⟨fun a p hn => ?_, fun s hs => ?_⟩
  · rw [a_u_ne (fun q => hn ⟨q.2, k, hk, q.1⟩)]; exact h.1 a p hn
  · by_cases e : s = k
    · rw [e, a_u_self]
    · rw [a_u_row (fun q => e (hSt.inj (by omega) hk q))]; exact h.2 s (by omega)
theorem fill_10 {J : aJ} {a : Nat} (h : ∀ j, 10 ≤ j → J a j = 0) : a_fill J a 10 (fun _ => -1) = a_ur J a full := by
  funext x9 y9
  by_cases h9 : x9 = a
  · rw [h9, a_ur_self]
    by_cases c : y9 < 10
    · rw [a_fill_in c, full, if_pos c]
    · rw [a_fill_out (by omega), full, if_neg c]; exact h y9 (by omega)
  · rw [a_ur_ne h9, a_fill_ne h9]
theorem full_z : ∀ j, 10 ≤ j → full j = 0 := fun j hj => if_neg (by omega)
set_option maxRecDepth 100000 in
theorem m_X10_settle {T : List aT} {I : aI} {J : aJ} {R : aR} (hT : aPT T) (hR : aPR R) {m : aI} {n : Nat} {sq : Nat → Nat} (hSt : CSt T I R m n sq) (hS : SW m n) (hB : CBk I m) (hL : NR m 54 6 4) (hF0 : ∀ s, s < n → 0 ≤ m 49 s → m 51 s = 0) (hZ : ZR3 J) (h11 : I 8 11 = 0 ∨ Sld I J R m n sq) (I811 : I 8 11 = 0 ∨ I 8 11 = 1) : MX10_settle 0 0 [.ref 8] T I J R (aRelT (fun v T2 I2 J2 R2 => v = none ∧ T2 = T ∧ SFr I I2 J J2 R R2 n sq ∧ aPR R2 ∧ ZR3 J2 ∧ Sld I2 J2 R2 m n sq ∧ I2 8 11 = 1)) := by
  refine a_met (by decide +kernel) a_le (fun X hC hq => ?_)
  show AW X 0 0 0 [some (.ref 8), none] [] T I J R
  refine aw_aload_n hC dX10_settle_0 rfl ?_
  refine aw_getI hC dX10_settle_1 aF_X10_44 rfl (tg_8 hT) ?_
  refine aw_if_eq (tgt := 8) hC dX10_settle_4 (by decide) (fun h1 => ?_) (fun h1 => ?_)
  · show AW X 0 0 8 [some (.ref 8), none] [] T I J R
    refine aw_aload_n hC dX10_settle_8 rfl ?_
    refine aw_getR hC dX10_settle_9 aF_X10_40 rfl (tg_8 hT) (pr_8_0 hR) ?_
    refine kX10_48 hC rfl (m_X1_examine (I := I) (J := J) hT hR hSt hS hB hF0) dX10_settle_12 (tg_1 hT) rfl a_le a_le a_le a_le a_le rfl aRelT_x (aRelT_k (fun v9 T9 I9 J9 R9 hp9 hQ => ?_))
    obtain ⟨ev9, eT9, eJ9, w, hlow, hLe, hDg, hEF, hR9⟩ := hQ
    rw [ev9, eT9, eJ9]
    show AW X 0 0 15 [some (.ref 8), none] [] T I9 J R9
    have hM0 := @gm_fr m n w
    have hfI : ∀ a p, a < 44 → a ≠ 7 → a ≠ 1 → I9 a p = I a p := fun a p h1 h2 h3 => hEF.1 a p h2 (fun q => h3 q.1) (fun q => by obtain ⟨t, ht, e⟩ := q.2; have := hSt.ge hT ht; omega)
    have hSt9 : CSt T I9 R9 m n sq := (hSt.cg (hEF.1 1 1 (by decide) (fun q => absurd q.2 (by decide)) (fun q => by obtain ⟨t, ht, e⟩ := q.2; have := hSt.ge hT ht; omega)) (fun s hs p hp => hEF.1 (sq s) p (by have := hSt.ge hT hs; omega) (fun q => by have := hSt.ge hT hs; omega) (fun q => by omega))).cgR (fun s hs => hEF.2 2 s (fun q => by obtain ⟨t, ht, e⟩ := q.2; have := hSt.ge hT ht; omega))
    have hStG : CSt T I9 R9 (a_u (gm m n w) 44 53 0) n sq := hSt9.cgm (fun o h1 h2 => by rw [a_u_row (by omega)]; exact hM0 o (by omega))
    have hDG : CDr I9 R9 (a_u (gm m n w) 44 53 0) n sq := hDg.cgm (a_u_row (by decide)) (a_u_row (by decide)) (a_u_row (by decide)) (a_u_row (by decide))
    have hSG : SW (a_u (gm m n w) 44 53 0) n := SW_cg (a_u_ne (by decide)) (a_u_row (by decide)) (a_u_row (by decide)) (a_u_row (by decide)) (a_u_row (by decide)) (a_u_row (by decide)) (a_u_row (by decide)) (a_u_row (by decide)) (a_u_row (by decide)) (gm_sw hS)
    have hb10 : HSet T R9 9 10 := ⟨tg_9 hT, pr_9_0 hR9, tg_10 hT⟩
    have hb12 : HSet T R9 12 13 := ⟨tg_12 hT, pr_12_0 hR9, tg_13 hT⟩
    have hb15 : HSet T R9 14 15 := ⟨tg_14 hT, pr_14_0 hR9, tg_15 hT⟩
    refine aw_aload_n hC dX10_settle_15 rfl ?_
    refine aw_getR hC dX10_settle_16 aF_X10_12 rfl (tg_8 hT) (pr_8_1 hR9) ?_
    refine kX10_53 hC rfl (m_X7_fill (J := J) hb10) dX10_settle_19 (tg_9 hT) rfl a_le a_le a_le a_le a_le rfl aPure_x (aPure_k ?_)
    show AW X 0 0 22 [some (.ref 8), none] [] T I9 (a_fill J 10 10 (fun _ => -1)) R9
    rw [fill_10 (fun j hj => (hZ j hj).1)]
    refine aw_aload_n hC dX10_settle_22 rfl ?_
    refine aw_aload_n hC dX10_settle_23 rfl ?_
    refine aw_getR hC dX10_settle_24 aF_X10_12 rfl (tg_8 hT) (pr_8_1 hR9) ?_
    refine kX10_56 hC rfl (m_X10_narrowAll (I := I9) (J := a_ur J 10 full) hT hR9 hStG hDG hSG (by rw [a_u_self]) hb10) dX10_settle_27 (tg_8 hT) rfl a_le a_le a_le a_le a_le rfl aRelV_x (aRelV_k (fun v9 I8 J8 hQ => ?_))
    obtain ⟨ev9, e9, P, hF, e8⟩ := hQ
    rw [ev9, e9, e8]
    rw [a_ur_self] at hF
    rw [a_ur_2]
    obtain ⟨M, hMd⟩ : ∃ M, M = a_u (a_u (gm m n w) 44 53 0) 44 57 (bI (anyB (fun j => decide (P j = 0)) 10)) := ⟨_, rfl⟩
    have hMr : ∀ o, o ≠ 44 → M o = a_u (gm m n w) 44 53 0 o := fun o ho => by rw [hMd, a_u_row ho]
    have h53 : M 44 53 = 0 := by rw [hMd, a_u_ne (by decide), a_u_self]
    have h57 : M 44 57 = bI (anyB (fun j => decide (P j = 0)) 10) := by rw [hMd, a_u_self]
    have hP : Fix M n full P := Fix_cg hMr (by rw [hMd, a_u_ne (by decide)]) hF
    have hPz := Fix_z hP full_z
    have hSM : SW M n := SW_cg (by rw [hMd, a_u_ne (by decide)]) (hMr 45 (by decide)) (hMr 46 (by decide)) (hMr 47 (by decide)) (hMr 48 (by decide)) (hMr 49 (by decide)) (hMr 50 (by decide)) (hMr 51 (by decide)) (hMr 53 (by decide)) hSG
    have hStM : CSt T I9 R9 M n sq := hStG.cgm (fun o h1 h2 => hMr o (by omega))
    have hDM : CDr I9 R9 M n sq := hDG.cgm (hMr 45 (by decide)) (hMr 84 (by decide)) (hMr 85 (by decide)) (hMr 86 (by decide))
    have h54 : M 54 = m 54 := by rw [hMr 54 (by decide), a_u_row (by decide)]; exact hM0 54 (by decide)
    have hn9 := hS.n30
    show AW X 0 0 30 [some (.ref 8), none] [] T I9 (a_ur J 10 P) R9
    refine aw_iconst (v := 0) hC dX10_settle_30 (by decide) ?_
    refine aw_istore_n (L2 := [some (.ref 8), some (.int 0)]) hC dX10_settle_31 rfl (by decide) rfl ?_
    have loop1 : ∀ k, k ≤ n → ∀ I10 : aI, EX3 I9 M P n sq k I10 → AW X 0 0 32 [some (.ref 8), some (.int (nI k))] [] T I10 (a_ur J 10 P) R9 := by
      refine a_down n (fun k hk1 ih1 => ?_)
      intro I10 hX
      have hStX : CSt T I10 R9 M n sq := hStM.cg (hX.1 1 1 (fun q => absurd q.1 (by decide))) (fun s hs p hp => hX.1 (sq s) p (fun q => by omega))
      have hDX : CDr I10 R9 M n sq := hDM.cg (fun s hs => ⟨hX.1 (sq s) 8 (fun q => absurd q.1 (by decide)), hX.1 (sq s) 10 (fun q => absurd q.1 (by decide))⟩)
      refine aw_iload_n hC dX10_settle_32 rfl ?_
      refine aw_aload_n hC dX10_settle_33 rfl ?_
      refine aw_getR hC dX10_settle_34 aF_X10_40 rfl (tg_8 hT) (pr_8_0 hR9) ?_
      refine aw_getI hC dX10_settle_37 aF_X10_60 rfl (tg_1 hT) ?_
      rw [hStX.cnt]
      refine aw_icmp_ge (tgt := 77) hC dX10_settle_40 (by decide) (fun h2 => ?_) (fun h2 => ?_)
      · show AW X 0 0 77 [some (.ref 8), some (.int (nI k))] [] T I10 (a_ur J 10 P) R9
        have h2n : n ≤ k := (nI_leI (a := n) (b := k) (by omega) (by omega)).mp h2
        have e9 : k = n := by omega
        rw [e9] at hX
        have hCX : CCn I10 M P n sq := hX.2
        have join110 : ∀ (cf : Int32) (S K : Nat → Int64), cf = M 44 57 → (if anyB (fun j => decide (P j = 0)) 10 = true then S = P else Ch M n P 10 S) → (∀ j, 10 ≤ j → S j = 0) → (∀ j, 10 ≤ j → K j = 0) → AW X 0 0 110 [some (.ref 8), none] [] T (a_u I10 8 2 cf) (a_ur (a_ur (a_ur J 10 P) 13 S) 15 K) R9 := by
          intro cf S K hcf hCh hSz hKz
          refine aw_iconst (v := 0) hC dX10_settle_110 (by decide) ?_
          refine aw_istore_n (L2 := [some (.ref 8), some (.int 0)]) hC dX10_settle_111 rfl (by decide) rfl ?_
          rw [show a_u I10 8 2 cf = a_ur (a_u I10 8 2 cf) 11 (fun j => if j < 0 then sVl cf S j else I10 11 j) from (a_ur_id (fun j => by rw [if_neg (by omega), a_u_row (by decide)])).symm]
          have loop2 : ∀ f, f ≤ 10 → AW X 0 0 112 [some (.ref 8), some (.int (nI f))] [] T (a_ur (a_u I10 8 2 cf) 11 (fun j => if j < f then sVl cf S j else I10 11 j)) (a_ur (a_ur (a_ur J 10 P) 13 S) 15 K) R9 := by
            refine a_down 10 (fun f hf2 ih2 => ?_)
            refine aw_iload_n hC dX10_settle_112 rfl ?_
            refine aw_bipush (v := 10) hC dX10_settle_113 (by decide) ?_
            refine aw_icmp_ge (tgt := 135) hC dX10_settle_115 (by decide) (fun h3 => ?_) (fun h3 => ?_)
            · show AW X 0 0 135 [some (.ref 8), some (.int (nI f))] [] T (a_ur (a_u I10 8 2 cf) 11 (fun j => if j < f then sVl cf S j else I10 11 j)) (a_ur (a_ur (a_ur J 10 P) 13 S) 15 K) R9
              have h3n : 10 ≤ f := (nI_leI (a := 10) (b := f) (by omega) (by omega)).mp h3
              obtain ⟨I11, hI11⟩ : ∃ I11, I11 = a_ur (a_u I10 8 2 cf) 11 (fun j => if j < f then sVl cf S j else I10 11 j) := ⟨_, rfl⟩
              rw [← hI11]
              have hz9 : ∀ s, s < n → 44 ≤ sq s := fun s hs => hSt.ge hT hs
              have hsx : ∀ s p, s < n → I11 (sq s) p = I10 (sq s) p := fun s p hs => by have := hz9 s hs; rw [hI11, a_ur_ne (by omega), a_u_row (by omega)]
              have hStZ : CSt T I11 R9 M n sq := hStX.cg (by rw [hI11, a_ur_ne (by decide), a_u_row (by decide)]) (fun s hs p _ => hsx s p hs)
              have hDZ : CDr I11 R9 M n sq := hDX.cg (fun s hs => ⟨hsx s 8 hs, hsx s 10 hs⟩)
              have hCZ : CCn I11 M ((fun _ => P : aJ) 89) n sq := fun s hs => (hsx s 9 hs).trans (hCX s hs)
              refine aw_aload_n hC dX10_settle_135 rfl ?_
              refine kX10_91 hC rfl (m_X10_findTainted (I := I11) (J := a_ur (a_ur (a_ur J 10 P) 13 S) 15 K) (mj := fun _ => P) hT hR9 hStZ hDZ hSM h53 hCZ) dX10_settle_136 (tg_8 hT) rfl a_le a_le a_le a_le a_le rfl aRelV_x (aRelV_k (fun v9 I8 J8 hQ => ?_))
              obtain ⟨ev9, e9, tv, hTn, e8⟩ := hQ
              rw [ev9, e9, e8]
              show AW X 0 0 139 [some (.ref 8), some (.int (nI f))] [] T (a_u I11 8 3 tv) (a_ur (a_ur (a_ur J 10 P) 13 S) 15 K) R9
              refine aw_aload_n hC dX10_settle_139 rfl ?_
              refine aw_iconst (v := 0) hC dX10_settle_140 (by decide) ?_
              refine aw_putZ hC dX10_settle_141 aF_X10_94 rfl rfl (tg_8 hT) (Or.inl rfl) ?_
              refine aw_aload_n hC dX10_settle_144 rfl ?_
              refine aw_iconst (v := 1) hC dX10_settle_145 (by decide) ?_
              refine aw_putZ hC dX10_settle_146 aF_X10_44 rfl rfl (tg_8 hT) (Or.inr rfl) ?_
              exact aw_return hC hq rfl dX10_settle_149 a_le a_le ⟨_, rfl, rfl, rfl, ⟨fun a p hn => by rw [a_u_ne (fun q => hn (Or.inr (Or.inr (Or.inr (Or.inl (by omega)))))), a_u_ne (fun q => hn (Or.inr (Or.inr (Or.inr (Or.inl (by omega)))))), a_u_ne (fun q => hn (Or.inr (Or.inr (Or.inr (Or.inl (by omega)))))), hI11, a_ur_ne (fun q => hn (Or.inr (Or.inl q))), a_u_ne (fun q => hn (Or.inr (Or.inr (Or.inr (Or.inl (by omega)))))), hX.1 a p (fun q => hn (Or.inr (Or.inr (Or.inr (Or.inr ⟨by omega, q.2⟩))))), hEF.1 a p (fun q => hn (Or.inl q)) (fun q => hn (Or.inr (Or.inr (Or.inl q)))) (fun q => hn (Or.inr (Or.inr (Or.inr (Or.inr ⟨by omega, q.2⟩)))))], fun a h1 h2 h3 => by rw [a_ur_ne h3, a_ur_ne h2, a_ur_ne h1], hEF.2⟩, hR9, fun j hj => by rw [a_ur_ne (by decide), a_ur_ne (by decide), a_ur_self, a_ur_ne (by decide), a_ur_self, a_ur_self]; exact ⟨hPz j hj, hSz j hj, hKz j hj⟩, ⟨M, P, S, ⟨_, gm_lays hLe, hMd, hP, hCh⟩, fun s hs => by rw [a_u_row (by have := hz9 s hs; omega), a_u_row (by have := hz9 s hs; omega), a_u_row (by have := hz9 s hs; omega)]; exact hDZ s hs, fun s hs => by rw [a_u_row (by have := hz9 s hs; omega), a_u_row (by have := hz9 s hs; omega), a_u_row (by have := hz9 s hs; omega)]; exact hCZ s hs, by rw [a_ur_ne (by decide), a_ur_ne (by decide), a_ur_self], by rw [a_ur_ne (by decide), a_ur_self], by rw [a_u_ne (by decide), a_u_ne (by decide), a_u_ne (by decide), hI11, a_ur_ne (by decide), a_u_self]; exact hcf, fun f1 hf1 => by rw [a_u_row (show 11 ≠ 8 by decide), a_u_row (show 11 ≠ 8 by decide), a_u_row (show 11 ≠ 8 by decide), a_u_ne (by decide), a_u_ne (by decide), a_u_ne (by decide), hI11, a_ur_self, a_ur_ne (by decide), a_u_self, if_pos (by omega)], by rw [a_u_ne (by decide), a_u_ne (by decide), a_u_self]; exact hTn, Or.inl (by rw [a_u_ne (by decide), a_u_self])⟩, by rw [a_u_self]⟩
            · show AW X 0 0 118 [some (.ref 8), some (.int (nI f))] [] T (a_ur (a_u I10 8 2 cf) 11 (fun j => if j < f then sVl cf S j else I10 11 j)) (a_ur (a_ur (a_ur J 10 P) 13 S) 15 K) R9
              have h3n : ¬ 10 ≤ f := fun q9 => h3 ((nI_leI (a := 10) (b := f) (by omega) (by omega)).mpr q9)
              refine aw_aload_n hC dX10_settle_118 rfl ?_
              refine aw_getR hC dX10_settle_119 aF_X10_18 rfl (tg_8 hT) (pr_8_4 hR9) ?_
              refine aw_iload_n hC dX10_settle_122 rfl ?_
              refine aw_aload_n hC dX10_settle_123 rfl ?_
              refine aw_iload_n hC dX10_settle_124 rfl ?_
              refine kX10_87 hC rfl (m_X10_findValue (I := a_ur (a_u I10 8 2 cf) 11 (fun j => if j < f then sVl cf S j else I10 11 j)) (J := a_ur (a_ur (a_ur J 10 P) 13 S) 15 K) hT hR9 (f := f) (by omega)) dX10_settle_125 (tg_8 hT) rfl a_le a_le a_le a_le a_le rfl aPure_x (aPure_k ?_)
              show AW X 0 0 128 [some (.ref 8), some (.int (nI f))] [.int (if (a_ur (a_u I10 8 2 cf) 11 (fun j => if j < f then sVl cf S j else I10 11 j)) 8 2 = 0 then (if sCount ((a_ur (a_ur (a_ur J 10 P) 13 S) 15 K) 13 f) = 1 then nI (sLeast ((a_ur (a_ur (a_ur J 10 P) 13 S) 15 K) 13 f)) else -1) else -2), .int (nI f), .ref 11] T (a_ur (a_u I10 8 2 cf) 11 (fun j => if j < f then sVl cf S j else I10 11 j)) (a_ur (a_ur (a_ur J 10 P) 13 S) 15 K) R9
              rw [show (if (a_ur (a_u I10 8 2 cf) 11 (fun j => if j < f then sVl cf S j else I10 11 j)) 8 2 = 0 then (if sCount ((a_ur (a_ur (a_ur J 10 P) 13 S) 15 K) 13 f) = 1 then nI (sLeast ((a_ur (a_ur (a_ur J 10 P) 13 S) 15 K) 13 f)) else -1) else -2) = sVl cf S f from by rw [show (a_ur (a_u I10 8 2 cf) 11 (fun j => if j < f then sVl cf S j else I10 11 j)) 8 2 = cf from by rw [a_ur_ne (by decide), a_u_self], show (a_ur (a_ur (a_ur J 10 P) 13 S) 15 K) 13 = S from by rw [a_ur_ne (by decide), a_ur_self]]]
              refine aw_iastore_k (j := f) hC dX10_settle_128 (tg_11 hT) (nI_clamp (by omega)) (vp_in_nI (by omega) (by decide)) ?_
              refine aw_iinc (v := nI (f + 1)) (L2 := [some (.ref 8), some (.int (nI (f + 1)))]) hC dX10_settle_129 rfl (nI_inc _) (by decide) rfl ?_
              refine aw_goto (tgt := 112) hC dX10_settle_132 (by decide) ?_
              rw [show a_u (a_ur (a_u I10 8 2 cf) 11 (fun j => if j < f then sVl cf S j else I10 11 j)) 11 f (sVl cf S f) = a_ur (a_u I10 8 2 cf) 11 (fun j => if j < (f + 1) then sVl cf S j else I10 11 j) from by rw [a_ur_put]; exact a_ur_ext (fun j => by (try dsimp only); by_cases c : j = f; (rw [c, if_pos rfl, if_pos (by omega)]); (rw [if_neg c]; by_cases c2 : j < f; (rw [if_pos c2, if_pos (by omega)]); (rw [if_neg c2, if_neg (by omega)])))]
              exact ih2 (by omega)
          exact loop2 0 (Nat.zero_le _)
        refine aw_aload_n hC dX10_settle_77 rfl ?_
        refine aw_aload_n hC dX10_settle_78 rfl ?_
        refine aw_getR hC dX10_settle_79 aF_X10_12 rfl (tg_8 hT) (pr_8_1 hR9) ?_
        refine kX10_74 hC rfl (m_X7_hasEmpty (J := a_ur J 10 P) hb10) dX10_settle_82 (tg_9 hT) rfl a_le a_le a_le a_le a_le rfl aPure_x (aPure_k ?_)
        show AW X 0 0 85 [some (.ref 8), some (.int (nI k))] [.int (bI (anyB (fun j => decide ((a_ur J 10 P) 10 j = 0)) 10)), .ref 8] T I10 (a_ur J 10 P) R9
        rw [show (a_ur J 10 P) 10 = P from by rw [a_ur_self]]
        refine aw_putZ hC dX10_settle_85 aF_X10_78 rfl rfl (tg_8 hT) (bI_01 _) ?_
        refine aw_aload_n hC dX10_settle_88 rfl ?_
        refine aw_getR hC dX10_settle_89 aF_X10_22 rfl (tg_8 hT) (pr_8_5 hR9) ?_
        refine aw_aload_n hC dX10_settle_92 rfl ?_
        refine aw_getR hC dX10_settle_93 aF_X10_12 rfl (tg_8 hT) (pr_8_1 hR9) ?_
        refine kX10_81 hC rfl (m_X7_copy (J := a_ur J 10 P) hb12 hb10 (fun j hj => by rw [a_ur_self, a_ur_ne (by decide), (hZ j hj).2.1, hPz j hj])) dX10_settle_96 (tg_12 hT) rfl a_le a_le a_le a_le a_le rfl aPure_x (aPure_k ?_)
        rw [show a_ur (a_ur J 10 P) 13 ((a_ur J 10 P) 10) = a_ur (a_ur J 10 P) 13 P from by rw [show (a_ur J 10 P) 10 = P from by rw [a_ur_self]]]
        show AW X 0 0 99 [some (.ref 8), some (.int (nI k))] [] T (a_u I10 8 2 (bI (anyB (fun j => decide (P j = 0)) 10))) (a_ur (a_ur J 10 P) 13 P) R9
        refine aw_aload_n hC dX10_settle_99 rfl ?_
        refine aw_getI hC dX10_settle_100 aF_X10_78 rfl (tg_8 hT) ?_
        rw [a_u_self (f := I10) (o := 8) (k := 2) (v := bI (anyB (fun j => decide (P j = 0)) 10))]
        refine aw_if_ne (tgt := 110) hC dX10_settle_103 (by decide) (fun h4 => ?_) (fun h4 => ?_)
        · show AW X 0 0 110 [some (.ref 8), some (.int (nI k))] [] T (a_u I10 8 2 (bI (anyB (fun j => decide (P j = 0)) 10))) (a_ur (a_ur J 10 P) 13 P) R9
          refine aw_forget 1 (L2 := [some (.ref 8), none]) rfl ?_
          rw [show a_ur (a_ur J 10 P) 13 P = a_ur (a_ur (a_ur J 10 P) 13 P) 15 (J 15) from (a_ur_id (fun j => by rw [a_ur_ne (by decide), a_ur_ne (by decide)])).symm]
          exact join110 (bI (anyB (fun j => decide (P j = 0)) 10)) P (J 15) h57.symm (by rw [if_pos (bI_n0.mp (by assumption))]) hPz (fun j hj => (hZ j hj).2.2)
        · show AW X 0 0 106 [some (.ref 8), some (.int (nI k))] [] T (a_u I10 8 2 (bI (anyB (fun j => decide (P j = 0)) 10))) (a_ur (a_ur J 10 P) 13 P) R9
          have hne : anyB (fun j => decide (P j = 0)) 10 = false := bI_e0.mp (by assumption)
          have hStY : CSt T (a_u I10 8 2 (bI (anyB (fun j => decide (P j = 0)) 10))) R9 M n sq := hStX.put (tg_8 hT) (by decide) (by decide)
          have hDY : CDr (a_u I10 8 2 (bI (anyB (fun j => decide (P j = 0)) 10))) R9 M n sq := hDX.put hStX (tg_8 hT) (by decide)
          refine aw_aload_n hC dX10_settle_106 rfl ?_
          refine kX10_84 hC rfl (m_X10_takeDefaults (I := a_u I10 8 2 (bI (anyB (fun j => decide (P j = 0)) 10))) (J := a_ur (a_ur J 10 P) 13 P) hT hR9 hStY hDY hSM h53 (by unfold NR iN at *; rw [h54]; exact hL) (fun q hq => by rw [a_u_row (by decide), hX.1 3 q (fun q => by omega), hfI 3 q (by decide) (by decide) (by decide), h54]; exact hB.ly q hq) (fun j hj => by rw [a_ur_self]; exact hPz j hj) (fun j hj => by rw [a_ur_ne (by decide), a_ur_ne (by decide)]; exact (hZ j hj).2.2)) dX10_settle_107 (tg_8 hT) rfl a_le a_le a_le a_le a_le rfl aRelV_x (aRelV_k (fun v9 I8 J8 hQ => ?_))
          obtain ⟨ev9, e9, S, K, hCh, hKz, e8⟩ := hQ
          rw [ev9, e9, e8]
          rw [a_ur_self] at hCh
          rw [show a_ur (a_ur (a_ur (a_ur J 10 P) 13 P) 13 S) 15 K = a_ur (a_ur (a_ur J 10 P) 13 S) 15 K from by rw [a_ur_2]]
          show AW X 0 0 110 [some (.ref 8), some (.int (nI k))] [] T (a_u I10 8 2 (bI (anyB (fun j => decide (P j = 0)) 10))) (a_ur (a_ur (a_ur J 10 P) 13 S) 15 K) R9
          refine aw_forget 1 (L2 := [some (.ref 8), none]) rfl ?_
          exact join110 (bI (anyB (fun j => decide (P j = 0)) 10)) S K h57.symm (by rw [if_neg (by rw [hne]; simp)]; exact hCh) (Ch_z hPz 10 S (Nat.le_refl _) hCh) hKz
      · show AW X 0 0 43 [some (.ref 8), some (.int (nI k))] [] T I10 (a_ur J 10 P) R9
        have h2n : ¬ n ≤ k := fun q9 => h2 ((nI_leI (a := n) (b := k) (by omega) (by omega)).mpr q9)
        refine aw_aload_n hC dX10_settle_43 rfl ?_
        refine aw_getR hC dX10_settle_44 aF_X10_40 rfl (tg_8 hT) (pr_8_0 hR9) ?_
        refine aw_getR hC dX10_settle_47 aF_X10_64 rfl (tg_1 hT) (pr_1_0 hR9) ?_
        refine aw_iload_n hC dX10_settle_50 rfl ?_
        refine aw_aaloadR_k (j := k) hC dX10_settle_51 (tg_2 hT) (nI_clamp (by omega)) (vp_in_nI (by omega) (by decide)) (hStX.rf (by omega)) ?_
        refine aw_aload_n hC dX10_settle_52 rfl ?_
        refine aw_getR hC dX10_settle_53 aF_X10_40 rfl (tg_8 hT) (pr_8_0 hR9) ?_
        refine aw_getR hC dX10_settle_56 aF_X10_64 rfl (tg_1 hT) (pr_1_0 hR9) ?_
        refine aw_iload_n hC dX10_settle_59 rfl ?_
        refine aw_aaloadR_k (j := k) hC dX10_settle_60 (tg_2 hT) (nI_clamp (by omega)) (vp_in_nI (by omega) (by decide)) (hStX.rf (by omega)) ?_
        refine aw_aload_n hC dX10_settle_61 rfl ?_
        refine aw_getR hC dX10_settle_62 aF_X10_12 rfl (tg_8 hT) (pr_8_1 hR9) ?_
        refine kX10_67 hC rfl (m_X10_isCounting (m := M) (I := I10) (J := a_ur J 10 P) hStX hDX hSM h53 hb10 (s := k) (by omega)) dX10_settle_65 rfl a_le a_le a_le a_le a_le rfl aPure_x (aPure_k ?_)
        show AW X 0 0 68 [some (.ref 8), some (.int (nI k))] [.int (bI (decide (cOn M ((a_ur J 10 P) 10) k))), .ref (sq k)] T I10 (a_ur J 10 P) R9
        rw [show (a_ur J 10 P) 10 = P from a_ur_self]
        refine aw_putZ hC dX10_settle_68 aF_X10_71 rfl rfl (hStX.at (by omega)).1 (bI_01 _) ?_
        refine aw_iinc (v := nI (k + 1)) (L2 := [some (.ref 8), some (.int (nI (k + 1)))]) hC dX10_settle_71 rfl (nI_inc _) (by decide) rfl ?_
        refine aw_goto (tgt := 32) hC dX10_settle_74 (by decide) ?_
        exact ih1 (by omega) _ (hX.step hStM (by omega))
    exact loop1 0 (Nat.zero_le _) I9 ⟨fun _ _ _ => rfl, fun s hs => absurd hs (by omega)⟩
  · show AW X 0 0 7 [some (.ref 8), none] [] T I J R
    exact aw_return hC hq rfl dX10_settle_7 a_le a_le ⟨_, rfl, rfl, rfl, SFr.refl, hR, hZ, h11.resolve_left (by assumption), (I811.resolve_left (by assumption))⟩
