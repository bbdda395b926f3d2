theorem LEq.st {m I : aI} (h : LEq m I) : StEq m (a_u I 44 61 0) := ⟨fun o u => by rw [a_u_row (by omega)]; exact h.r (by omega), by rw [a_u_ne (fun z => absurd z.2 (by decide))]; exact h.f (by decide), by rw [a_u_ne (fun z => absurd z.2 (by decide))]; exact h.f (by decide)⟩
abbrev JF (J J2 : aJ) : Prop := ∀ q, q < 44 ∨ 94 ≤ q → J2 q = J q
def ZF (J J2 : aJ) : Prop := Zr J2 ∧ JF J J2
theorem SolP.jf {I I2 : aI} {J J2 : aJ} {n : Nat} (h : SolP I I2 J J2 n) : JF J J2 := by
  obtain ⟨K, P, S, e, _⟩ := h
  intro q hq
  rw [e, a_ur_ne (by omega), a_ur_ne (by omega), a_ur_ne (by omega)]
theorem CmR.jf {I I2 : aI} {J J2 : aJ} {n g : Nat} (h : CmR I I2 J J2 n g) : JF J J2 := by obtain ⟨I1, h1, -⟩ := h; exact h1.jf
theorem PlR.jf {I I2 : aI} {J J2 : aJ} {n g : Nat} (h : PlR I I2 J J2 n g) : JF J J2 := by obtain ⟨I1, Ic, h1, -⟩ := h; exact h1.jf
theorem LEq.bf {m I I3 : aI} (h : LEq m I) (hB : BaseF (a_u I 44 61 0) I3) : LEq m I3 := by
  refine ⟨fun o u v => ?_, fun k z1 z2 z3 z4 => ?_⟩
  · by_cases zc : o = 44
    · omega
    · rw [hB.1 o (by omega), a_u_row zc]; exact h.1 o u v
  · rw [hB.2 k ⟨z1, z2, z3⟩, a_u_ne (fun z => z4 z.2)]; exact h.2 k z1 z2 z3 z4
theorem BaseF.f0 {I I3 : aI} (hB : BaseF (a_u I 44 61 0) I3) : ∀ q, q < 44 ∨ 94 ≤ q → I3 q = I q := fun q hq => by rw [hB.1 q (by omega), a_u_row (by omega)]
theorem DP.q {v b : Int32} {m : aI} {T : List aT} {I I3 : aI} {J J3 : aJ} {R : aR} (hb : b = v) (hL : LEq m I) (hB : BaseF (a_u I 44 61 0) I3) (hJ : JF J J3) (hZ : Zr J3) : DP 0 v m T I J R (.inl (some (.int b))) T I3 J3 R := ⟨rfl, rfl, ⟨b, rfl, fun _ => hb⟩, by rw [hB.2 61 (by decide), a_u_self]; rfl, hL.bf hB, hB.f0, hJ, hZ⟩
theorem sol_eq {m m0 I I2 M : aI} {n : Nat} {P S : Nat → Int64} {J J2 : aJ} (hB : MBk m n) (hL : LEq m I) (h0 : StEq m m0) (hs : SolR m0 M n P S) (hp : SolP (a_u I 44 61 0) I2 J J2 n) : DQ M I2 n ∧ J2 89 = P ∧ J2 88 = S ∧ I2 44 57 = M 44 57 := by
  obtain ⟨K, P2, S2, e, h2⟩ := hp
  have q := SolR_uniq (h0.sw hB.1) (StEq.trans (StEq.sym h0) hL.st) hs h2
  exact ⟨q.1, by rw [e, a_ur_ne (by decide), a_ur_self]; exact q.2.1, by rw [e, a_ur_self]; exact q.2.2.1, q.2.2.2⟩
theorem TnL.tr {M M' : aI} {n : Nat} {mj mj' : aJ} {v : Int32} (h : DQ M M' n) (hj : mj' 89 = mj 89) (a : TnL M mj n v) : TnL M' mj' n v := by
  have e : ∀ (X : aI) (s : Nat) (W : Nat → Prop), tnS X mj' s W = tnS X mj s W := fun X s W => by
    unfold tnS tnW mOpen; rw [hj]
  refine ⟨a.1, fun s hs => ?_, fun W hW => a.2.2 W (fun s hs => ?_)⟩
  · rw [e]; exact h.qtnS hs (a.2.1 s hs)
  · have w := hW s hs
    rw [e] at w
    exact h.sym.qtnS hs w
set_option maxRecDepth 100000 in
theorem m_X12_conflict2 {T : List aT} {I : aI} {J : aJ} {R : aR} (hT : aPT T) (hR : aPR R) {n : Nat} (hS : SW I n) (hZ : Zr J) : MX12_conflict 0 0 [.ref 44] T I J R (aRelV (fun v I3 J3 => ∃ I2 J2, SolP (a_u I 44 61 0) I2 J J2 n ∧ v = some (.int (if I2 44 57 = 0 then 0 else cfV (a_ur I2 93 (mayR I2 (J2 89) n)) n)) ∧ BaseF I2 I3 ∧ ZF J J3) T R) := by
  refine a_met (by decide +kernel) a_le (fun X hC hq => ?_)
  show AW X 0 0 0 [some (.ref 44), none, none] [] T I J R
  refine aw_aload_n hC dX12_conflict_0 rfl ?_
  refine aw_iconst (v := 0) hC dX12_conflict_1 (by decide) ?_
  refine aw_putI hC dX12_conflict_2 aF_X12_166 rfl rfl (tg_44 hT) ?_
  refine aw_aload_n hC dX12_conflict_5 rfl ?_
  refine kX12_276 hC rfl (m_X12_solves (I := a_u I 44 61 0) (J := J) (n := n) hT hR hS.th hZ) dX12_conflict_6 (tg_44 hT) rfl a_le a_le a_le a_le a_le rfl aRel_x (aRel_k (fun I2 J2 hQ => ?_))
  have hSol : SolP _ _ _ _ n := hQ
  have hS2 := hSol.sw hS.th
  have hg2 := hSol.gok hS.th
  have hz2 := hSol.zr
  have hn9 := hS.n30
  show AW X 0 0 9 [some (.ref 44), none, none] [] T I2 J2 R
  refine aw_aload_n hC dX12_conflict_9 rfl ?_
  refine aw_getI hC dX12_conflict_10 aF_X12_267 rfl (tg_44 hT) ?_
  refine aw_if_ne (tgt := 18) hC dX12_conflict_13 (by decide) (fun h1 => ?_) (fun h1 => ?_)
  · show AW X 0 0 18 [some (.ref 44), none, none] [] T I2 J2 R
    refine aw_aload_n hC dX12_conflict_18 rfl ?_
    refine kX12_279 hC rfl (m_X12_plains (I := I2) (J := J2) hT hR) dX12_conflict_19 (tg_44 hT) rfl a_le a_le a_le a_le a_le rfl aPure_x (aPure_k ?_)
    obtain ⟨J3, hJ3⟩ : ∃ J3, J3 = a_fill J2 88 10 (J2 89) := ⟨_, rfl⟩
    rw [← hJ3]
    have hJ88 : J3 88 = J2 89 := by rw [hJ3]; exact fill_89 hz2
    have hz3 : Zr J3 := fun j hj => ⟨by rw [hJ88]; exact (hz2 j hj).2, by rw [hJ3, a_fill_ne (by decide)]; exact (hz2 j hj).2⟩
    show AW X 0 0 22 [some (.ref 44), none, none] [] T I2 J3 R
    refine aw_iconst (v := 0) hC dX12_conflict_22 (by decide) ?_
    refine aw_istore_n (L2 := [some (.ref 44), some (.int 0), none]) hC dX12_conflict_23 rfl (by decide) rfl ?_
    rw [show I2 = a_ur I2 93 (mayR I2 (J2 89) 0) from (a_ur_id (fun j => by simp only [mayR]; rw [if_neg (by omega)])).symm]
    have loop : ∀ k, k ≤ n → AW X 0 0 24 [some (.ref 44), some (.int (nI k)), none] [] T (a_ur I2 93 (mayR I2 (J2 89) k)) J3 R := by
      refine a_down n (fun k hkl ih => ?_)
      refine aw_iload_n hC dX12_conflict_24 rfl ?_
      refine aw_aload_n hC dX12_conflict_25 rfl ?_
      refine aw_getI hC dX12_conflict_26 aF_X12_183 rfl (tg_44 hT) ?_
      rw [a_ur_ne (f := I2) (o := 93) (a := 44) (g := mayR I2 (J2 89) k) (by decide)]
      rw [hS2.cnt]
      refine aw_icmp_ge (tgt := 67) hC dX12_conflict_29 (by decide) (fun h2 => ?_) (fun h2 => ?_)
      · show AW X 0 0 67 [some (.ref 44), some (.int (nI k)), none] [] T (a_ur I2 93 (mayR I2 (J2 89) k)) J3 R
        have h2n : n ≤ k := (nI_leI (a := n) (b := k) (by omega) (by omega)).mp h2
        obtain ⟨I5, hI5⟩ : ∃ I5, I5 = a_ur I2 93 (mayR I2 (J2 89) n) := ⟨_, rfl⟩
        rw [show k = n from by omega, ← hI5]
        have h5 : ∀ o, o ≠ 93 → I5 o = I2 o := fun o ho => by rw [hI5, a_ur_ne ho]
        have hS5 : SW I5 n := SW_cg (by rw [h5 44 (by decide)]) (h5 45 (by decide)) (h5 46 (by decide)) (h5 47 (by decide)) (h5 48 (by decide)) (h5 49 (by decide)) (h5 50 (by decide)) (h5 51 (by decide)) (h5 53 (by decide)) hS2
        have hg5 : GOK I5 n := fun s hs => by rw [h5 85 (by decide), h5 46 (by decide)]; exact hg2 s hs
        have hc0 := CI.refl (I := I5) hz3
        refine aw_iconst (v := 0) hC dX12_conflict_67 (by decide) ?_
        refine aw_istore_n (L2 := [some (.ref 44), some (.int 0), none]) hC dX12_conflict_68 rfl (by decide) rfl ?_
        refine aw_iconst (v := 1) hC dX12_conflict_69 (by decide) ?_
        refine aw_istore_n (L2 := [some (.ref 44), some (.int 0), some (.int 1)]) hC dX12_conflict_70 rfl (by decide) rfl ?_
        refine aw_iload_n hC dX12_conflict_71 rfl ?_
        refine aw_iconst (v := 4) hC dX12_conflict_72 (by decide) ?_
        refine aw_icmp_ge (tgt := 92) hC dX12_conflict_73 (by decide) (fun h3 => absurd h3 (by decide)) (fun _ => ?_)
        show AW X 0 0 76 [some (.ref 44), some (.int 0), some (.int 1)] [] T I5 J3 R
        refine aw_iload_n hC dX12_conflict_76 rfl ?_
        refine aw_if_ne (tgt := 92) hC dX12_conflict_77 (by decide) (fun h4 => absurd h4 (by decide)) (fun _ => ?_)
        show AW X 0 0 80 [some (.ref 44), some (.int 0), some (.int 1)] [] T I5 J3 R
        refine aw_aload_n hC dX12_conflict_80 rfl ?_
        refine aw_iload_n hC dX12_conflict_81 rfl ?_
        refine kX12_295 hC rfl (m_X12_leastConflict1 (I := I5) (J := J3) (n := n) hT hR (hc0.sw hS5) (hc0.zr hz3) (hc0.gok hg5)) dX12_conflict_82 (tg_44 hT) rfl a_le a_le a_le a_le a_le rfl aRelV_x (aRelV_k (fun v9 I41 J41 hQ => ?_))
        obtain ⟨rfl, hd9⟩ := hQ
        have hc41 : CI I5 J3 I41 J41 := hc0.trans hd9
        show AW X 0 0 85 [some (.ref 44), some (.int 0), some (.int 1)] [.int (lc1 I5 n)] T I41 J41 R
        refine aw_istore_n (L2 := [some (.ref 44), some (.int (lc1 I5 n)), some (.int 1)]) hC dX12_conflict_85 rfl (by decide) rfl ?_
        refine aw_iinc (v := 2) (L2 := [some (.ref 44), some (.int (lc1 I5 n)), some (.int 2)]) hC dX12_conflict_86 rfl (by decide) (by decide) rfl ?_
        refine aw_goto (tgt := 71) hC dX12_conflict_89 (by decide) ?_
        refine aw_iload_n hC dX12_conflict_71 rfl ?_
        refine aw_iconst (v := 4) hC dX12_conflict_72 (by decide) ?_
        refine aw_icmp_ge (tgt := 92) hC dX12_conflict_73 (by decide) (fun h5 => absurd h5 (by decide)) (fun _ => ?_)
        show AW X 0 0 76 [some (.ref 44), some (.int (lc1 I5 n)), some (.int 2)] [] T I41 J41 R
        refine aw_iload_n hC dX12_conflict_76 rfl ?_
        refine aw_if_ne (tgt := 92) hC dX12_conflict_77 (by decide) (fun h6 => ?_) (fun h6 => ?_)
        · show AW X 0 0 92 [some (.ref 44), some (.int (lc1 I5 n)), some (.int 2)] [] T I41 J41 R
          refine aw_iload_n hC dX12_conflict_92 rfl ?_
          refine aw_if_ne (tgt := 100) hC dX12_conflict_93 (by decide) (fun h7 => ?_) (fun h7 => ?_)
          · show AW X 0 0 100 [some (.ref 44), some (.int (lc1 I5 n)), some (.int 2)] [] T I41 J41 R
            refine aw_iload_n hC dX12_conflict_100 rfl ?_
            exact aw_ireturn hC hq rfl dX12_conflict_101 a_le a_le ⟨_, rfl, rfl, rfl, I2, J2, hSol, by rw [if_neg (by assumption), cfV, ← hI5]; (try simp only [Classical.not_not] at *); simp_all, ⟨fun o ho => by rw [hc41.1 o ⟨ho.1, ho.2.2.2.2.2.1⟩, h5 o ho.2.2.2.2.2.2.2.2], fun k9 hk => by rw [hc41.2.1 k9 hk.1, h5 44 (by decide)]⟩, ⟨hc41.zr hz3, fun q hq => (hc41.2.2.1 q (by omega)).trans ((show J3 q = J2 q from by rw [hJ3, a_fill_ne (by omega)]).trans (hSol.jf q hq))⟩⟩
          · show AW X 0 0 96 [some (.ref 44), some (.int (lc1 I5 n)), some (.int 2)] [] T I41 J41 R
            refine aw_iconst (v := (-1)) hC dX12_conflict_96 (by decide) ?_
            refine aw_goto (tgt := 101) hC dX12_conflict_97 (by decide) ?_
            exact aw_ireturn hC hq rfl dX12_conflict_101 a_le a_le ⟨_, rfl, rfl, rfl, I2, J2, hSol, by rw [if_neg (by assumption), cfV, ← hI5]; (try simp only [Classical.not_not] at *); simp_all, ⟨fun o ho => by rw [hc41.1 o ⟨ho.1, ho.2.2.2.2.2.1⟩, h5 o ho.2.2.2.2.2.2.2.2], fun k9 hk => by rw [hc41.2.1 k9 hk.1, h5 44 (by decide)]⟩, ⟨hc41.zr hz3, fun q hq => (hc41.2.2.1 q (by omega)).trans ((show J3 q = J2 q from by rw [hJ3, a_fill_ne (by omega)]).trans (hSol.jf q hq))⟩⟩
        · show AW X 0 0 80 [some (.ref 44), some (.int (lc1 I5 n)), some (.int 2)] [] T I41 J41 R
          refine aw_aload_n hC dX12_conflict_80 rfl ?_
          refine aw_iload_n hC dX12_conflict_81 rfl ?_
          refine kX12_295 hC rfl (m_X12_leastConflict2 (I := I41) (J := J41) (n := n) hT hR (hc41.sw hS5) (hc41.zr hz3) (hc41.gok hg5)) dX12_conflict_82 (tg_44 hT) rfl a_le a_le a_le a_le a_le rfl aRelV_x (aRelV_k (fun v9 I42 J42 hQ => ?_))
          obtain ⟨rfl, hd9⟩ := hQ
          rw [hc41.l2]
          have hc42 : CI I5 J3 I42 J42 := hc41.trans hd9
          show AW X 0 0 85 [some (.ref 44), some (.int (lc1 I5 n)), some (.int 2)] [.int (lc2 I5 n)] T I42 J42 R
          refine aw_istore_n (L2 := [some (.ref 44), some (.int (lc2 I5 n)), some (.int 2)]) hC dX12_conflict_85 rfl (by decide) rfl ?_
          refine aw_iinc (v := 3) (L2 := [some (.ref 44), some (.int (lc2 I5 n)), some (.int 3)]) hC dX12_conflict_86 rfl (by decide) (by decide) rfl ?_
          refine aw_goto (tgt := 71) hC dX12_conflict_89 (by decide) ?_
          refine aw_iload_n hC dX12_conflict_71 rfl ?_
          refine aw_iconst (v := 4) hC dX12_conflict_72 (by decide) ?_
          refine aw_icmp_ge (tgt := 92) hC dX12_conflict_73 (by decide) (fun h8 => absurd h8 (by decide)) (fun _ => ?_)
          show AW X 0 0 76 [some (.ref 44), some (.int (lc2 I5 n)), some (.int 3)] [] T I42 J42 R
          refine aw_iload_n hC dX12_conflict_76 rfl ?_
          refine aw_if_ne (tgt := 92) hC dX12_conflict_77 (by decide) (fun h9 => ?_) (fun h9 => ?_)
          · show AW X 0 0 92 [some (.ref 44), some (.int (lc2 I5 n)), some (.int 3)] [] T I42 J42 R
            refine aw_iload_n hC dX12_conflict_92 rfl ?_
            refine aw_if_ne (tgt := 100) hC dX12_conflict_93 (by decide) (fun h10 => ?_) (fun h10 => ?_)
            · show AW X 0 0 100 [some (.ref 44), some (.int (lc2 I5 n)), some (.int 3)] [] T I42 J42 R
              refine aw_iload_n hC dX12_conflict_100 rfl ?_
              exact aw_ireturn hC hq rfl dX12_conflict_101 a_le a_le ⟨_, rfl, rfl, rfl, I2, J2, hSol, by rw [if_neg (by assumption), cfV, ← hI5]; (try simp only [Classical.not_not] at *); simp_all, ⟨fun o ho => by rw [hc42.1 o ⟨ho.1, ho.2.2.2.2.2.1⟩, h5 o ho.2.2.2.2.2.2.2.2], fun k9 hk => by rw [hc42.2.1 k9 hk.1, h5 44 (by decide)]⟩, ⟨hc42.zr hz3, fun q hq => (hc42.2.2.1 q (by omega)).trans ((show J3 q = J2 q from by rw [hJ3, a_fill_ne (by omega)]).trans (hSol.jf q hq))⟩⟩
            · show AW X 0 0 96 [some (.ref 44), some (.int (lc2 I5 n)), some (.int 3)] [] T I42 J42 R
              refine aw_iconst (v := (-1)) hC dX12_conflict_96 (by decide) ?_
              refine aw_goto (tgt := 101) hC dX12_conflict_97 (by decide) ?_
              exact aw_ireturn hC hq rfl dX12_conflict_101 a_le a_le ⟨_, rfl, rfl, rfl, I2, J2, hSol, by rw [if_neg (by assumption), cfV, ← hI5]; (try simp only [Classical.not_not] at *); simp_all, ⟨fun o ho => by rw [hc42.1 o ⟨ho.1, ho.2.2.2.2.2.1⟩, h5 o ho.2.2.2.2.2.2.2.2], fun k9 hk => by rw [hc42.2.1 k9 hk.1, h5 44 (by decide)]⟩, ⟨hc42.zr hz3, fun q hq => (hc42.2.2.1 q (by omega)).trans ((show J3 q = J2 q from by rw [hJ3, a_fill_ne (by omega)]).trans (hSol.jf q hq))⟩⟩
          · show AW X 0 0 80 [some (.ref 44), some (.int (lc2 I5 n)), some (.int 3)] [] T I42 J42 R
            refine aw_aload_n hC dX12_conflict_80 rfl ?_
            refine aw_iload_n hC dX12_conflict_81 rfl ?_
            refine kX12_295 hC rfl (m_X12_leastConflict3 (I := I42) (J := J42) (n := n) hT hR (hc42.sw hS5) (hc42.zr hz3) (hc42.gok hg5)) dX12_conflict_82 (tg_44 hT) rfl a_le a_le a_le a_le a_le rfl aRelV_x (aRelV_k (fun v9 I43 J43 hQ => ?_))
            obtain ⟨rfl, hd9⟩ := hQ
            rw [hc42.l3]
            have hc43 : CI I5 J3 I43 J43 := hc42.trans hd9
            show AW X 0 0 85 [some (.ref 44), some (.int (lc2 I5 n)), some (.int 3)] [.int (lc3 I5 n)] T I43 J43 R
            refine aw_istore_n (L2 := [some (.ref 44), some (.int (lc3 I5 n)), some (.int 3)]) hC dX12_conflict_85 rfl (by decide) rfl ?_
            refine aw_iinc (v := 4) (L2 := [some (.ref 44), some (.int (lc3 I5 n)), some (.int 4)]) hC dX12_conflict_86 rfl (by decide) (by decide) rfl ?_
            refine aw_goto (tgt := 71) hC dX12_conflict_89 (by decide) ?_
            refine aw_iload_n hC dX12_conflict_71 rfl ?_
            refine aw_iconst (v := 4) hC dX12_conflict_72 (by decide) ?_
            refine aw_icmp_ge (tgt := 92) hC dX12_conflict_73 (by decide) (fun _ => ?_) (fun h11 => absurd h11 (by decide))
            show AW X 0 0 92 [some (.ref 44), some (.int (lc3 I5 n)), some (.int 4)] [] T I43 J43 R
            refine aw_iload_n hC dX12_conflict_92 rfl ?_
            refine aw_if_ne (tgt := 100) hC dX12_conflict_93 (by decide) (fun h12 => ?_) (fun h12 => ?_)
            · show AW X 0 0 100 [some (.ref 44), some (.int (lc3 I5 n)), some (.int 4)] [] T I43 J43 R
              refine aw_iload_n hC dX12_conflict_100 rfl ?_
              exact aw_ireturn hC hq rfl dX12_conflict_101 a_le a_le ⟨_, rfl, rfl, rfl, I2, J2, hSol, by rw [if_neg (by assumption), cfV, ← hI5]; (try simp only [Classical.not_not] at *); simp_all, ⟨fun o ho => by rw [hc43.1 o ⟨ho.1, ho.2.2.2.2.2.1⟩, h5 o ho.2.2.2.2.2.2.2.2], fun k9 hk => by rw [hc43.2.1 k9 hk.1, h5 44 (by decide)]⟩, ⟨hc43.zr hz3, fun q hq => (hc43.2.2.1 q (by omega)).trans ((show J3 q = J2 q from by rw [hJ3, a_fill_ne (by omega)]).trans (hSol.jf q hq))⟩⟩
            · show AW X 0 0 96 [some (.ref 44), some (.int (lc3 I5 n)), some (.int 4)] [] T I43 J43 R
              refine aw_iconst (v := (-1)) hC dX12_conflict_96 (by decide) ?_
              refine aw_goto (tgt := 101) hC dX12_conflict_97 (by decide) ?_
              exact aw_ireturn hC hq rfl dX12_conflict_101 a_le a_le ⟨_, rfl, rfl, rfl, I2, J2, hSol, by rw [if_neg (by assumption), cfV, ← hI5]; (try simp only [Classical.not_not] at *); simp_all, ⟨fun o ho => by rw [hc43.1 o ⟨ho.1, ho.2.2.2.2.2.1⟩, h5 o ho.2.2.2.2.2.2.2.2], fun k9 hk => by rw [hc43.2.1 k9 hk.1, h5 44 (by decide)]⟩, ⟨hc43.zr hz3, fun q hq => (hc43.2.2.1 q (by omega)).trans ((show J3 q = J2 q from by rw [hJ3, a_fill_ne (by omega)]).trans (hSol.jf q hq))⟩⟩
      · show AW X 0 0 32 [some (.ref 44), some (.int (nI k)), none] [] T (a_ur I2 93 (mayR I2 (J2 89) k)) J3 R
        have h2n : ¬ n ≤ k := fun q9 => h2 ((nI_leI (a := n) (b := k) (by omega) (by omega)).mpr q9)
        refine aw_aload_n hC dX12_conflict_32 rfl ?_
        refine aw_getR hC dX12_conflict_33 aF_X12_163 rfl (tg_44 hT) (pr_44_62 hR) ?_
        refine aw_iload_n hC dX12_conflict_36 rfl ?_
        refine aw_aload_n hC dX12_conflict_37 rfl ?_
        refine aw_getR hC dX12_conflict_38 aF_X12_7 rfl (tg_44 hT) (pr_44_1 hR) ?_
        refine aw_iload_n hC dX12_conflict_41 rfl ?_
        refine aw_iaload_k (j := k) hC dX12_conflict_42 (tg_45 hT) (nI_clamp (by omega)) (vp_in_nI (by omega) (by decide)) ?_
        rw [a_ur_ne (f := I2) (o := 93) (a := 45) (g := mayR I2 (J2 89) k) (by decide)]
        have hb13 := hS2.kd k (by omega)
        rw [hb13.1]
        refine aw_iconst (v := 4) hC dX12_conflict_43 (by decide) ?_
        refine aw_icmp_eq (tgt := 59) hC dX12_conflict_44 (by decide) (fun h14 => ?_) (fun h14 => ?_)
        · show AW X 0 0 59 [some (.ref 44), some (.int (nI k)), none] [.int (nI k), .ref 93] T (a_ur I2 93 (mayR I2 (J2 89) k)) J3 R
          have h14n : (iN I2 45 k) = 4 := (nI_eq (a := (iN I2 45 k)) (b := 4) (by omega) (by omega)).mp h14
          refine aw_iconst (v := 0) hC dX12_conflict_59 (by decide) ?_
          refine aw_bastore_k (j := k) hC dX12_conflict_60 (tg_93 hT) (nI_clamp (by omega)) (vp_in_nI (by omega) (by decide)) (Or.inl rfl) ?_
          refine aw_iinc (v := nI (k + 1)) (L2 := [some (.ref 44), some (.int (nI (k + 1))), none]) hC dX12_conflict_61 rfl (nI_inc _) (by decide) rfl ?_
          refine aw_goto (tgt := 24) hC dX12_conflict_64 (by decide) ?_
          rw [show a_u (a_ur I2 93 (mayR I2 (J2 89) k)) 93 k 0 = a_ur I2 93 (mayR I2 (J2 89) (k + 1)) from by rw [a_ur_put]; exact a_ur_ext (may_put (by first | exact may_0 (Or.inl ((hS2.kq (by omega) (b := 4) (by omega)).mpr (by omega))) | exact may_0 (Or.inr (bI_d0.mp (by assumption))) | exact may_1 (fun q => absurd ((hS2.kq (by omega) (b := 4) (by omega)).mp q) (by omega)) (bI_dn.mp (by assumption))))]
          exact ih (by omega)
        · show AW X 0 0 47 [some (.ref 44), some (.int (nI k)), none] [.int (nI k), .ref 93] T (a_ur I2 93 (mayR I2 (J2 89) k)) J3 R
          have h14n : ¬ (iN I2 45 k) = 4 := fun q9 => h14 ((nI_eq (a := (iN I2 45 k)) (b := 4) (by omega) (by omega)).mpr q9)
          refine aw_aload_n hC dX12_conflict_47 rfl ?_
          refine aw_iload_n hC dX12_conflict_48 rfl ?_
          refine kX12_250 hC rfl (m_X12_countsU (I := a_ur I2 93 (mayR I2 (J2 89) k)) (J := J3) hT hR (n := n) (s := k) (by omega) hS.n30 (fun s hs => by rw [a_ur_ne (by decide), a_ur_ne (by decide)]; exact hg2 s hs) ⟨Or.inl (by rw [a_ur_ne (by decide)]; exact hSol.z53), fun q => absurd q (by rw [a_ur_ne (by decide), hSol.z53]; decide)⟩) dX12_conflict_49 (tg_44 hT) rfl a_le a_le a_le a_le a_le rfl aPure_x (aPure_k ?_)
          show AW X 0 0 52 [some (.ref 44), some (.int (nI k)), none] [.int (bI (decide (cOn (a_ur I2 93 (mayR I2 (J2 89) k)) (J3 88) k))), .int (nI k), .ref 93] T (a_ur I2 93 (mayR I2 (J2 89) k)) J3 R
          rw [bI_cg (p := cOn (a_ur I2 93 (mayR I2 (J2 89) k)) (J3 88) k) (q := cOn I2 (J2 89) k) (cOn_93 hJ88)]
          refine aw_if_eq (tgt := 59) hC dX12_conflict_52 (by decide) (fun h15 => ?_) (fun h15 => ?_)
          · show AW X 0 0 59 [some (.ref 44), some (.int (nI k)), none] [.int (nI k), .ref 93] T (a_ur I2 93 (mayR I2 (J2 89) k)) J3 R
            refine aw_iconst (v := 0) hC dX12_conflict_59 (by decide) ?_
            refine aw_bastore_k (j := k) hC dX12_conflict_60 (tg_93 hT) (nI_clamp (by omega)) (vp_in_nI (by omega) (by decide)) (Or.inl rfl) ?_
            refine aw_iinc (v := nI (k + 1)) (L2 := [some (.ref 44), some (.int (nI (k + 1))), none]) hC dX12_conflict_61 rfl (nI_inc _) (by decide) rfl ?_
            refine aw_goto (tgt := 24) hC dX12_conflict_64 (by decide) ?_
            rw [show a_u (a_ur I2 93 (mayR I2 (J2 89) k)) 93 k 0 = a_ur I2 93 (mayR I2 (J2 89) (k + 1)) from by rw [a_ur_put]; exact a_ur_ext (may_put (by first | exact may_0 (Or.inl ((hS2.kq (by omega) (b := 4) (by omega)).mpr (by omega))) | exact may_0 (Or.inr (bI_d0.mp (by assumption))) | exact may_1 (fun q => absurd ((hS2.kq (by omega) (b := 4) (by omega)).mp q) (by omega)) (bI_dn.mp (by assumption))))]
            exact ih (by omega)
          · show AW X 0 0 55 [some (.ref 44), some (.int (nI k)), none] [.int (nI k), .ref 93] T (a_ur I2 93 (mayR I2 (J2 89) k)) J3 R
            refine aw_iconst (v := 1) hC dX12_conflict_55 (by decide) ?_
            refine aw_goto (tgt := 60) hC dX12_conflict_56 (by decide) ?_
            refine aw_bastore_k (j := k) hC dX12_conflict_60 (tg_93 hT) (nI_clamp (by omega)) (vp_in_nI (by omega) (by decide)) (Or.inr rfl) ?_
            refine aw_iinc (v := nI (k + 1)) (L2 := [some (.ref 44), some (.int (nI (k + 1))), none]) hC dX12_conflict_61 rfl (nI_inc _) (by decide) rfl ?_
            refine aw_goto (tgt := 24) hC dX12_conflict_64 (by decide) ?_
            rw [show a_u (a_ur I2 93 (mayR I2 (J2 89) k)) 93 k 1 = a_ur I2 93 (mayR I2 (J2 89) (k + 1)) from by rw [a_ur_put]; exact a_ur_ext (may_put (by first | exact may_0 (Or.inl ((hS2.kq (by omega) (b := 4) (by omega)).mpr (by omega))) | exact may_0 (Or.inr (bI_d0.mp (by assumption))) | exact may_1 (fun q => absurd ((hS2.kq (by omega) (b := 4) (by omega)).mp q) (by omega)) (bI_dn.mp (by assumption))))]
            exact ih (by omega)
    exact loop 0 (Nat.zero_le _)
  · show AW X 0 0 16 [some (.ref 44), none, none] [] T I2 J2 R
    refine aw_iconst (v := 0) hC dX12_conflict_16 (by decide) ?_
    exact aw_ireturn hC hq rfl dX12_conflict_17 a_le a_le ⟨_, rfl, rfl, rfl, I2, J2, hSol, by rw [if_pos (by assumption)], BaseF.refl _, ⟨hz2, hSol.jf⟩⟩
set_option maxRecDepth 100000 in
theorem m_X12_readT2 {T : List aT} {I : aI} {J : aJ} {R : aR} (hT : aPT T) (hR : aPR R) {n g : Nat} (hS : SW I n) (hZ : Zr J) (hg : GW I g) (hE : NR I 69 64 61) (hun : I 44 45 < 0) (c : Int32) (mj : aJ) (hsol : SolD I n c mj) : MX12_read 0 0 [.ref 44] T I J R (aRelV (fun v I3 J3 => v = some (.int (nI (100 * (rdN (a_u I 44 61 0) c mj g (16 * g)).2.1 + (rdN (a_u I 44 61 0) c mj g (16 * g)).2.2))) ∧ BaseF (rdS (a_u I 44 61 0) c mj g) I3 ∧ ZF J J3) T R) := by
  refine a_met (by decide +kernel) a_le (fun X hC hq => ?_)
  show AW X 0 0 0 [some (.ref 44), none, none, none, none, none] [] T I J R
  refine aw_aload_n hC dX12_read_0 rfl ?_
  refine aw_aload_n hC dX12_read_1 rfl ?_
  refine aw_getI hC dX12_read_2 aF_X12_123 rfl (tg_44 hT) ?_
  refine aw_if_lt (tgt := 12) hC dX12_read_5 (by decide) (fun h1 => ?_) (fun h1 => ?_)
  · show AW X 0 0 12 [some (.ref 44), none, none, none, none, none] [.ref 44] T I J R
    refine aw_iconst (v := 0) hC dX12_read_12 (by decide) ?_
    refine aw_putI hC dX12_read_13 aF_X12_166 rfl rfl (tg_44 hT) ?_
    refine aw_aload_n hC dX12_read_16 rfl ?_
    refine aw_getI hC dX12_read_17 aF_X12_166 rfl (tg_44 hT) ?_
    rw [a_u_self (f := I) (o := 44) (k := 61) (v := 0)]
    refine aw_if_le (tgt := 25) hC dX12_read_20 (by decide) (fun _ => ?_) (fun h2 => absurd h2 (by decide))
    show AW X 0 0 25 [some (.ref 44), none, none, none, none, none] [] T (a_u I 44 61 0) J R
    refine aw_iconst (v := 0) hC dX12_read_25 (by decide) ?_
    refine aw_istore_n (L2 := [some (.ref 44), some (.int 0), none, none, none, none]) hC dX12_read_26 rfl (by decide) rfl ?_
    refine aw_iconst (v := 0) hC dX12_read_27 (by decide) ?_
    refine aw_istore_n (L2 := [some (.ref 44), some (.int 0), some (.int 0), none, none, none]) hC dX12_read_28 rfl (by decide) rfl ?_
    refine aw_iconst (v := 0) hC dX12_read_29 (by decide) ?_
    refine aw_istore_n (L2 := [some (.ref 44), some (.int 0), some (.int 0), some (.int 0), none, none]) hC dX12_read_30 rfl (by decide) rfl ?_
    obtain ⟨A, hA⟩ : ∃ A, A = a_u I 44 61 0 := ⟨_, rfl⟩
    rw [← hA]
    have hg4 := hg.g4
    have hgA : GW A g := by rw [hA]; exact hg.th
    have hSA : SW A n := by rw [hA]; exact hS.th
    have hEA : NR A 69 64 61 := by rw [hA]; exact hE.ne (by decide)
    have hstA : ∀ k, StEq I (rdN A c mj g k).1 := fun k => ⟨fun o ho => by rw [rdN_fr (by omega), hA, a_u_row (by omega)], by rw [rdN_fr (by decide), hA, a_u_ne (fun q => absurd q.2 (by decide))], by rw [rdN_fr (by decide), hA, a_u_ne (fun q => absurd q.2 (by decide))]⟩
    have loop : ∀ k, k ≤ 16 * g → ∀ (I1 : aI) (J1 : aJ), BaseF (rdN A c mj g k).1 I1 → ZF J J1 → AW X 0 0 31 [some (.ref 44), some (.int (nI (rdN A c mj g k).2.1)), some (.int (nI (rdN A c mj g k).2.2)), some (.int (nI k)), none, none] [] T I1 J1 R := by
      refine a_down (16 * g) (fun k hkl ih => ?_)
      intro I1 J1 hb hz1
      obtain ⟨B, hB⟩ : ∃ B, B = (rdN A c mj g k).1 := ⟨_, rfl⟩
      rw [← hB] at hb
      have hcc := rdN_c A c mj g k
      have hgB : GW B g := GW_cg (by rw [hB, rdN_fr (by decide)]) (by rw [hB, rdN_fr (by decide)]) (by rw [hB, rdN_fr (by decide)]) (by rw [hB, rdN_fr (by decide)]) (by rw [hB, rdN_fr (by decide)]) (by rw [hB, rdN_fr (by decide)]) hgA
      have hg1 := hb.gw hgB
      have hEB : NR B 69 64 61 := by rw [hB]; exact rdN_E hEA k
      refine aw_iload_n hC dX12_read_31 rfl ?_
      refine aw_bipush (v := 16) hC dX12_read_32 (by decide) ?_
      refine aw_aload_n hC dX12_read_34 rfl ?_
      refine aw_getI hC dX12_read_35 aF_X12_312 rfl (tg_44 hT) ?_
      rw [hg1.gn]
      refine aw_imul hC dX12_read_38 ?_
      rw [show 16 * (nI g) = nI (16 * g) from pk_mul 16 g]
      refine aw_icmp_ge (tgt := 174) hC dX12_read_39 (by decide) (fun h3 => ?_) (fun h3 => ?_)
      · show AW X 0 0 174 [some (.ref 44), some (.int (nI (rdN A c mj g k).2.1)), some (.int (nI (rdN A c mj g k).2.2)), some (.int (nI k)), none, none] [] T I1 J1 R
        have h3n : (16 * g) ≤ k := (nI_leI (a := (16 * g)) (b := k) (by omega) (by omega)).mp h3
        refine aw_aload_n hC dX12_read_174 rfl ?_
        refine aw_dup hC dX12_read_175 rfl ?_
        refine aw_getI hC dX12_read_176 aF_X12_343 rfl (tg_44 hT) ?_
        refine aw_iload_n hC dX12_read_179 rfl ?_
        refine aw_iload_n hC dX12_read_180 rfl ?_
        refine aw_iadd hC dX12_read_181 ?_
        rw [show (nI (rdN A c mj g k).2.1) + (nI (rdN A c mj g k).2.2) = nI (((rdN A c mj g k).2.1) + ((rdN A c mj g k).2.2)) from nI_add ((rdN A c mj g k).2.1) ((rdN A c mj g k).2.2)]
        refine aw_if_le (tgt := 189) hC dX12_read_182 (by decide) (fun h4 => ?_) (fun h4 => ?_)
        · show AW X 0 0 189 [some (.ref 44), some (.int (nI (rdN A c mj g k).2.1)), some (.int (nI (rdN A c mj g k).2.2)), some (.int (nI k)), none, none] [.int (I1 44 35), .ref 44] T I1 J1 R
          have h4n : (((rdN A c mj g k).2.1) + ((rdN A c mj g k).2.2)) ≤ 0 := (nI_leI (a := (((rdN A c mj g k).2.1) + ((rdN A c mj g k).2.2))) (b := 0) (by omega) (by omega)).mp h4
          refine aw_iconst (v := 0) hC dX12_read_189 (by decide) ?_
          refine aw_iadd hC dX12_read_190 ?_
          refine aw_putI hC dX12_read_191 aF_X12_343 rfl rfl (tg_44 hT) ?_
          refine aw_bipush (v := 100) hC dX12_read_194 (by decide) ?_
          refine aw_iload_n hC dX12_read_196 rfl ?_
          refine aw_imul hC dX12_read_197 ?_
          rw [show 100 * (nI (rdN A c mj g k).2.1) = nI (100 * ((rdN A c mj g k).2.1)) from pk_mul 100 ((rdN A c mj g k).2.1)]
          refine aw_iload_n hC dX12_read_198 rfl ?_
          refine aw_iadd hC dX12_read_199 ?_
          rw [show (nI (100 * ((rdN A c mj g k).2.1))) + (nI (rdN A c mj g k).2.2) = nI ((100 * ((rdN A c mj g k).2.1)) + ((rdN A c mj g k).2.2)) from nI_add (100 * ((rdN A c mj g k).2.1)) ((rdN A c mj g k).2.2)]
          exact aw_ireturn hC hq rfl dX12_read_200 a_le a_le (by have e9 : k = 16 * g := (by omega); exact ⟨_, rfl, rfl, rfl, by rw [← hA, ← e9]; try rfl, by rw [← hA, rdS, ← e9, ← hB, show I1 44 35 = B 44 35 from hb.2 35 (by decide), show B 44 35 = A 44 35 from by rw [hB, rdN_fr (by decide)]]; first | (rw [if_pos (by omega)]; exact a_u_bf hb) | (rw [if_neg (by omega)]; exact a_u_bf hb), hz1⟩)
        · show AW X 0 0 185 [some (.ref 44), some (.int (nI (rdN A c mj g k).2.1)), some (.int (nI (rdN A c mj g k).2.2)), some (.int (nI k)), none, none] [.int (I1 44 35), .ref 44] T I1 J1 R
          have h4n : ¬ (((rdN A c mj g k).2.1) + ((rdN A c mj g k).2.2)) ≤ 0 := fun q9 => h4 ((nI_leI (a := (((rdN A c mj g k).2.1) + ((rdN A c mj g k).2.2))) (b := 0) (by omega) (by omega)).mpr q9)
          refine aw_iconst (v := 1) hC dX12_read_185 (by decide) ?_
          refine aw_goto (tgt := 190) hC dX12_read_186 (by decide) ?_
          refine aw_iadd hC dX12_read_190 ?_
          refine aw_putI hC dX12_read_191 aF_X12_343 rfl rfl (tg_44 hT) ?_
          refine aw_bipush (v := 100) hC dX12_read_194 (by decide) ?_
          refine aw_iload_n hC dX12_read_196 rfl ?_
          refine aw_imul hC dX12_read_197 ?_
          rw [show 100 * (nI (rdN A c mj g k).2.1) = nI (100 * ((rdN A c mj g k).2.1)) from pk_mul 100 ((rdN A c mj g k).2.1)]
          refine aw_iload_n hC dX12_read_198 rfl ?_
          refine aw_iadd hC dX12_read_199 ?_
          rw [show (nI (100 * ((rdN A c mj g k).2.1))) + (nI (rdN A c mj g k).2.2) = nI ((100 * ((rdN A c mj g k).2.1)) + ((rdN A c mj g k).2.2)) from nI_add (100 * ((rdN A c mj g k).2.1)) ((rdN A c mj g k).2.2)]
          exact aw_ireturn hC hq rfl dX12_read_200 a_le a_le (by have e9 : k = 16 * g := (by omega); exact ⟨_, rfl, rfl, rfl, by rw [← hA, ← e9]; try rfl, by rw [← hA, rdS, ← e9, ← hB, show I1 44 35 = B 44 35 from hb.2 35 (by decide), show B 44 35 = A 44 35 from by rw [hB, rdN_fr (by decide)]]; first | (rw [if_pos (by omega)]; exact a_u_bf hb) | (rw [if_neg (by omega)]; exact a_u_bf hb), hz1⟩)
      · show AW X 0 0 42 [some (.ref 44), some (.int (nI (rdN A c mj g k).2.1)), some (.int (nI (rdN A c mj g k).2.2)), some (.int (nI k)), none, none] [] T I1 J1 R
        have h3n : ¬ (16 * g) ≤ k := fun q9 => h3 ((nI_leI (a := (16 * g)) (b := k) (by omega) (by omega)).mpr q9)
        have hx64 : k < 64 := by omega
        have he1 : I1 69 k = nI (iN B 69 k) := by rw [hb.1 69 (by decide)]; exact (hEB k hx64).1
        have he2 := (hEB k hx64).2
        have hk1 : rdN A c mj g (k + 1) = ((rdX B c mj g k).1, (rdN A c mj g k).2.1 + (rdX B c mj g k).2.1, (rdN A c mj g k).2.2 + (rdX B c mj g k).2.2) := by rw [hB]; rfl
        rcases Nat.eq_zero_or_pos (iN B 69 k) with he0 | he0
        · have he00 : I1 69 k = 0 := by rw [he1, he0]; rfl
          refine aw_aload_n hC dX12_read_42 rfl ?_
          refine aw_getR hC dX12_read_43 aF_X12_83 rfl (tg_44 hT) (pr_44_29 hR) ?_
          refine aw_iload_n hC dX12_read_46 rfl ?_
          refine aw_iaload_k (j := k) hC dX12_read_47 (tg_69 hT) (nI_clamp (by omega)) (vp_in_nI (by omega) (by decide)) ?_
          rw [he00]
          refine aw_iconst (v := 1) hC dX12_read_48 (by decide) ?_
          refine aw_isub hC dX12_read_49 ?_
          rw [show (0 : Int32) - 1 = -1 from rfl]
          refine aw_istore (L2 := [some (.ref 44), some (.int (nI (rdN A c mj g k).2.1)), some (.int (nI (rdN A c mj g k).2.2)), some (.int (nI k)), some (.int (-1)), none]) hC dX12_read_50 (by decide) rfl ?_
          refine aw_iload hC dX12_read_52 rfl ?_
          refine aw_if_lt (tgt := 77) hC dX12_read_54 (by decide) (fun _ => ?_) (fun h5 => absurd h5 (by decide))
          show AW X 0 0 77 [some (.ref 44), some (.int (nI (rdN A c mj g k).2.1)), some (.int (nI (rdN A c mj g k).2.2)), some (.int (nI k)), some (.int (-1)), none] [] T I1 J1 R
          refine aw_iconst (v := 0) hC dX12_read_77 (by decide) ?_
          refine aw_istore (L2 := [some (.ref 44), some (.int (nI (rdN A c mj g k).2.1)), some (.int (nI (rdN A c mj g k).2.2)), some (.int (nI k)), some (.int (-1)), some (.int 0)]) hC dX12_read_78 (by decide) rfl ?_
          refine aw_iload hC dX12_read_80 rfl ?_
          refine aw_iconst (v := 3) hC dX12_read_82 (by decide) ?_
          refine aw_icmp_ge (tgt := 168) hC dX12_read_83 (by decide) (fun h6 => absurd h6 (by decide)) (fun _ => ?_)
          show AW X 0 0 86 [some (.ref 44), some (.int (nI (rdN A c mj g k).2.1)), some (.int (nI (rdN A c mj g k).2.2)), some (.int (nI k)), some (.int (-1)), some (.int 0)] [] T I1 J1 R
          refine aw_aload_n hC dX12_read_86 rfl ?_
          refine aw_getR hC dX12_read_87 aF_X12_83 rfl (tg_44 hT) (pr_44_29 hR) ?_
          refine aw_iload_n hC dX12_read_90 rfl ?_
          refine aw_iaload_k (j := k) hC dX12_read_91 (tg_69 hT) (nI_clamp (by omega)) (vp_in_nI (by omega) (by decide)) ?_
          rw [he00]
          refine aw_if_le (tgt := 168) hC dX12_read_92 (by decide) (fun _ => ?_) (fun h7 => absurd h7 (by decide))
          show AW X 0 0 168 [some (.ref 44), some (.int (nI (rdN A c mj g k).2.1)), some (.int (nI (rdN A c mj g k).2.2)), some (.int (nI k)), some (.int (-1)), some (.int 0)] [] T I1 J1 R
          refine aw_iinc (v := nI (k + 1)) (L2 := [some (.ref 44), some (.int (nI (rdN A c mj g k).2.1)), some (.int (nI (rdN A c mj g k).2.2)), some (.int (nI (k + 1))), some (.int (-1)), some (.int 0)]) hC dX12_read_168 rfl (nI_inc _) (by decide) rfl ?_
          refine aw_goto (tgt := 31) hC dX12_read_171 (by decide) ?_
          refine aw_forget 4 (L2 := [some (.ref 44), some (.int (nI (rdN A c mj g k).2.1)), some (.int (nI (rdN A c mj g k).2.2)), some (.int (nI (k + 1))), none, some (.int 0)]) rfl ?_
          refine aw_forget 5 (L2 := [some (.ref 44), some (.int (nI (rdN A c mj g k).2.1)), some (.int (nI (rdN A c mj g k).2.2)), some (.int (nI (k + 1))), none, none]) rfl ?_
          rw [rdX_0 he0] at hk1
          have hih := ih (by omega) I1 J1 (by rw [hk1]; exact hb) hz1
          rw [hk1] at hih
          exact hih
        · obtain ⟨r, hr⟩ : ∃ r, iN B 69 k = r + 1 := ⟨iN B 69 k - 1, by omega⟩
          have he3 : I1 69 k = nI (r + 1) := by rw [he1, hr]
          have e68 : I1 68 = B 68 := hb.1 68 (by decide)
          refine aw_aload_n hC dX12_read_42 rfl ?_
          refine aw_getR hC dX12_read_43 aF_X12_83 rfl (tg_44 hT) (pr_44_29 hR) ?_
          refine aw_iload_n hC dX12_read_46 rfl ?_
          refine aw_iaload_k (j := k) hC dX12_read_47 (tg_69 hT) (nI_clamp (by omega)) (vp_in_nI (by omega) (by decide)) ?_
          rw [he3]
          refine aw_iconst (v := 1) hC dX12_read_48 (by decide) ?_
          refine aw_isub hC dX12_read_49 ?_
          rw [nI_p1 r]
          refine aw_istore (L2 := [some (.ref 44), some (.int (nI (rdN A c mj g k).2.1)), some (.int (nI (rdN A c mj g k).2.2)), some (.int (nI k)), some (.int (nI r)), none]) hC dX12_read_50 (by decide) rfl ?_
          refine aw_iload hC dX12_read_52 rfl ?_
          refine aw_if_lt (tgt := 77) hC dX12_read_54 (by decide) (fun h => absurd ((nI_ltI (a := r) (b := 0) (by omega) (by omega)).mp h) (by omega)) (fun _ => ?_)
          show AW X 0 0 57 [some (.ref 44), some (.int (nI (rdN A c mj g k).2.1)), some (.int (nI (rdN A c mj g k).2.2)), some (.int (nI k)), some (.int (nI r)), none] [] T I1 J1 R
          refine aw_aload_n hC dX12_read_57 rfl ?_
          refine aw_getR hC dX12_read_58 aF_X12_80 rfl (tg_44 hT) (pr_44_28 hR) ?_
          refine aw_iload hC dX12_read_61 rfl ?_
          refine aw_baload_k (j := r) hC dX12_read_63 (tg_68 hT) (nI_clamp (by omega)) (vp_in_nI (by omega) (by decide)) ?_
          refine aw_if_eq (tgt := 77) hC dX12_read_64 (by decide) (fun h8 => ?_) (fun h8 => ?_)
          · show AW X 0 0 77 [some (.ref 44), some (.int (nI (rdN A c mj g k).2.1)), some (.int (nI (rdN A c mj g k).2.2)), some (.int (nI k)), some (.int (nI r)), none] [] T I1 J1 R
            refine aw_iconst (v := 0) hC dX12_read_77 (by decide) ?_
            refine aw_istore (L2 := [some (.ref 44), some (.int (nI (rdN A c mj g k).2.1)), some (.int (nI (rdN A c mj g k).2.2)), some (.int (nI k)), some (.int (nI r)), some (.int 0)]) hC dX12_read_78 (by decide) rfl ?_
            have hgo : B 68 r = 0 := by rw [← e68]; assumption
            have loop2 : ∀ q, q ≤ 3 → ∀ (I2 : aI) (J2 : aJ), BaseF (rdA B c mj g k q).1 I2 → ZF J J2 → AW X 0 0 80 [some (.ref 44), some (.int (nI (rdN A c mj g k).2.1)), some (.int (nI ((rdN A c mj g k).2.2 + (rdA B c mj g k q).2))), some (.int (nI k)), some (.int (nI r)), some (.int (nI q))] [] T I2 J2 R := by
              refine a_down 3 (fun q hkq ih2 => ?_)
              intro I2 J2 hb2 hz2
              have hr2 : iN (rdA B c mj g k q).1 69 k = r + 1 := by unfold iN at *; rw [rdA_fr (by decide)]; exact hr
              have hgQ : GW (rdA B c mj g k q).1 g := GW_cg (by rw [rdA_fr (by decide)]) (rdA_fr (by decide) q) (rdA_fr (by decide) q) (rdA_fr (by decide) q) (rdA_fr (by decide) q) (rdA_fr (by decide) q) hgB
              have hg2 := hb2.gw hgQ
              have hqc := rdA_c B c mj g k q
              have he4 : I2 69 k = nI (r + 1) := by rw [hb2.1 69 (by decide), rdA_fr (by decide)]; rw [← hr]; exact (hEB k hx64).1
              refine aw_iload hC dX12_read_80 rfl ?_
              refine aw_iconst (v := 3) hC dX12_read_82 (by decide) ?_
              refine aw_icmp_ge (tgt := 168) hC dX12_read_83 (by decide) (fun h9 => ?_) (fun h9 => ?_)
              · show AW X 0 0 168 [some (.ref 44), some (.int (nI (rdN A c mj g k).2.1)), some (.int (nI ((rdN A c mj g k).2.2 + (rdA B c mj g k q).2))), some (.int (nI k)), some (.int (nI r)), some (.int (nI q))] [] T I2 J2 R
                have h9n : 3 ≤ q := (nI_leI (a := 3) (b := q) (by omega) (by omega)).mp h9
                refine aw_iinc (v := nI (k + 1)) (L2 := [some (.ref 44), some (.int (nI (rdN A c mj g k).2.1)), some (.int (nI ((rdN A c mj g k).2.2 + (rdA B c mj g k q).2))), some (.int (nI (k + 1))), some (.int (nI r)), some (.int (nI q))]) hC dX12_read_168 rfl (nI_inc _) (by decide) rfl ?_
                refine aw_goto (tgt := 31) hC dX12_read_171 (by decide) ?_
                refine aw_forget 4 (L2 := [some (.ref 44), some (.int (nI (rdN A c mj g k).2.1)), some (.int (nI ((rdN A c mj g k).2.2 + (rdA B c mj g k q).2))), some (.int (nI (k + 1))), none, some (.int (nI q))]) rfl ?_
                refine aw_forget 5 (L2 := [some (.ref 44), some (.int (nI (rdN A c mj g k).2.1)), some (.int (nI ((rdN A c mj g k).2.2 + (rdA B c mj g k q).2))), some (.int (nI (k + 1))), none, none]) rfl ?_
                have eq3 : q = 3 := by omega
                rw [eq3] at hb2 ⊢
                rw [rdX_2 hr hgo] at hk1
                have hih := ih (by omega) I2 J2 (by rw [hk1]; exact hb2) hz2
                rw [hk1] at hih
                exact hih
              · show AW X 0 0 86 [some (.ref 44), some (.int (nI (rdN A c mj g k).2.1)), some (.int (nI ((rdN A c mj g k).2.2 + (rdA B c mj g k q).2))), some (.int (nI k)), some (.int (nI r)), some (.int (nI q))] [] T I2 J2 R
                have h9n : ¬ 3 ≤ q := fun q9 => h9 ((nI_leI (a := 3) (b := q) (by omega) (by omega)).mpr q9)
                refine aw_aload_n hC dX12_read_86 rfl ?_
                refine aw_getR hC dX12_read_87 aF_X12_83 rfl (tg_44 hT) (pr_44_29 hR) ?_
                refine aw_iload_n hC dX12_read_90 rfl ?_
                refine aw_iaload_k (j := k) hC dX12_read_91 (tg_69 hT) (nI_clamp (by omega)) (vp_in_nI (by omega) (by decide)) ?_
                rw [he4]
                refine aw_if_le (tgt := 168) hC dX12_read_92 (by decide) (fun h => absurd ((nI_leI (a := r + 1) (b := 0) (by omega) (by omega)).mp h) (by omega)) (fun _ => ?_)
                show AW X 0 0 95 [some (.ref 44), some (.int (nI (rdN A c mj g k).2.1)), some (.int (nI ((rdN A c mj g k).2.2 + (rdA B c mj g k q).2))), some (.int (nI k)), some (.int (nI r)), some (.int (nI q))] [] T I2 J2 R
                refine aw_aload_n hC dX12_read_95 rfl ?_
                refine aw_aload_n hC dX12_read_96 rfl ?_
                refine aw_getR hC dX12_read_97 aF_X12_62 rfl (tg_44 hT) (pr_44_21 hR) ?_
                refine aw_iload_n hC dX12_read_100 rfl ?_
                refine aw_bipush (v := 16) hC dX12_read_101 (by decide) ?_
                refine aw_idiv hC dX12_read_103 (by decide) ?_
                rw [show (nI k) / 16 = nI (k / 16) from pk_div (a := k) (d := 16) (by omega) (by decide) (by decide)]
                refine aw_iaload_k (j := (k / 16)) hC dX12_read_104 (tg_62 hT) (nI_clamp (by omega)) (vp_in_nI (by omega) (by decide)) ?_
                have hb10 := hg2.ty (k / 16) (by omega)
                rw [hb10.1]
                refine aw_iload hC dX12_read_105 rfl ?_
                refine aw_iconst (v := 4) hC dX12_read_107 (by decide) ?_
                refine kX12_330 hC rfl (m_X12_hasN hT hR (t := (iN I2 62 (k / 16))) (a := q) (by omega) (by omega) (4 : Int32)) dX12_read_108 (tg_44 hT) rfl a_le a_le a_le a_le a_le rfl aPure_x (aPure_k ?_)
                show AW X 0 0 111 [some (.ref 44), some (.int (nI (rdN A c mj g k).2.1)), some (.int (nI ((rdN A c mj g k).2.2 + (rdA B c mj g k q).2))), some (.int (nI k)), some (.int (nI r)), some (.int (nI q))] [.int (bI (decide (I2 58 (3 * (iN I2 62 (k / 16)) + q) &&& (4 : Int32) ≠ 0)))] T I2 J2 R
                refine aw_if_ne (tgt := 162) hC dX12_read_111 (by decide) (fun h11 => ?_) (fun h11 => ?_)
                · show AW X 0 0 162 [some (.ref 44), some (.int (nI (rdN A c mj g k).2.1)), some (.int (nI ((rdN A c mj g k).2.2 + (rdA B c mj g k q).2))), some (.int (nI k)), some (.int (nI r)), some (.int (nI q))] [] T I2 J2 R
                  refine aw_iinc (v := nI (q + 1)) (L2 := [some (.ref 44), some (.int (nI (rdN A c mj g k).2.1)), some (.int (nI ((rdN A c mj g k).2.2 + (rdA B c mj g k q).2))), some (.int (nI k)), some (.int (nI r)), some (.int (nI (q + 1)))]) hC dX12_read_162 rfl (nI_inc _) (by decide) rfl ?_
                  refine aw_goto (tgt := 80) hC dX12_read_165 (by decide) ?_
                  have hno : ¬ rdC (rdA B c mj g k q).1 k q := fun hh => by have z := (rdC_bf hb2 hr2).mp hh; first | exact absurd z.1 (bI_dn.mp (by assumption)) | exact absurd (by assumption) z.2
                  have hk2 : rdA B c mj g k (q + 1) = rdA B c mj g k q := by rw [rdA, if_neg hno]
                  have hih := ih2 (by omega) I2 J2 (by rw [hk2]; exact hb2) hz2
                  rw [hk2] at hih
                  exact hih
                · show AW X 0 0 114 [some (.ref 44), some (.int (nI (rdN A c mj g k).2.1)), some (.int (nI ((rdN A c mj g k).2.2 + (rdA B c mj g k q).2))), some (.int (nI k)), some (.int (nI r)), some (.int (nI q))] [] T I2 J2 R
                  refine aw_aload_n hC dX12_read_114 rfl ?_
                  refine aw_getR hC dX12_read_115 aF_X12_77 rfl (tg_44 hT) (pr_44_27 hR) ?_
                  refine aw_iconst (v := 3) hC dX12_read_118 (by decide) ?_
                  refine aw_iload hC dX12_read_119 rfl ?_
                  refine aw_imul hC dX12_read_121 ?_
                  rw [show 3 * (nI r) = nI (3 * r) from pk_mul 3 r]
                  refine aw_iload hC dX12_read_122 rfl ?_
                  refine aw_iadd hC dX12_read_124 ?_
                  rw [show (nI (3 * r)) + (nI q) = nI ((3 * r) + q) from nI_add (3 * r) q]
                  refine aw_iaload_k (j := ((3 * r) + q)) hC dX12_read_125 (tg_67 hT) (nI_clamp (by omega)) (vp_in_nI (by omega) (by decide)) ?_
                  refine aw_aload_n hC dX12_read_126 rfl ?_
                  refine aw_getR hC dX12_read_127 aF_X12_86 rfl (tg_44 hT) (pr_44_30 hR) ?_
                  refine aw_iconst (v := 3) hC dX12_read_130 (by decide) ?_
                  refine aw_iload_n hC dX12_read_131 rfl ?_
                  refine aw_imul hC dX12_read_132 ?_
                  rw [show 3 * (nI k) = nI (3 * k) from pk_mul 3 k]
                  refine aw_iload hC dX12_read_133 rfl ?_
                  refine aw_iadd hC dX12_read_135 ?_
                  rw [show (nI (3 * k)) + (nI q) = nI ((3 * k) + q) from nI_add (3 * k) q]
                  refine aw_iaload_k (j := ((3 * k) + q)) hC dX12_read_136 (tg_70 hT) (nI_clamp (by omega)) (vp_in_nI (by omega) (by decide)) ?_
                  refine aw_icmp_eq (tgt := 162) hC dX12_read_137 (by decide) (fun h12 => ?_) (fun h12 => ?_)
                  · show AW X 0 0 162 [some (.ref 44), some (.int (nI (rdN A c mj g k).2.1)), some (.int (nI ((rdN A c mj g k).2.2 + (rdA B c mj g k q).2))), some (.int (nI k)), some (.int (nI r)), some (.int (nI q))] [] T I2 J2 R
                    refine aw_iinc (v := nI (q + 1)) (L2 := [some (.ref 44), some (.int (nI (rdN A c mj g k).2.1)), some (.int (nI ((rdN A c mj g k).2.2 + (rdA B c mj g k q).2))), some (.int (nI k)), some (.int (nI r)), some (.int (nI (q + 1)))]) hC dX12_read_162 rfl (nI_inc _) (by decide) rfl ?_
                    refine aw_goto (tgt := 80) hC dX12_read_165 (by decide) ?_
                    have hno : ¬ rdC (rdA B c mj g k q).1 k q := fun hh => by have z := (rdC_bf hb2 hr2).mp hh; first | exact absurd z.1 (bI_dn.mp (by assumption)) | exact absurd (by assumption) z.2
                    have hk2 : rdA B c mj g k (q + 1) = rdA B c mj g k q := by rw [rdA, if_neg hno]
                    have hih := ih2 (by omega) I2 J2 (by rw [hk2]; exact hb2) hz2
                    rw [hk2] at hih
                    exact hih
                  · show AW X 0 0 140 [some (.ref 44), some (.int (nI (rdN A c mj g k).2.1)), some (.int (nI ((rdN A c mj g k).2.2 + (rdA B c mj g k q).2))), some (.int (nI k)), some (.int (nI r)), some (.int (nI q))] [] T I2 J2 R
                    refine aw_iinc (v := nI (((rdN A c mj g k).2.2 + (rdA B c mj g k q).2) + 1)) (L2 := [some (.ref 44), some (.int (nI (rdN A c mj g k).2.1)), some (.int (nI (((rdN A c mj g k).2.2 + (rdA B c mj g k q).2) + 1))), some (.int (nI k)), some (.int (nI r)), some (.int (nI q))]) hC dX12_read_140 rfl (nI_inc _) (by decide) rfl ?_
                    refine aw_aload_n hC dX12_read_143 rfl ?_
                    refine aw_iload_n hC dX12_read_144 rfl ?_
                    refine aw_iload hC dX12_read_145 rfl ?_
                    refine aw_aload_n hC dX12_read_147 rfl ?_
                    refine aw_getR hC dX12_read_148 aF_X12_77 rfl (tg_44 hT) (pr_44_27 hR) ?_
                    refine aw_iconst (v := 3) hC dX12_read_151 (by decide) ?_
                    refine aw_iload hC dX12_read_152 rfl ?_
                    refine aw_imul hC dX12_read_154 ?_
                    rw [show 3 * (nI r) = nI (3 * r) from pk_mul 3 r]
                    refine aw_iload hC dX12_read_155 rfl ?_
                    refine aw_iadd hC dX12_read_157 ?_
                    rw [show (nI (3 * r)) + (nI q) = nI ((3 * r) + q) from nI_add (3 * r) q]
                    refine aw_iaload_k (j := ((3 * r) + q)) hC dX12_read_158 (tg_67 hT) (nI_clamp (by omega)) (vp_in_nI (by omega) (by decide)) ?_
                    refine kX12_425 hC rfl (m_X12_drifts (I := I2) (J := J2) (n := n) (g := g) hT hR (BaseF.sw hb2 (SW_cg (by rw [rdA_fr (by decide), hB, rdN_fr (by decide)]) (by rw [rdA_fr (by decide), hB, rdN_fr (by decide)]) (by rw [rdA_fr (by decide), hB, rdN_fr (by decide)]) (by rw [rdA_fr (by decide), hB, rdN_fr (by decide)]) (by rw [rdA_fr (by decide), hB, rdN_fr (by decide)]) (by rw [rdA_fr (by decide), hB, rdN_fr (by decide)]) (by rw [rdA_fr (by decide), hB, rdN_fr (by decide)]) (by rw [rdA_fr (by decide), hB, rdN_fr (by decide)]) (by rw [rdA_fr (by decide), hB, rdN_fr (by decide)]) hSA)) hz2.1 hg2 (x := k) (k := q) (by omega) (by omega) (I2 67 ((3 * r) + q))) dX12_read_159 (tg_44 hT) rfl a_le a_le a_le a_le a_le rfl aRelV_x (aRelV_k (fun v9 I3 J3 hQ => ?_))
                    obtain ⟨I4, hCm, rfl, hI3⟩ := hQ
                    have stq : StEq I (rdA B c mj g k q).1 := ⟨fun o ho => by rw [rdA_fr (by omega), hB]; exact (hstA k).1 o ho, by rw [rdA_fr (by decide), hB]; exact (hstA k).2.1, by rw [rdA_fr (by decide), hB]; exact (hstA k).2.2⟩
                    show AW X 0 0 162 [some (.ref 44), some (.int (nI (rdN A c mj g k).2.1)), some (.int (nI (((rdN A c mj g k).2.2 + (rdA B c mj g k q).2) + 1))), some (.int (nI k)), some (.int (nI r)), some (.int (nI q))] [] T I3 J3 R
                    refine aw_iinc (v := nI (q + 1)) (L2 := [some (.ref 44), some (.int (nI (rdN A c mj g k).2.1)), some (.int (nI (((rdN A c mj g k).2.2 + (rdA B c mj g k q).2) + 1))), some (.int (nI k)), some (.int (nI r)), some (.int (nI (q + 1)))]) hC dX12_read_162 rfl (nI_inc _) (by decide) rfl ?_
                    refine aw_goto (tgt := 80) hC dX12_read_165 (by decide) ?_
                    have hyes : rdC (rdA B c mj g k q).1 k q := (rdC_bf hb2 hr2).mpr ⟨Decidable.not_not.mp (bI_d0.mp (by assumption)), by assumption⟩
                    have hk2 : rdA B c mj g k (q + 1) = (rdK (rdA B c mj g k q).1 c mj g k q, (rdA B c mj g k q).2 + 1) := by rw [rdA, if_pos hyes]
                    have hih := ih2 (by omega) I3 J3 (by rw [hk2, hI3]; exact rd_step hb2 hg2 (by omega) (by omega) hr2 hsol stq hCm) ⟨hCm.zr, fun q9 hq9 => (hCm.jf q9 hq9).trans (hz2.2 q9 hq9)⟩
                    rw [hk2] at hih
                    exact hih
            exact loop2 0 (Nat.zero_le _) I1 J1 hb hz1
          · show AW X 0 0 67 [some (.ref 44), some (.int (nI (rdN A c mj g k).2.1)), some (.int (nI (rdN A c mj g k).2.2)), some (.int (nI k)), some (.int (nI r)), none] [] T I1 J1 R
            refine aw_aload_n hC dX12_read_67 rfl ?_
            refine aw_getR hC dX12_read_68 aF_X12_83 rfl (tg_44 hT) (pr_44_29 hR) ?_
            refine aw_iload_n hC dX12_read_71 rfl ?_
            refine aw_iconst (v := 0) hC dX12_read_72 (by decide) ?_
            refine aw_iastore_k (j := k) hC dX12_read_73 (tg_69 hT) (nI_clamp (by omega)) (vp_in_nI (by omega) (by decide)) ?_
            refine aw_iinc (v := nI ((rdN A c mj g k).2.1 + 1)) (L2 := [some (.ref 44), some (.int (nI ((rdN A c mj g k).2.1 + 1))), some (.int (nI (rdN A c mj g k).2.2)), some (.int (nI k)), some (.int (nI r)), none]) hC dX12_read_74 rfl (nI_inc _) (by decide) rfl ?_
            refine aw_iconst (v := 0) hC dX12_read_77 (by decide) ?_
            refine aw_istore (L2 := [some (.ref 44), some (.int (nI ((rdN A c mj g k).2.1 + 1))), some (.int (nI (rdN A c mj g k).2.2)), some (.int (nI k)), some (.int (nI r)), some (.int 0)]) hC dX12_read_78 (by decide) rfl ?_
            refine aw_iload hC dX12_read_80 rfl ?_
            refine aw_iconst (v := 3) hC dX12_read_82 (by decide) ?_
            refine aw_icmp_ge (tgt := 168) hC dX12_read_83 (by decide) (fun h13 => absurd h13 (by decide)) (fun _ => ?_)
            show AW X 0 0 86 [some (.ref 44), some (.int (nI ((rdN A c mj g k).2.1 + 1))), some (.int (nI (rdN A c mj g k).2.2)), some (.int (nI k)), some (.int (nI r)), some (.int 0)] [] T (a_u I1 69 k 0) J1 R
            refine aw_aload_n hC dX12_read_86 rfl ?_
            refine aw_getR hC dX12_read_87 aF_X12_83 rfl (tg_44 hT) (pr_44_29 hR) ?_
            refine aw_iload_n hC dX12_read_90 rfl ?_
            refine aw_iaload_k (j := k) hC dX12_read_91 (tg_69 hT) (nI_clamp (by omega)) (vp_in_nI (by omega) (by decide)) ?_
            rw [a_u_self (f := I1) (o := 69) (k := k) (v := 0)]
            refine aw_if_le (tgt := 168) hC dX12_read_92 (by decide) (fun _ => ?_) (fun h14 => absurd h14 (by decide))
            show AW X 0 0 168 [some (.ref 44), some (.int (nI ((rdN A c mj g k).2.1 + 1))), some (.int (nI (rdN A c mj g k).2.2)), some (.int (nI k)), some (.int (nI r)), some (.int 0)] [] T (a_u I1 69 k 0) J1 R
            refine aw_iinc (v := nI (k + 1)) (L2 := [some (.ref 44), some (.int (nI ((rdN A c mj g k).2.1 + 1))), some (.int (nI (rdN A c mj g k).2.2)), some (.int (nI (k + 1))), some (.int (nI r)), some (.int 0)]) hC dX12_read_168 rfl (nI_inc _) (by decide) rfl ?_
            refine aw_goto (tgt := 31) hC dX12_read_171 (by decide) ?_
            refine aw_forget 4 (L2 := [some (.ref 44), some (.int (nI ((rdN A c mj g k).2.1 + 1))), some (.int (nI (rdN A c mj g k).2.2)), some (.int (nI (k + 1))), none, some (.int 0)]) rfl ?_
            refine aw_forget 5 (L2 := [some (.ref 44), some (.int (nI ((rdN A c mj g k).2.1 + 1))), some (.int (nI (rdN A c mj g k).2.2)), some (.int (nI (k + 1))), none, none]) rfl ?_
            rw [rdX_1 hr (by rw [← e68]; assumption)] at hk1
            have hih := ih (by omega) (a_u I1 69 k 0) J1 (by rw [hk1]; exact a_u_bf hb) hz1
            rw [hk1] at hih
            exact hih
    exact loop 0 (Nat.zero_le _) A J (BaseF.refl A) ⟨hZ, fun _ _ => rfl⟩
  · show AW X 0 0 8 [some (.ref 44), none, none, none, none, none] [.ref 44] T I J R
    exact absurd hun (by first | assumption | exact Int32.not_lt.mpr (by assumption))
theorem D_value {T : List aT} {I : aI} {J : aJ} {R : aR} (hT : aPT T) (hR : aPR R) {m : aI} {c n g r p k : Nat} (hm : MI m c n g r p k) (hL : LEq m I) (hZ : Zr J) (f : Int32) {kq : Nat} {vq : Int32} {mq : aI} (hs : (fun k v m2 => ((0 ≤ f ∧ f ≤ 9) ∧ k = 0 ∧ (∃ m0 M P S, StEq m m0 ∧ SolR m0 M n P S ∧ v = sVl (M 44 57) S f.toNatClampNeg) ∧ m2 = m) ∨ (¬ (0 ≤ f ∧ f ≤ 9) ∧ k = 1 ∧ m2 = m)) kq vq mq) : MX12_value 0 0 [.ref 44, .int f] T I J R (DP kq vq mq T I J R) := by
  have hi := hm.cg hL
  by_cases hx : 0 ≤ f ∧ f ≤ 9
  · obtain ⟨f1, hf1, zz1⟩ := i_nat hx.1 (i_lt10 hx.2) (b := 10) rfl (by decide)
    subst zz1
    rcases hs with ⟨hc, hk, ⟨m0, M, P, S, h0, hso, hv⟩, hm2⟩ | ⟨hc, hk, hm2⟩
    · rw [nI_clamp (show f1 < 2147483648 by omega)] at hv
      subst hk hm2
      refine AMet.mono (m_X12_valueT (I := I) (J := J) hT hR hi.1.1 hZ hf1) (fun o T2 I2 J2 R2 hp hQ => ?_)
      obtain ⟨e1, e2, e3, hS2⟩ := hQ
      have w := sol_eq hm.1 hL h0 hso hS2
      rw [e1, e2, e3]
      exact DP.q (by show sVal I2 J2 f1 = _; rw [hv]; show (if I2 44 57 = 0 then (if sCount (J2 88 f1) = 1 then nI (sLeast (J2 88 f1)) else -1) else -2) = (if M 44 57 = 0 then (if sCount (S f1) = 1 then nI (sLeast (S f1)) else -1) else -2); rw [w.2.2.1, w.2.2.2]) hL hS2.bf hS2.jf hS2.zr
    · exact absurd hx hc
  · rcases hs with ⟨hc, hk, _, hm2⟩ | ⟨hc, hk, hm2⟩
    · exact absurd hc hx
    · have q := m_X12_valueF (I := I) (J := J) hT hR f hx
      subst hm2
      exact AMet.mono q (DP.f (j := 1) hk (by decide) hL hZ)
theorem D_set {T : List aT} {I : aI} {J : aJ} {R : aR} (hT : aPT T) (hR : aPR R) {m : aI} {c n g r p k : Nat} (hm : MI m c n g r p k) (hL : LEq m I) (hZ : Zr J) (f : Int32) {kq : Nat} {vq : Int32} {mq : aI} (hs : (fun k v m2 => ((0 ≤ f ∧ f ≤ 9) ∧ k = 0 ∧ (∃ m0 M P S, StEq m m0 ∧ SolR m0 M n P S ∧ v = sSum (P f.toNatClampNeg)) ∧ m2 = m) ∨ (¬ (0 ≤ f ∧ f ≤ 9) ∧ k = 1 ∧ m2 = m)) kq vq mq) : MX12_set 0 0 [.ref 44, .int f] T I J R (DP kq vq mq T I J R) := by
  have hi := hm.cg hL
  by_cases hx : 0 ≤ f ∧ f ≤ 9
  · obtain ⟨f1, hf1, zz1⟩ := i_nat hx.1 (i_lt10 hx.2) (b := 10) rfl (by decide)
    subst zz1
    rcases hs with ⟨hc, hk, ⟨m0, M, P, S, h0, hso, hv⟩, hm2⟩ | ⟨hc, hk, hm2⟩
    · rw [nI_clamp (show f1 < 2147483648 by omega)] at hv
      subst hk hm2
      refine AMet.mono (m_X12_setT (I := I) (J := J) hT hR hi.1.1 hZ hf1) (fun o T2 I2 J2 R2 hp hQ => ?_)
      obtain ⟨e1, e2, e3, hS2⟩ := hQ
      have w := sol_eq hm.1 hL h0 hso hS2
      rw [e1, e2, e3]
      exact DP.q (by rw [hv, w.2.1]) hL hS2.bf hS2.jf hS2.zr
    · exact absurd hx hc
  · rcases hs with ⟨hc, hk, _, hm2⟩ | ⟨hc, hk, hm2⟩
    · exact absurd hc hx
    · have q := m_X12_setF (I := I) (J := J) hT hR f hx
      subst hm2
      exact AMet.mono q (DP.f (j := 1) hk (by decide) hL hZ)
theorem D_setAnew {T : List aT} {I : aI} {J : aJ} {R : aR} (hT : aPT T) (hR : aPR R) {m : aI} {c n g r p k : Nat} (hm : MI m c n g r p k) (hL : LEq m I) (hZ : Zr J) (f : Int32) {kq : Nat} {vq : Int32} {mq : aI} (hs : (fun k v m2 => ((0 ≤ f ∧ f ≤ 9) ∧ k = 0 ∧ (∃ m0 M P S, StEq m m0 ∧ SolR m0 M n P S ∧ v = sSum (P f.toNatClampNeg)) ∧ m2 = m) ∨ (¬ (0 ≤ f ∧ f ≤ 9) ∧ k = 1 ∧ m2 = m)) kq vq mq) : MX12_setAnew 0 0 [.ref 44, .int f] T I J R (DP kq vq mq T I J R) := by
  have hi := hm.cg hL
  by_cases hx : 0 ≤ f ∧ f ≤ 9
  · obtain ⟨f1, hf1, zz1⟩ := i_nat hx.1 (i_lt10 hx.2) (b := 10) rfl (by decide)
    subst zz1
    rcases hs with ⟨hc, hk, ⟨m0, M, P, S, h0, hso, hv⟩, hm2⟩ | ⟨hc, hk, hm2⟩
    · rw [nI_clamp (show f1 < 2147483648 by omega)] at hv
      subst hk hm2
      refine AMet.mono (m_X12_setAnewT (I := I) (J := J) hT hR hi.1.1 hZ hf1) (fun o T2 I2 J2 R2 hp hQ => ?_)
      obtain ⟨e1, e2, e3, hS2⟩ := hQ
      have w := sol_eq hm.1 hL h0 hso hS2
      rw [e1, e2, e3]
      exact DP.q (by rw [hv, w.2.1]) hL hS2.bf hS2.jf hS2.zr
    · exact absurd hx hc
  · rcases hs with ⟨hc, hk, _, hm2⟩ | ⟨hc, hk, hm2⟩
    · exact absurd hc hx
    · have q := m_X12_setAnewF (I := I) (J := J) hT hR f hx
      subst hm2
      exact AMet.mono q (DP.f (j := 1) hk (by decide) hL hZ)
theorem D_tainted {T : List aT} {I : aI} {J : aJ} {R : aR} (hT : aPT T) (hR : aPR R) {m : aI} {c n g r p k : Nat} (hm : MI m c n g r p k) (hL : LEq m I) (hZ : Zr J)  {kq : Nat} {vq : Int32} {mq : aI} (hs : (fun k v m2 => k = 0 ∧ (∃ m0 M P S, StEq m m0 ∧ SolR m0 M n P S ∧ TnL M (fun _ => P) n v) ∧ m2 = m) kq vq mq) : MX12_tainted 0 0 [.ref 44] T I J R (DP kq vq mq T I J R) := by
  have hi := hm.cg hL
  obtain ⟨hk, ⟨m0, M, P, S, h0, hso, hv⟩, hm2⟩ := hs
  subst hk hm2
  refine AMet.mono (m_X12_tainted (I := I) (J := J) hT hR hi.1.1 hZ) (fun o T2 I2 J2 R2 hp hQ => ?_)
  obtain ⟨e1, e2, e3, hS2⟩ := hQ
  have w := sol_eq hm.1 hL h0 hso hS2
  rw [e1, e2, e3]
  exact DP.q (tnt_eq (hv.tr w.1 w.2.1)).symm hL hS2.bf hS2.jf hS2.zr
theorem D_conflict {T : List aT} {I : aI} {J : aJ} {R : aR} (hT : aPT T) (hR : aPR R) {m : aI} {c n g r p k : Nat} (hm : MI m c n g r p k) (hL : LEq m I) (hZ : Zr J)  {kq : Nat} {vq : Int32} {mq : aI} (hs : (fun k v m2 => k = 0 ∧ (∃ m0 M P S, StEq m m0 ∧ SolR m0 M n P S ∧ v = cfA M P n) ∧ m2 = m) kq vq mq) : MX12_conflict 0 0 [.ref 44] T I J R (DP kq vq mq T I J R) := by
  have hi := hm.cg hL
  obtain ⟨hk, ⟨m0, M, P, S, h0, hso, hv⟩, hm2⟩ := hs
  subst hk hm2
  refine AMet.mono (m_X12_conflict2 (I := I) (J := J) hT hR hi.1.1 hZ) (fun o T2 I3 J3 R2 hp hQ => ?_)
  obtain ⟨b9, e1, e2, e3, I2, J2, hS2, eb, hbf, hzf⟩ := hQ
  have w := sol_eq hm.1 hL h0 hso hS2
  rw [e1, e2, e3, eb]
  refine DP.q ?_ hL (hS2.bf.trans hbf) hzf.2 hzf.1
  rw [hv, ← w.1.qcfA w.2.2.2, ← w.2.1]; rfl
theorem vp_lt10 {x : Int32} (h : vp_in x 10) : x.toNatClampNeg < 10 := by
  exact Nat.lt_of_not_le (fun z => h (Or.inr z))
theorem prV_cg {m I : aI} {P P2 : Nat → Int64} {p : Nat} (h : LEq m I) (hP : P2 = P) : sProof I (P2 (iN I 57 (3 * p))) p = prV m P p := by
  unfold prV sProof
  rw [h.iNq (q := 57) (by decide), hP]
theorem S86_3 {I : aI} {n j : Nat} : mFault I n j = 0 ∨ mFault I n j = 1 ∨ mFault I n j = 2 ∨ mFault I n j = 3 := by
  unfold mFault
  split
  · exact Or.inr (Or.inl rfl)
  · split
    · exact Or.inr (Or.inr (Or.inl rfl))
    · split
      · exact Or.inl rfl
      · exact Or.inr (Or.inr (Or.inr rfl))
theorem LaysR.f3 {I I2 : aI} {n s : Nat} (h : LaysR I I2 n) (hs : s < n) : 0 < I2 86 s ↔ I2 86 s ≠ 0 := by
  obtain ⟨I1, _, e⟩ := h
  have e9 : I2 86 s = (S86 (a_ur I1 84 (S84 I1 n)) n n) s := by rw [e, a_ur_self]
  have e8 : (S86 (a_ur I1 84 (S84 I1 n)) n n) s = 0 ∨ (S86 (a_ur I1 84 (S84 I1 n)) n n) s = 1 ∨ (S86 (a_ur I1 84 (S84 I1 n)) n n) s = 2 ∨ (S86 (a_ur I1 84 (S84 I1 n)) n n) s = 3 := by
    show (if s < n then (if _ then mFault _ n s else 0) else _) = 0 ∨ (if s < n then (if _ then mFault _ n s else 0) else _) = 1 ∨ (if s < n then (if _ then mFault _ n s else 0) else _) = 2 ∨ (if s < n then (if _ then mFault _ n s else 0) else _) = 3
    rw [if_pos hs]
    split
    · exact S86_3
    · exact Or.inl rfl
  rw [← e9] at e8
  rcases e8 with w | w | w | w <;> rw [w] <;> decide
theorem SolR.f3 {I I2 : aI} {n s : Nat} {P S : Nat → Int64} (h : SolR I I2 n P S) (hs : s < n) : 0 < I2 86 s ↔ I2 86 s ≠ 0 := by
  obtain ⟨I3, h1, e, _⟩ := h
  rw [e, a_u_row (by decide), a_u_row (by decide)]; exact h1.f3 hs
theorem stV_cg {M I2 : aI} {P : Nat → Int64} {J2 : aJ} {n s : Nat} (h : DQ M I2 n) (hs : s < n) (hw : SW I2 n) (hg : GOK I2 n) (h3 : 0 < I2 86 s ↔ I2 86 s ≠ 0) (hJ : ∀ f, f < 10 → J2 88 f = P f) : sStand I2 J2 s = stV M P s := by
  obtain ⟨h84, h85, h86⟩ := h.2.2.2 s hs
  unfold stV sStand
  have c7 : I2 45 s < 7 ↔ M 45 s ≤ 6 := by
    rw [h.1 45 (by decide)]
    have e7 : (7 : Int32).toInt = 7 := by decide
    have e6 : (6 : Int32).toInt = 6 := by decide
    simp only [i_lt, i_le, e7, e6]; omega
  have c8 : M 45 s < 7 ↔ M 45 s ≤ 6 := by
    have e7 : (7 : Int32).toInt = 7 := by decide
    have e6 : (6 : Int32).toInt = 6 := by decide
    simp only [i_lt, i_le, e7, e6]; omega
  by_cases z84 : M 84 s = 0
  · rw [if_pos (h84.trans z84), if_pos z84]
  · rw [if_neg (fun z => z84 (h84.symm.trans z)), if_neg z84]
    by_cases z86 : M 86 s = 0
    · rw [if_neg (fun z => absurd (h86.trans z86) (h3.mp z)), if_pos z86]
      by_cases z7 : M 45 s ≤ 6
      · have eh : mHolds I2 J2 s ↔ cOn M P s := by
          have e1 : mHolds I2 J2 s ↔ hOn M P s := by
            unfold mHolds hOn
            rw [h85]
            by_cases z9 : M 85 s < 0
            · exact ⟨fun _ => Or.inl z9, fun _ => Or.inl z9⟩
            · have q := hg s hs (by rw [h85]; exact Int32.not_lt.mp z9)
              rw [h85] at q
              rw [h.1 46 (by decide), h.1 47 (by decide)] at *
              rw [hJ _ (by have := q.2; exact vp_lt10 this)]
          rw [e1]
          exact ⟨fun w => Or.inl ⟨h.2.1, z84, c8.mpr z7, z86, w⟩, fun w => by
            rcases w with w | w
            · exact w.2.2.2.2
            · exact absurd h.2.1 w.1⟩
        by_cases zc : cOn M P s
        · rw [if_neg (fun z => z.2 (eh.mpr zc)), if_neg (fun z => z.2 zc)]
        · rw [if_pos ⟨c7.mpr z7, fun z => zc (eh.mp z)⟩, if_pos ⟨z7, zc⟩]
      · rw [if_neg (fun z => z7 (c7.mp z.1)), if_neg (fun z => z7 z.1)]
    · rw [if_pos (h3.mpr (fun z => z86 (h86.symm.trans z))), if_neg z86]; exact h86
theorem D_standing {T : List aT} {I : aI} {J : aJ} {R : aR} (hT : aPT T) (hR : aPR R) {m : aI} {c n g r p k : Nat} (hm : MI m c n g r p k) (hL : LEq m I) (hZ : Zr J) (x : Int32) {kq : Nat} {vq : Int32} {mq : aI} (hs : (fun k v m2 => ((0 ≤ x ∧ x < nI n) ∧ k = 0 ∧ (∃ m0 M P S, StEq m m0 ∧ SolR m0 M n P S ∧ v = stV M P x.toNatClampNeg) ∧ m2 = m) ∨ (¬ (0 ≤ x ∧ x < nI n) ∧ k = 1 ∧ m2 = m)) kq vq mq) : MX12_standing 0 0 [.ref 44, .int x] T I J R (DP kq vq mq T I J R) := by
  have hi := hm.cg hL
  by_cases hx : 0 ≤ x ∧ x < nI n
  · have hn30 := hm.1.1.n30
    obtain ⟨x1, hx1, zz1⟩ := i_nat hx.1 hx.2 rfl (by omega)
    subst zz1
    rcases hs with ⟨hc, hk, ⟨m0, M, P, S, h0, hso, hv⟩, hm2⟩ | ⟨hc, hk, hm2⟩
    · rw [nI_clamp (show x1 < 2147483648 by omega)] at hv
      subst hk hm2
      refine AMet.mono (m_X12_standingT (I := I) (J := J) hT hR hi.1.1 hZ hx1) (fun o T2 I2 J3 R2 hp hQ => ?_)
      obtain ⟨e1, e2, e3, J2, hS2, eJ⟩ := hQ
      have w := sol_eq hm.1 hL h0 hso hS2
      have hS3 := hS2
      obtain ⟨K9, P9, S9, eJ9, hR9⟩ := hS2
      have z3 := hS3.zr
      rw [e1, e2, e3]
      refine DP.q ?_ hL hS3.bf (fun q hq => by rw [eJ, a_fill_ne (by omega)]; exact hS3.jf q hq) (fun j hj => ⟨by rw [eJ, fill_89 z3]; exact (z3 j hj).2, by rw [eJ, a_fill_ne (by decide)]; exact (z3 j hj).2⟩)
      rw [hv]
      exact stV_cg w.1 hx1 (hS3.sw hi.1.1.th) (hS3.gok hi.1.1.th) (hR9.f3 hx1) (fun f hf => by rw [eJ, a_fill_in hf, w.2.1])
    · exact absurd hx hc
  · rcases hs with ⟨hc, hk, _, hm2⟩ | ⟨hc, hk, hm2⟩
    · exact absurd hc hx
    · have q := m_X12_standingF (I := I) (J := J) hT hR hi.1.1.2.1 x (fun z => hx ⟨z.1, (i_le_sub1 (by have := hm.1.1.n30; omega)).mp z.2⟩)
      subst hm2
      exact AMet.mono q (DP.f (j := 1) hk (by decide) hL hZ)
theorem D_proof {T : List aT} {I : aI} {J : aJ} {R : aR} (hT : aPT T) (hR : aPR R) {m : aI} {c n g r p k : Nat} (hm : MI m c n g r p k) (hL : LEq m I) (hZ : Zr J) (x : Int32) {kq : Nat} {vq : Int32} {mq : aI} (hs : (fun kk v m2 => ((0 ≤ x ∧ x < nI k) ∧ kk = 0 ∧ (∃ m0 M P S, StEq m m0 ∧ SolR m0 M n P S ∧ v = prV m P x.toNatClampNeg) ∧ m2 = m) ∨ (¬ (0 ≤ x ∧ x < nI k) ∧ kk = 1 ∧ m2 = m)) kq vq mq) : MX12_proof 0 0 [.ref 44, .int x] T I J R (DP kq vq mq T I J R) := by
  have hi := hm.cg hL
  have hk8 := hm.2.2.2.1.2.1
  by_cases hx : 0 ≤ x ∧ x < nI k
  · obtain ⟨x1, hx1, zz1⟩ := i_nat hx.1 hx.2 rfl (by omega)
    subst zz1
    rcases hs with ⟨hc, hk, ⟨m0, M, P, S, h0, hso, hv⟩, hm2⟩ | ⟨hc, hk, hm2⟩
    · rw [nI_clamp (show x1 < 2147483648 by omega)] at hv
      subst hk hm2
      refine AMet.mono (m_X12_proofT (I := I) (J := J) hT hR hi.1.1 hZ hi.2.2.2.1.1 hk8 hx1 hi.2.2.2.1.2.2.1 (hi.2.2.2.1.2.2.2 x1 hx1)) (fun o T2 I2 J2 R2 hp hQ => ?_)
      obtain ⟨e1, e2, e3, hS2⟩ := hQ
      have w := sol_eq hm.1 hL h0 hso hS2
      rw [e1, e2, e3]
      exact DP.q (by rw [hv]; exact prV_cg hL w.2.1) hL hS2.bf hS2.jf hS2.zr
    · exact absurd hx hc
  · rcases hs with ⟨hc, hk, _, hm2⟩ | ⟨hc, hk, hm2⟩
    · exact absurd hc hx
    · have q := m_X12_proofF (I := I) (J := J) hT hR hi.2.2.2.1.1 x (fun z => hx ⟨z.1, (i_le_sub1 (by omega)).mp z.2⟩)
      subst hm2
      exact AMet.mono q (DP.f (j := 1) hk (by decide) hL hZ)
theorem cntT_cgx {p q : Nat → Bool} : ∀ {n : Nat}, (∀ s, s < n → p s = q s) → cntT p n = cntT q n
  | 0, _ => rfl
  | n + 1, h => by rw [cntT, cntT, h n (by omega), cntT_cgx (fun s hs => h s (by omega))]
theorem D_remove {T : List aT} {I : aI} {J : aJ} {R : aR} (hT : aPT T) (hR : aPR R) {m : aI} {c n g r p k : Nat} (hm : MI m c n g r p k) (hL : LEq m I) (hZ : Zr J) (x : Int32) {kq : Nat} {vq : Int32} {mq : aI} (hs : (fun k v m2 => (((0 ≤ x ∧ x < nI n) ∧ (m 49 x.toNatClampNeg ≠ -1 ∧ m 52 x.toNatClampNeg = 0)) ∧ k = 0 ∧ m2 = a_u m 52 x.toNatClampNeg 1 ∧ ∃ m0 M P S, StEq m2 m0 ∧ SolR m0 M n P S ∧ v = nI (cntT (thB M) n)) ∨ (¬ ((0 ≤ x ∧ x < nI n) ∧ (m 49 x.toNatClampNeg ≠ -1 ∧ m 52 x.toNatClampNeg = 0)) ∧ k = 1 ∧ m2 = m)) kq vq mq) : MX12_remove 0 0 [.ref 44, .int x] T I J R (DP kq vq mq T I J R) := by
  have hi := hm.cg hL
  have hn30 := hm.1.1.n30
  by_cases hx : 0 ≤ x ∧ x < nI n
  · obtain ⟨x1, hx1, zz1⟩ := i_nat hx.1 hx.2 rfl (by omega)
    subst zz1
    simp only [nI_clamp (show x1 < 2147483648 by omega)] at hs
    have hfl := hm.1.1.fl x1 hx1
    rcases hs with ⟨hc, hk, hm2, m0, M, P, S, h0, hso, hv⟩ | ⟨hc, hk, hm2⟩
    · have h49 : 0 ≤ m 49 x1 := (hfl.resolve_left hc.2.1).1
      subst hk hm2
      refine AMet.mono (m_X12_removeT (I := I) (J := J) hT hR hi.1.1 hx1 (by rw [hL.r (q := 49) (by decide)]; exact h49) (by rw [hL.r (q := 52) (by decide)]; exact hc.2.2)) (fun o T2 I2 J2 R2 hp hQ => ?_)
      obtain ⟨e1, e2, e3, eJ, hlr⟩ := hQ
      have hL2 : LEq (a_u m 52 x1 1) (a_u (a_u I 44 61 0) 52 x1 1) := hL.s61.u rfl
      have hs9 : SW (a_u m 52 x1 1) n := hm.1.1.rm
      obtain ⟨I9, h1, e9, _⟩ := hso
      have w := LaysR_DQ (h0.sw hs9) (StEq.trans (StEq.sym h0) hL2.steq) h1 hlr
      have fr := hlr.fr
      rw [e1, e2, e3, eJ]
      refine ⟨rfl, rfl, ⟨_, rfl, fun _ => ?_⟩, ?_, ⟨fun o u v => ?_, fun k z1 z2 z3 z4 => ?_⟩, fun q hq => ?_, fun _ _ => rfl, hZ⟩
      · rw [hv]
        refine congrArg nI (cntT_cgx (fun s hs => ?_))
        show decide (I2 84 s ≠ 0) = decide (M 84 s ≠ 0)
        rw [(w.2 s hs).1, e9, a_u_row (by decide), a_u_row (by decide)]
      · rw [fr 44 (by decide), a_u_row (by decide), a_u_self]; rfl
      · rw [fr o (by omega)]; exact hL2.1 o u v
      · rw [fr 44 (by decide)]; exact hL2.2 k z1 z2 z3 z4
      · rw [fr q (by omega), a_u_row (by omega), a_u_row (by omega)]
    · have q := m_X12_removeF2 (I := I) (J := J) hT hR hi.1.1 hx1 (by
        rw [hL.r (q := 49) (by decide), hL.r (q := 52) (by decide)]
        by_cases z49 : m 49 x1 = -1
        · exact Or.inl (by rw [z49]; decide)
        · exact Or.inr (fun z52 => hc ⟨hx, z49, z52⟩))
      subst hm2
      exact AMet.mono q (DP.f (j := 1) hk (by decide) hL hZ)
  · rcases hs with ⟨hc, hk, hm2, _⟩ | ⟨hc, hk, hm2⟩
    · exact absurd hc.1 hx
    · have q := m_X12_removeF (I := I) (J := J) hT hR hi.1.1.2.1 x (fun z => hx ⟨z.1, (i_le_sub1 (by omega)).mp z.2⟩)
      subst hm2
      exact AMet.mono q (DP.f (j := 1) hk (by decide) hL hZ)
