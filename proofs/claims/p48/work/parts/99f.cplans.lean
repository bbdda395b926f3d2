/-! THE GHOST OF A QUERY: what lasts of m, what was found of M -/
def gst (m M : aI) : aI := fun o p => if 83 ≤ o then M o p else if o = 44 ∧ p = 57 then M 44 57 else m o p
theorem gst_lo {m M : aI} {o : Nat} (a : o < 83) (b : o ≠ 44) : gst m M o = m o := funext fun p => by unfold gst; rw [if_neg (by omega), if_neg (by omega)]
theorem gst_hi {m M : aI} {o : Nat} (a : 83 ≤ o) : gst m M o = M o := funext fun p => by unfold gst; rw [if_pos a]
theorem gst_4 {m M : aI} {k : Nat} (a : k ≠ 57) : gst m M 44 k = m 44 k := by unfold gst; rw [if_neg (by decide), if_neg (by omega)]
theorem gst_57 {m M : aI} : gst m M 44 57 = M 44 57 := by unfold gst; rw [if_neg (by decide), if_pos ⟨rfl, rfl⟩]
theorem G9.gsq {T : List aT} {I : aI} {J : aJ} {R : aR} {m : aI} {c n : Nat} {sq : Nat → Nat} {g : Nat} {gq eq : Nat → Nat} {r p : Nat} {pq : Nat → Nat} {k : Nat} (h9 : G9 T I J R m c n sq g gq eq r p pq k) {M : aI} {S : Nat → Int64} {mj : aJ} (hD : CDr I R M n sq) (h57 : I 8 2 = M 44 57) (hfo : ∀ f, f < 10 → I 11 f = sVl (M 44 57) S f) (hmj : mj 88 = S) : CGn T I R (gst m M) g gq ∧ CTy I (gst m M) ∧ CEn T I R (gst m M) eq ∧ (∀ f, f < 10 → I 11 f = sVal (gst m M) mj f) ∧ InvR (gst m M) g ∧ CSt T I R (gst m M) n sq ∧ SW (gst m M) n ∧ CFl I (gst m M) n sq ∧ I 8 2 = gst m M 44 57 := by
  have e : ∀ o, 45 ≤ o → o ≤ 82 → gst m M o = m o := fun o a b => gst_lo (by omega) (by omega)
  refine ⟨h9.ces.gn.cgm (e 62 (by decide) (by decide)) (e 63 (by decide) (by decide)) (e 64 (by decide) (by decide)) (e 65 (by decide) (by decide)), h9.ces.ty.cgm (e 58 (by decide) (by decide)) (e 59 (by decide) (by decide)) (e 60 (by decide) (by decide)) (e 61 (by decide) (by decide)), h9.ces.en.cgm (e 69 (by decide) (by decide)) (e 70 (by decide) (by decide)) (e 71 (by decide) (by decide)) (e 72 (by decide) (by decide)) (e 73 (by decide) (by decide)), fun f hf => ?_, InvR_cg h9.es.1 (fun o a b => e o (by omega) (by omega)) (gst_4 (by decide)), h9.cb.1.cgm (fun o a b => e o a (by omega)), SW_cgr h9.bk.1 (fun o a b => e o a (by omega)) (gst_4 (by decide)), fun s hs => ?_, h57.trans gst_57.symm⟩
  · rw [hfo f hf]; show _ = (if _ = _ then _ else _); rw [gst_57, hmj]
  · rw [gst_hi (by decide)]; exact (hD s hs).2.1
/-- when the comparison's rows change -/
theorem G9.cmp {T : List aT} {I : aI} {J : aJ} {R : aR} {m : aI} {c n : Nat} {sq : Nat → Nat} {g : Nat} {gq eq : Nat → Nat} {r p : Nat} {pq : Nat → Nat} {k : Nat} (h9 : G9 T I J R m c n sq g gq eq r p pq k) {I2 : aI} (hI : ∀ o, o < 33 ∨ 37 < o → I2 o = I o) : G9 T I2 J R m c n sq g gq eq r p pq k := h9.est (S := fun o => 33 ≤ o ∧ o ≤ 37) (List.prefix_refl _) (fun o _ _ z => hI o (by omega)) (fun _ _ _ _ => rfl) (fun o z => Or.inl (by omega)) h9.hR (h9.ces.frt h9.hT (List.prefix_refl _) (fun o u v => hI o (by omega)) (fun o u v _ _ => ⟨hI o (by omega), rfl⟩) rfl rfl) h9.es (Nat.le_refl _) (Nat.le_refl _) (fun _ _ => rfl) (fun _ _ _ _ => rfl) (fun _ _ _ z => z)
/-- what a list of actions is -/
def PlQ (m : aI) (n g : Nat) (A : Option (List Nat)) : Prop := ∃ m0 M P S mj w, StEq m m0 ∧ SolR m0 M n P S ∧ mj 88 = S ∧ TnL M (fun _ => P) n w ∧ ((cPv (gst m M) mj n g w = false ∧ A = none) ∨ (cPv (gst m M) mj n g w = true ∧ ∃ N G, LkR (gst m M) mj N G (16 * g) ∧ A = some (allA (a_ur (gst m M) 91 N) (16 * g))))
def GvQ (m : aI) (n g : Nat) (G : Nat → Int32) : Prop := ∃ m0 M P S mj N, StEq m m0 ∧ SolR m0 M n P S ∧ mj 88 = S ∧ LkR (gst m M) mj N G (16 * g)
/-- what stands in the comparison's list -/
def CLs (I : aI) (A : Option (List Nat)) : Prop := match A with | none => I 33 5 = -1 | some l => CLI I l
abbrev aLen (A : Option (List Nat)) : Int32 := match A with | none => -1 | some l => nI l.length
/-- listing, as the public methods do it -/
theorem m_listG {T : List aT} {I : aI} {J : aJ} {R : aR} {m : aI} {c n : Nat} {sq : Nat → Nat} {g : Nat} {gq eq : Nat → Nat} {r p : Nat} {pq : Nat → Nat} {k : Nat} (h9 : G9 T I J R m c n sq g gq eq r p pq k) {m0 M : aI} {P S : Nat → Int64} (hs : StEq m m0) (hso : SolR m0 M n P S) (hD : CDr I R M n sq) (h57 : I 8 2 = M 44 57) (hfo : ∀ f, f < 10 → I 11 f = sVl (M 44 57) S f) (htn : TnL M (fun _ => P) n (I 8 3)) : MX2_listActions 0 0 [.ref 33] T I J R (aRelV (fun v I2 J2 => J2 = J ∧ (∀ o, o < 33 ∨ 36 < o → I2 o = I o) ∧ ∃ A, PlQ m n g A ∧ CLs I2 A ∧ v = some (.int (aLen A))) T R) := by
  obtain ⟨q1, q2, q3, q4, q5, q6, q7, q8, q9⟩ := h9.gsq (mj := fun _ => S) hD h57 hfo rfl
  refine AMet.mono (m_X2_listActions h9.hT h9.hR q1 q5.1 q2 q3 q4 q5.2.1 q6 q7 q8 q9) (fun o T2 I2 J2 R2 hp hQ => ?_)
  obtain ⟨v, zz1, zz2, zz3, zzJ, zzQ⟩ := hQ
  refine ⟨v, zz1, zz2, zz3, zzJ, ?_⟩
  rcases zzQ with zz4 | zz5
  · exact ⟨fun o ho => by rw [zz4.2.1, a_u_row (by omega)], none, ⟨m0, M, P, S, _, _, hs, hso, rfl, htn, Or.inl ⟨zz4.1, rfl⟩⟩, by rw [zz4.2.1]; exact a_u_self, zz4.2.2⟩
  · obtain ⟨zz6, zzN, zzG, zz7, zz8⟩ := zz5
    exact ⟨zz7.1.1, some _, ⟨m0, M, P, S, _, _, hs, hso, rfl, htn, Or.inr ⟨zz6, zzN, zzG, zz7.2.2.2.1, rfl⟩⟩, zz7.2.2.2.2, zz8⟩
set_option maxRecDepth 100000 in
theorem m_X11_given {T : List aT} {I : aI} {J : aJ} {R : aR} {m : aI} {c n : Nat} {sq : Nat → Nat} {g : Nat} {gq eq : Nat → Nat} {r p : Nat} {pq : Nat → Nat} {k : Nat} (h9 : G9 T I J R m c n sq g gq eq r p pq k) (x a : Int32) : MX11_given 3 200 [.ref 0, .int x, .int a] T I J R (CP [exI] I J m c (fun k v m2 => (((0 ≤ x ∧ x < nI (16 * g)) ∧ (0 ≤ a ∧ a ≤ 2)) ∧ k = 0 ∧ (∃ G, GvQ m n g G ∧ v = G (3 * x + a).toNatClampNeg) ∧ m2 = m) ∨ (¬ ((0 ≤ x ∧ x < nI (16 * g)) ∧ (0 ≤ a ∧ a ≤ 2)) ∧ k = 1 ∧ m2 = m))) := by
  refine a_met (by decide +kernel) a_le (fun X hC hq => ?_)
  show AW X 0 0 0 [some (.ref 0), some (.int x), some (.int a)] [] T I J R
  have hT := h9.hT
  have hR := h9.hR
  have hG := h9.ces.gn
  have hg := h9.es.1.1
  have hg4 := hg.g4
  have hgn := hG.1
  have hE := h9.ces.en
  have hRs := h9.ces.rs
  have hr60 := hRs.r60
  have hY := h9.ces.ty
  refine aw_aload_n hC dX11_given_0 rfl ?_
  refine aw_getR hC dX11_given_1 aF_X11_28 rfl (tg_0 hT) (pr_0_2 hR) ?_
  refine aw_iload_n hC dX11_given_4 rfl ?_
  refine kX11_260 hC rfl (m_X4_isName (I := I) hT hR hgn x) dX11_given_5 (tg_19 hT) rfl a_le a_le a_le a_le a_le rfl aPure_x (aPure_k ?_)
  show AW X 0 0 8 [some (.ref 0), some (.int x), some (.int a)] [.int (bI (decide (0 ≤ x ∧ x < nI (16 * g))))] T I J R
  refine aw_if_eq (tgt := 23) hC dX11_given_8 (by decide) (fun h1 => ?_) (fun h1 => ?_)
  · show AW X 0 0 23 [some (.ref 0), some (.int x), some (.int a)] [] T I J R
    refine aw_iconst (v := 0) hC dX11_given_23 (by decide) ?_
    exact kX11_68 hC rfl (m_X11_needIndexF (T := T) (I := I) (J := J) (R := R)) dX11_given_24 rfl a_le a_le a_le a_le a_le rfl (aTh_x (ae_out hC hq a_le a_le (CP.th (j := 0) rfl (Or.inr ⟨fun q => by first | exact absurd q.1 (of_decide_eq_false (bI_e0.mp (by assumption))) | exact absurd (show 0 ≤ a ∧ a < 3 from ⟨q.2.1, i_lt3 q.2.2⟩) (of_decide_eq_false (bI_e0.mp (by assumption))), rfl, rfl⟩) h9.gi))) aTh_k
  · show AW X 0 0 11 [some (.ref 0), some (.int x), some (.int a)] [] T I J R
    refine aw_iload_n hC dX11_given_11 rfl ?_
    refine aw_iconst (v := 3) hC dX11_given_12 (by decide) ?_
    refine kX11_64 hC rfl (m_X11_isBelow a (3 : Int32)) dX11_given_13 rfl a_le a_le a_le a_le a_le rfl aPure_x (aPure_k ?_)
    show AW X 0 0 16 [some (.ref 0), some (.int x), some (.int a)] [.int (bI (decide (0 ≤ a ∧ a < (3 : Int32))))] T I J R
    refine aw_if_eq (tgt := 23) hC dX11_given_16 (by decide) (fun h2 => ?_) (fun h2 => ?_)
    · show AW X 0 0 23 [some (.ref 0), some (.int x), some (.int a)] [] T I J R
      refine aw_iconst (v := 0) hC dX11_given_23 (by decide) ?_
      exact kX11_68 hC rfl (m_X11_needIndexF (T := T) (I := I) (J := J) (R := R)) dX11_given_24 rfl a_le a_le a_le a_le a_le rfl (aTh_x (ae_out hC hq a_le a_le (CP.th (j := 0) rfl (Or.inr ⟨fun q => by first | exact absurd q.1 (of_decide_eq_false (bI_e0.mp (by assumption))) | exact absurd (show 0 ≤ a ∧ a < 3 from ⟨q.2.1, i_lt3 q.2.2⟩) (of_decide_eq_false (bI_e0.mp (by assumption))), rfl, rfl⟩) h9.gi))) aTh_k
    · show AW X 0 0 19 [some (.ref 0), some (.int x), some (.int a)] [] T I J R
      refine aw_iconst (v := 1) hC dX11_given_19 (by decide) ?_
      refine aw_goto (tgt := 24) hC dX11_given_20 (by decide) ?_
      refine kX11_68 hC rfl (m_X11_needIndexT (T := T) (I := I) (J := J) (R := R) (x := 1) (by decide)) dX11_given_24 rfl a_le a_le a_le a_le a_le rfl aPure_x (aPure_k ?_)
      show AW X 0 0 27 [some (.ref 0), some (.int x), some (.int a)] [] T I J R
      have hfcx : 0 ≤ x ∧ x < nI (16 * g) := of_decide_eq_true (bI_n0.mp (by assumption))
      obtain ⟨x1, hx1, ex1⟩ := i_nat (x := x) (b := 16 * g) hfcx.1 hfcx.2 rfl (by first | decide | omega)
      subst ex1
      have hfca : 0 ≤ a ∧ a < 3 := of_decide_eq_true (bI_n0.mp (by assumption))
      obtain ⟨a1, ha1, ea1⟩ := i_nat (x := a) (b := 3) hfca.1 hfca.2 rfl (by first | decide | omega)
      subst ea1
      show AW X 0 0 27 [some (.ref 0), some (.int (nI x1)), some (.int (nI a1))] [] T I J R
      refine aw_aload_n hC dX11_given_27 rfl ?_
      refine aw_getR hC dX11_given_28 aF_X11_21 rfl (tg_0 hT) (pr_0_1 hR) ?_
      refine kX11_113 hC rfl (m_settleG h9) dX11_given_31 (tg_8 hT) rfl a_le a_le a_le a_le a_le rfl aRelT_x (aRelT_k (fun v9 T9 I9 J9 R9 hp9 hQ => ?_))
      obtain ⟨ev9, hT9, hf9, hg9, m0, hs9, hl9⟩ := hQ
      rw [ev9, hT9]
      have hR9 := hg9.hR
      obtain ⟨M, P, S, hso, hD9, hC9, hP9, hS9, h57, hfo, htn, hcf, hSM, hcs, h53, hfx⟩ := hl9.use hs9 h9.bk hg9.cb.1
      show AW X 0 0 34 [some (.ref 0), some (.int (nI x1)), some (.int (nI a1))] [] T I9 J9 R9
      obtain ⟨q1, q2, q3, q4, q5, q6, q7, q8, q9⟩ := hg9.gsq (mj := fun _ => S) hD9 h57 hfo rfl
      refine aw_aload_n hC dX11_given_34 rfl ?_
      refine aw_getR hC dX11_given_35 aF_X11_37 rfl (tg_0 hT) (pr_0_3 hR9) ?_
      refine kX11_263 hC rfl (m_X2_lookAtAll hT hR9 q1 q5.1 q2 q3 q4 q5.2.1) dX11_given_38 (tg_33 hT) rfl a_le a_le a_le a_le a_le rfl aRelV_x (aRelV_k (fun v9 I8 J8 hQ => ?_))
      obtain ⟨ev8, hJ8, G8, N8, hI8, hk8⟩ := hQ
      rw [ev8, hJ8, hI8]
      show AW X 0 0 41 [some (.ref 0), some (.int (nI x1)), some (.int (nI a1))] [] T (a_ur (a_ur I9 34 G8) 36 N8) J9 R9
      refine aw_aload_n hC dX11_given_41 rfl ?_
      refine aw_getR hC dX11_given_42 aF_X11_37 rfl (tg_0 hT) (pr_0_3 hR9) ?_
      refine aw_getR hC dX11_given_45 aF_X11_266 rfl (tg_33 hT) (pr_33_0 hR9) ?_
      refine aw_iload_n hC dX11_given_48 rfl ?_
      refine aw_iconst (v := 3) hC dX11_given_49 (by decide) ?_
      refine aw_imul hC dX11_given_50 ?_
      rw [show (nI x1) * 3 = nI (x1 * 3) from pk_mul x1 3]
      refine aw_iload_n hC dX11_given_51 rfl ?_
      refine aw_iadd hC dX11_given_52 ?_
      rw [show (nI (x1 * 3)) + (nI a1) = nI ((x1 * 3) + a1) from nI_add (x1 * 3) a1]
      refine aw_iaload_k (j := ((x1 * 3) + a1)) hC dX11_given_53 (tg_34 hT) (nI_clamp (by omega)) (vp_in_nI (by omega) (by decide)) ?_
      rw [a_ur_ne (f := a_ur I9 34 G8) (o := 36) (a := 34) (g := N8) (by decide)]
      rw [a_ur_self (f := I9) (o := 34) (g := G8)]
      exact aw_ireturn hC hq rfl dX11_given_54 a_le a_le (CP.ok (Or.inl ⟨⟨hfcx, hfca.1, i_le2 hfca.2⟩, rfl, ⟨G8, ⟨m0, M, P, S, _, N8, hs9, hso, rfl, hk8⟩, by rw [at3 (by omega) (by omega), Nat.mul_comm]⟩, rfl⟩) (fun o u v => ⟨by rw [a_ur_ne (by omega), a_ur_ne (by omega)]; exact (hf9 o u v).1, (hf9 o u v).2⟩) (hg9.cmp (fun o ho => by rw [a_ur_ne (by omega), a_ur_ne (by omega)])).gi)
set_option maxRecDepth 100000 in
theorem m_X11_pending {T : List aT} {I : aI} {J : aJ} {R : aR} {m : aI} {c n : Nat} {sq : Nat → Nat} {g : Nat} {gq eq : Nat → Nat} {r p : Nat} {pq : Nat → Nat} {k : Nat} (h9 : G9 T I J R m c n sq g gq eq r p pq k)  : MX11_pending 3 200 [.ref 0] T I J R (CP [] I J m c (fun k v m2 => k = 0 ∧ (∃ A, PlQ m n g A ∧ v = aLen A) ∧ m2 = m)) := by
  refine a_met (by decide +kernel) a_le (fun X hC hq => ?_)
  show AW X 0 0 0 [some (.ref 0)] [] T I J R
  have hT := h9.hT
  have hR := h9.hR
  refine aw_aload_n hC dX11_pending_0 rfl ?_
  refine aw_getR hC dX11_pending_1 aF_X11_21 rfl (tg_0 hT) (pr_0_1 hR) ?_
  refine kX11_113 hC rfl (m_settleG h9) dX11_pending_4 (tg_8 hT) rfl a_le a_le a_le a_le a_le rfl aRelT_x (aRelT_k (fun v9 T9 I9 J9 R9 hp9 hQ => ?_))
  obtain ⟨ev9, hT9, hf9, hg9, m0, hs9, hl9⟩ := hQ
  rw [ev9, hT9]
  have hR9 := hg9.hR
  obtain ⟨M, P, S, hso, hD9, hC9, hP9, hS9, h57, hfo, htn, hcf, hSM, hcs, h53, hfx⟩ := hl9.use hs9 h9.bk hg9.cb.1
  show AW X 0 0 7 [some (.ref 0)] [] T I9 J9 R9
  refine aw_aload_n hC dX11_pending_7 rfl ?_
  refine aw_getR hC dX11_pending_8 aF_X11_37 rfl (tg_0 hT) (pr_0_3 hR9) ?_
  refine kX11_269 hC rfl (m_listG hg9 hs9 hso hD9 h57 hfo htn) dX11_pending_11 (tg_33 hT) rfl a_le a_le a_le a_le a_le rfl aRelV_x (aRelV_k (fun v9 I8 J8 hQ => ?_))
  obtain ⟨hJ8, hI8, A8, hA8, hL8, ev8⟩ := hQ
  rw [ev8, hJ8]
  have hg8 := hg9.cmp (I2 := I8) (fun o ho => hI8 o (by omega))
  show AW X 0 0 14 [some (.ref 0)] [.int (aLen A8)] T I8 J9 R9
  exact aw_ireturn hC hq rfl dX11_pending_14 a_le a_le (CP.ok ⟨rfl, ⟨A8, hA8, rfl⟩, rfl⟩ (fun o u v => ⟨(hI8 o (by omega)).trans (hf9 o u v).1, (hf9 o u v).2⟩) hg8.gi)
