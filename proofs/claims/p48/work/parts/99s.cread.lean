theorem rdN_69 {m : aI} {c : Int32} {mj : aJ} {g x : Nat} : ∀ k, (rdN m c mj g k).1 69 x = m 69 x ∨ (rdN m c mj g k).1 69 x = 0
  | 0 => Or.inl rfl
  | k + 1 => by
    have ih := rdN_69 (m := m) (c := c) (mj := mj) (g := g) (x := x) k
    show (rdX (rdN m c mj g k).1 c mj g k).1 69 x = m 69 x ∨ (rdX (rdN m c mj g k).1 c mj g k).1 69 x = 0
    by_cases h0 : iN (rdN m c mj g k).1 69 k = 0
    · rw [rdX_0 h0]; exact ih
    · obtain ⟨q9, e9⟩ : ∃ q9, iN (rdN m c mj g k).1 69 k = q9 + 1 := ⟨iN (rdN m c mj g k).1 69 k - 1, by omega⟩
      by_cases hg : (rdN m c mj g k).1 68 q9 = 0
      · rw [rdX_2 e9 hg]
        show (rdA (rdN m c mj g k).1 c mj g k 3).1 69 x = m 69 x ∨ (rdA (rdN m c mj g k).1 c mj g k 3).1 69 x = 0
        rw [rdA_fr (by decide)]; exact ih
      · rw [rdX_1 e9 hg]
        show a_u (rdN m c mj g k).1 69 k 0 69 x = m 69 x ∨ a_u (rdN m c mj g k).1 69 k 0 69 x = 0
        by_cases zc : x = k
        · rw [zc, a_u_self]; exact Or.inr rfl
        · rw [a_u_ne (fun z => zc z.2)]; exact ih
theorem InvV.pos {m : aI} {g : Nat} (hg : GW m g) (h : InvV m g) : ∀ x a, x < 64 → a < 3 → m 69 x ≠ 0 → 0 ≤ m 70 (3 * x + a) := fun x a hx ha h0 => by
  have q := h.1 x a hx ha h0
  have hu := ux3 hg hx
  have hp := p2_4 _ hu
  rw [q.1]; exact nI_pos' (by have := Nat.mul_le_mul_left 255 hp.2; omega)
theorem rdS_o {m : aI} {cc : Int32} {mj : aJ} {g q : Nat} (h : q ≠ 44) : rdS m cc mj g q = (rdN m cc mj g (16 * g)).1 q := by unfold rdS; exact a_u_row h
theorem rdS_4 {m : aI} {cc : Int32} {mj : aJ} {g j : Nat} (h : j ≠ 35) : rdS m cc mj g 44 j = m 44 j := by unfold rdS; rw [a_u_ne (fun z => h z.2), rdN_frA 44 (by decide) (by decide) (by decide) (by decide)]
theorem rdS_35 {m : aI} {cc : Int32} {mj : aJ} {g : Nat} : rdS m cc mj g 44 35 = m 44 35 + (if 0 < (rdN m cc mj g (16 * g)).2.1 + (rdN m cc mj g (16 * g)).2.2 then 1 else 0) := by unfold rdS; exact a_u_self
theorem rd_g9 {T : List aT} {I : aI} {J : aJ} {R : aR} {m : aI} {c n : Nat} {sq : Nat → Nat} {g : Nat} {gq eq : Nat → Nat} {r p : Nat} {pq : Nat → Nat} {k : Nat} (h9 : G9 T I J R m c n sq g gq eq r p pq k) {I3 : aI} {R2 : aR} {cc : Int32} {mj : aJ} {N : Nat → Int32} (hu : m 44 45 < 0) (hrd : RdI T I R cc mj eq (rdN m cc mj g (16 * g)).1 (16 * g) N I3 R2) : G9 T (a_u I3 19 8 (m 44 35 + (if 0 < (rdN m cc mj g (16 * g)).2.1 + (rdN m cc mj g (16 * g)).2.2 then 1 else 0))) J R2 (rdS m cc mj g) c n sq g gq eq r p pq k := by
  have hT := h9.hT
  have h95 := hT.len
  obtain ⟨r1, r2, r3, r4, r5, r6⟩ := hrd
  have es : ∀ q, q ≠ 44 → rdS m cc mj g q = (rdN m cc mj g (16 * g)).1 q := fun q z => rdS_o z
  have fr : ∀ q, q ≠ 44 → q ≠ 69 → q ≠ 70 → q ≠ 72 → q ≠ 73 → rdS m cc mj g q = m q := fun q z z1 z2 z3 z4 => (es q z).trans (rdN_frA q z1 z2 z3 z4)
  have lo : ∀ q, q < 44 → q ≠ 19 → q ≠ 34 → q ≠ 36 → (a_u I3 19 8 (m 44 35 + (if 0 < (rdN m cc mj g (16 * g)).2.1 + (rdN m cc mj g (16 * g)).2.2 then 1 else 0))) q = I q := fun q z z1 z2 z3 => by rw [a_u_row z1]; exact r2 q (enO_lo hT z) z2 z3
  have l19 : ∀ j, j ≠ 8 → (a_u I3 19 8 (m 44 35 + (if 0 < (rdN m cc mj g (16 * g)).2.1 + (rdN m cc mj g (16 * g)).2.2 then 1 else 0))) 19 j = I 19 j := fun j z => by rw [a_u_ne (fun w => z w.2), r2 19 (enO_lo hT (by decide)) (by decide) (by decide)]
  have hi := h9.es.1.qN (c := cc) (mj := mj) (16 * g) (Nat.le_refl _)
  have hi2 : InvR (rdS m cc mj g) g := InvR_cg hi (fun q z1 z2 => es q (by omega)) (by rw [rdS_4 (by decide), rdN_frA 44 (by decide) (by decide) (by decide) (by decide)])
  refine h9.est (S := fun q => q = 19 ∨ q = 25 ∨ q = 34 ∨ q = 36) (List.prefix_refl _) (fun q _ z1 z2 => by rw [a_u_row (fun z => z2 (Or.inl z))]; exact r2 q z1 (fun z => z2 (Or.inr (Or.inr (Or.inl z)))) (fun z => z2 (Or.inr (Or.inr (Or.inr z))))) (fun q _ z1 z2 => r3 q (fun z => z2 (Or.inr (Or.inl z)))) (fun q z => Or.inl (by omega)) r4 ⟨?_, ?_, ?_, ?_, ?_, ?_⟩ ⟨hi2, ⟨?_, ?_⟩, ?_, ?_, ?_⟩ (Nat.le_refl _) (Nat.le_refl _) (fun q z => fr q (by omega) (by omega) (by omega) (by omega) (by omega)) (fun k _ _ z => rdS_4 z) (fun z => ?_)
  · exact (h9.ces.gn.fe hT (l19 2 (by decide)) (fun q z1 z2 => by rw [a_u_row (by omega)]; exact r2 q z2 (by omega) (by omega)) (r3 21 (by decide)) (fun q z => r3 q (by omega))).cgm (fr 62 (by decide) (by decide) (by decide) (by decide) (by decide)) (fr 63 (by decide) (by decide) (by decide) (by decide) (by decide)) (fr 64 (by decide) (by decide) (by decide) (by decide) (by decide)) (fr 65 (by decide) (by decide) (by decide) (by decide) (by decide))
  · exact (h9.ces.ty.fr (fun q z1 z2 => lo q (by omega) (by omega) (by omega) (by omega))).cgm (fr 58 (by decide) (by decide) (by decide) (by decide) (by decide)) (fr 59 (by decide) (by decide) (by decide) (by decide) (by decide)) (fr 60 (by decide) (by decide) (by decide) (by decide) (by decide)) (fr 61 (by decide) (by decide) (by decide) (by decide) (by decide))
  · have q := h9.ces.rs
    unfold CRs at *
    rw [l19 6 (by decide), lo 22 (by decide) (by decide) (by decide) (by decide), lo 23 (by decide) (by decide) (by decide) (by decide), lo 24 (by decide) (by decide) (by decide) (by decide), rdS_4 (by decide), fr 66 (by decide) (by decide) (by decide) (by decide) (by decide), fr 67 (by decide) (by decide) (by decide) (by decide) (by decide), fr 68 (by decide) (by decide) (by decide) (by decide) (by decide)]
    exact q
  · exact (r1.fr hT (fun q z => a_u_row (by omega))).cgm (es 69 (by decide)) (es 70 (by decide)) (es 71 (by decide)) (es 72 (by decide)) (es 73 (by decide))
  · rw [rdS_35]; exact a_u_self
  · intro x hx
    rw [lo 26 (by decide) (by decide) (by decide) (by decide), fr 74 (by decide) (by decide) (by decide) (by decide) (by decide)]; exact h9.ces.md hx
  · have q := h9.es.2.1.1
    unfold iN at *
    rw [fr 58 (by decide) (by decide) (by decide) (by decide) (by decide), fr 62 (by decide) (by decide) (by decide) (by decide) (by decide), fr 65 (by decide) (by decide) (by decide) (by decide) (by decide)]; exact q
  · exact hi2.2.2.1.pos hi2.1
  · exact m74_cg h9.es.2.2.1 (fr 74 (by decide) (by decide) (by decide) (by decide) (by decide)) (Nat.le_refl _)
  · intro x hx h0
    rw [es 69 (by decide)] at h0
    unfold iN
    rw [es 69 (by decide)]
    rcases rdN_69 (m := m) (c := cc) (mj := mj) (g := g) (x := x) (16 * g) with e | e
    · rw [e] at h0 ⊢; exact h9.es.2.2.2.1 x hx h0
    · exact absurd e h0
  · exact h9.es.2.2.2.2.cgm (fr 63 (by decide) (by decide) (by decide) (by decide) (by decide)) (fr 64 (by decide) (by decide) (by decide) (by decide) (by decide)) (fr 65 (by decide) (by decide) (by decide) (by decide) (by decide)) (fr 67 (by decide) (by decide) (by decide) (by decide) (by decide))
  · rcases h9.pl.2.2.2.2.2.2.2 with e | ⟨i, a, _, _, _, _, w, _⟩
    · rw [e] at z; exact absurd z (by decide)
    · exact absurd hu (Int32.not_lt.mpr w)
set_option maxRecDepth 100000 in
theorem m_X11_read {T : List aT} {I : aI} {J : aJ} {R : aR} {m : aI} {c n : Nat} {sq : Nat → Nat} {g : Nat} {gq eq : Nat → Nat} {r p : Nat} {pq : Nat → Nat} {k : Nat} (h9 : G9 T I J R m c n sq g gq eq r p pq k)  : MX11_read 3 200 [.ref 0] T I J R (CP [exS] I J m c (fun k v m2 => (m 44 45 < 0 ∧ k = 0 ∧ ∃ m0 M P S, StEq m m0 ∧ SolR m0 M n P S ∧ v = nI (100 * (rdN m (M 44 57) (fun _ => S) g (16 * g)).2.1 + (rdN m (M 44 57) (fun _ => S) g (16 * g)).2.2) ∧ m2 = rdS m (M 44 57) (fun _ => S) g) ∨ (¬ m 44 45 < 0 ∧ k = 1 ∧ m2 = m))) := by
  refine a_met (by decide +kernel) a_le (fun X hC hq => ?_)
  show AW X 0 0 0 [some (.ref 0)] [] T I J R
  have hT := h9.hT
  have hR := h9.hR
  refine aw_aload_n hC dX11_read_0 rfl ?_
  refine aw_getR hC dX11_read_1 aF_X11_46 rfl (tg_0 hT) (pr_0_4 hR) ?_
  refine aw_getI hC dX11_read_4 aF_X11_254 rfl (tg_38 hT) ?_
  rw [h9.cap.2.2.1]
  refine aw_if_ne (tgt := 14) hC dX11_read_7 (by decide) (fun h1 => ?_) (fun h1 => ?_)
  · show AW X 0 0 14 [some (.ref 0)] [] T I J R
    refine aw_iconst (v := 0) hC dX11_read_14 (by decide) ?_
    exact kX11_88 hC rfl (m_X11_needStateF (T := T) (I := I) (J := J) (R := R)) dX11_read_15 rfl a_le a_le a_le a_le a_le rfl (aTh_x (ae_out hC hq a_le a_le (CP.th (j := 0) rfl (Or.inr ⟨fun q => absurd q (Int32.not_lt.mpr (of_decide_eq_true (bI_n0.mp (by assumption)))), rfl, rfl⟩) h9.gi))) aTh_k
  · show AW X 0 0 10 [some (.ref 0)] [] T I J R
    refine aw_iconst (v := 1) hC dX11_read_10 (by decide) ?_
    refine aw_goto (tgt := 15) hC dX11_read_11 (by decide) ?_
    refine kX11_88 hC rfl (m_X11_needStateT (T := T) (I := I) (J := J) (R := R) (x := 1) (by decide)) dX11_read_15 rfl a_le a_le a_le a_le a_le rfl aPure_x (aPure_k ?_)
    show AW X 0 0 18 [some (.ref 0)] [] T I J R
    refine aw_aload_n hC dX11_read_18 rfl ?_
    refine aw_getR hC dX11_read_19 aF_X11_21 rfl (tg_0 hT) (pr_0_1 hR) ?_
    refine kX11_113 hC rfl (m_settleG h9) dX11_read_22 (tg_8 hT) rfl a_le a_le a_le a_le a_le rfl aRelT_x (aRelT_k (fun v9 T9 I9 J9 R9 hp9 hQ => ?_))
    obtain ⟨ev9, hT9, hf9, hg9, m0, hs9, hl9⟩ := hQ
    rw [ev9, hT9]
    have hR9 := hg9.hR
    obtain ⟨M, P, S, hso, hD9, hC9, hP9, hS9, h57, hfo, htn, hcf, hSM, hcs, h53, hfx⟩ := hl9.use hs9 h9.bk hg9.cb.1
    show AW X 0 0 25 [some (.ref 0)] [] T I9 J9 R9
    have hV9 : ∀ f, f < 10 → I9 11 f = sVal (a_u m 44 57 (M 44 57)) (fun _ => S) f := fun f hf => by rw [hfo f hf]; show _ = (if _ = _ then _ else _); rw [a_u_self]
    refine aw_aload_n hC dX11_read_25 rfl ?_
    refine aw_getR hC dX11_read_26 aF_X11_37 rfl (tg_0 hT) (pr_0_3 hR9) ?_
    refine kX11_348 hC rfl (m_X2_readWorld hT hR9 hg9.ces.gn h9.es.1 hg9.ces.ty hg9.ces.en hg9.ces.rs hg9.ces.sr (c := M 44 57) (mj := fun _ => S) hV9) dX11_read_29 (tg_33 hT) rfl a_le a_le a_le a_le a_le rfl aRelT_x (aRelT_k (fun v9 T9 I8 J8 R8 hp9 hQ => ?_))
    obtain ⟨hT8, hJ8, ev8, N8, I3, hrd8, hI8⟩ := hQ
    rw [ev8, hJ8, hT8]
    show AW X 0 0 32 [some (.ref 0)] [.int (nI (100 * (rdN m (M 44 57) (fun _ => S) g (16 * g)).2.1 + (rdN m (M 44 57) (fun _ => S) g (16 * g)).2.2))] T I8 J9 R8
    exact aw_ireturn hC hq rfl dX11_read_32 a_le a_le (CP.ok (Or.inl ⟨(Int32.not_le.mp (of_decide_eq_false (bI_e0.mp (by assumption)))), rfl, m0, M, P, S, hs9, hso, rfl, rfl⟩) (fun o u v => ⟨by rw [hI8, a_u_row (by omega)]; exact (hrd8.2.1 o (enO_lo hT v) (by omega) (by omega)).trans (hf9 o u v).1, (hf9 o u v).2⟩) (by have q9 := rd_g9 hg9 (Int32.not_le.mp (of_decide_eq_false (bI_e0.mp (by assumption)))) hrd8; rw [← hI8] at q9; exact q9.gi))
