theorem CSt.ne {T : List aT} {I : aI} {R : aR} {m : aI} {n s q : Nat} {sq : Nat → Nat} {t : aT} (h : CSt T I R m n sq) (hs : s < n) (ho : T[q]? = some t) (hc : t ≠ .inr 8) : sq s ≠ q := fun e => by
  have := (h.at hs).1
  rw [e, ho] at this
  exact hc (Option.some.inj this)
theorem CSt.cg {T : List aT} {I I2 : aI} {R : aR} {m : aI} {n : Nat} {sq : Nat → Nat} (h : CSt T I R m n sq) (h1 : I2 1 1 = I 1 1) (h2 : ∀ s, s < n → ∀ k, k < 8 → I2 (sq s) k = I (sq s) k) : CSt T I2 R m n sq :=
  ⟨h1.trans h.1, fun s hs => ⟨h.rf hs, by
    have g := h2 s hs
    have q := h.at hs
    unfold StAt at *
    rw [g 0 (by omega), g 1 (by omega), g 2 (by omega), g 3 (by omega), g 4 (by omega), g 5 (by omega), g 6 (by omega), g 7 (by omega)]; exact q⟩, h.2.2⟩
theorem CSt.put {T : List aT} {I : aI} {R : aR} {m : aI} {n a k : Nat} {sq : Nat → Nat} {t : aT} {v : Int32} (h : CSt T I R m n sq) (ho : T[a]? = some t) (hc : t ≠ .inr 8) (h1 : 1 ≠ a) : CSt T (a_u I a k v) R m n sq := h.cg (by rw [a_u_row h1]) (fun s hs _ _ => by rw [a_u_row (h.ne hs ho hc)])
theorem CDr.cg {I I2 : aI} {R : aR} {m : aI} {n : Nat} {sq : Nat → Nat} (h : CDr I R m n sq) (h2 : ∀ s, s < n → I2 (sq s) 8 = I (sq s) 8 ∧ I2 (sq s) 10 = I (sq s) 10) : CDr I2 R m n sq := fun s hs => by rw [(h2 s hs).1, (h2 s hs).2]; exact h s hs
theorem CDr.put {T : List aT} {I : aI} {R : aR} {m : aI} {n a k : Nat} {sq : Nat → Nat} {t : aT} {v : Int32} (h : CDr I R m n sq) (hSt : CSt T I R m n sq) (ho : T[a]? = some t) (hc : t ≠ .inr 8) : CDr (a_u I a k v) R m n sq := h.cg (fun s hs => by rw [a_u_row (hSt.ne hs ho hc)]; exact ⟨rfl, rfl⟩)
/-- whether a statement counts, by the sets P, stands in its thing -/
def CCn (I : aI) (m : aI) (P : Nat → Int64) (n : Nat) (sq : Nat → Nat) : Prop := ∀ s, s < n → I (sq s) 9 = bI (decide (cOn m P s))
theorem CCn.put {T : List aT} {I : aI} {R : aR} {m : aI} {P : Nat → Int64} {n a k : Nat} {sq : Nat → Nat} {t : aT} {v : Int32} (h : CCn I m P n sq) (hSt : CSt T I R m n sq) (ho : T[a]? = some t) (hc : t ≠ .inr 8) : CCn (a_u I a k v) m P n sq := fun s hs => by rw [a_u_row (hSt.ne hs ho hc)]; exact h s hs
theorem st_flds {T : List aT} {I : aI} {m : aI} {n s q : Nat} (h : StAt T I m q s) (hS : SW m n) (hs : s < n) : (iBit (I q 3) ||| (if I q 2 = 5 ∨ I q 2 = 6 then iBit (I q 4) else 0)) = tBoth m s := by
  unfold tBoth
  rw [h.2.2.2.2.1, h.2.2.2.2.2.1, h.2.2.2.1, ← (hS.fd s hs).1, ← (hS.on s hs).1]
/-- a statement taints what it is about -/
abbrev tnP (m : aI) (mj : aJ) (s : Nat) (v : Int32) : Prop := m 84 s ≠ 0 ∧ m 45 s < 7 ∧ m 86 s = 0 ∧ tnW m mj s (fun j => bt v j = true)
noncomputable def tnA (m : aI) (mj : aJ) (s : Nat) (v : Int32) : Bool := @decide (tnP m mj s v) (Classical.propDecidable _)
theorem tnA_iff {m : aI} {mj : aJ} {s : Nat} {v : Int32} : tnA m mj s v = true ↔ tnP m mj s v := by unfold tnA; exact @decide_eq_true_iff _ (Classical.propDecidable _)
theorem tnA_n {m : aI} {mj : aJ} {s : Nat} {v : Int32} (h : ¬ tnP m mj s v) : (0 : Int32) = bI (tnA m mj s v) := by
  cases e : tnA m mj s v with
  | false => rfl
  | true => exact absurd (tnA_iff.mp e) h
theorem tnA_y {m : aI} {mj : aJ} {s : Nat} {v : Int32} (h : tnP m mj s v) : (1 : Int32) = bI (tnA m mj s v) := by rw [tnA_iff.mpr h]; rfl
theorem gf_nI {m : aI} {n s g : Nat} (hS : SW m n) (hg : g < n) (h : m 85 s = nI g) : gfld m s = iN m 46 g ∧ 0 ≤ m 85 s := by
  have hn := hS.n30
  unfold gfld iN
  rw [h, nI_clamp (by omega)]; exact ⟨rfl, nI_pos' (by omega)⟩
theorem TnI.cl {m : aI} {mj : aJ} {n k : Nat} {v w : Int32} (hS : SW m n) (hk : k < n) (h : TnI m mj n k v w) (h11 : m 84 k ≠ 0 → m 45 k = 11 → bt v (iN m 46 k) = true) : (tnA m mj k w = true → TnI m mj n (k + 1) v (w ||| tBoth m k)) ∧ (tnA m mj k w = false → TnI m mj n (k + 1) v w) := by
  refine ⟨fun e => ?_, fun e => ?_⟩
  · have q := tnA_iff.mp e
    have r := tn_7 hS hk h q.1 ((hS.k7 hk).mp q.2.1) q.2.2.1
    rw [← tnV_y q.2.2.2] at r; exact r
  · have ne : ¬ tnP m mj k w := fun q => by rw [tnA_iff.mpr q] at e; cases e
    by_cases h84 : m 84 k = 0
    · exact h.skip (fun q => absurd h84 q)
    by_cases h7 : m 45 k < 7
    · by_cases h86 : m 86 k = 0
      · have r := tn_7 hS hk h h84 ((hS.k7 hk).mp h7) h86
        rw [← tnV_n (fun q => ne ⟨h84, h7, h86, q⟩), Int32.or_zero] at r; exact r
      · exact h.skip (fun q => ⟨fun z => h11 q z, fun _ z => absurd z h86⟩)
    · exact h.skip (fun q => ⟨fun z => h11 q z, fun z => absurd z h7⟩)
/-- the secrets among the first k statements -/
def T11 (m : aI) (mj : aJ) (n k : Nat) (v : Int32) : Prop := (∀ j, 10 ≤ j → bt v j = false) ∧ (∀ W : Nat → Prop, TnC m mj n W → ∀ j, bt v j = true → W j) ∧ ∀ s, s < k → m 84 s ≠ 0 → m 45 s = 11 → bt v (iN m 46 s) = true
theorem T11.z {m : aI} {mj : aJ} {n : Nat} : T11 m mj n 0 0 := ⟨fun j _ => b_0 j, fun W _ j hj => (by rw [b_0] at hj; cases hj), fun s hs => absurd hs (by omega)⟩
theorem T11.no {m : aI} {mj : aJ} {n k : Nat} {v : Int32} (h : T11 m mj n k v) (hn : m 84 k = 0 ∨ ¬ m 45 k = 11) : T11 m mj n (k + 1) v := ⟨h.1, h.2.1, fun s hs a b => by
  by_cases c : s = k
  · rw [c] at a b; rcases hn with q | q; exact absurd q a; exact absurd b q
  · exact h.2.2 s (by omega) a b⟩
theorem T11.ys {m : aI} {mj : aJ} {n k : Nat} {v : Int32} (hS : SW m n) (hk : k < n) (h : T11 m mj n k v) (h0 : m 84 k ≠ 0) (h11 : m 45 k = 11) : T11 m mj n (k + 1) (v ||| iBit (nI (iN m 46 k))) := by
  have hf := (hS.fd k hk).2
  refine ⟨fun j hj => ?_, fun W hW j hj => ?_, fun s hs a b => ?_⟩
  · rw [b_or, h.1 j hj]
    by_cases c : j < 32
    · rw [bt_bit (by omega) c]; simp; omega
    · rw [b_big (by omega)]; rfl
  · rw [b_or, Bool.or_eq_true] at hj
    refine hj.elim (h.2.1 W hW j) (fun q => ?_)
    have c : j < 32 := Nat.lt_of_not_le (fun c => by rw [b_big c] at q; cases q)
    rw [bt_bit (by omega) c] at q
    have : j = iN m 46 k := by simpa using q
    rw [this]; exact (hW k hk h0).1 h11
  · by_cases c : s = k
    · rw [c, b_or, bt_bit (by omega) (by omega)]; simp
    · rw [b_or, h.2.2 s (by omega) a b]; rfl
theorem cOn_h {m : aI} {P : Nat → Int64} {s : Nat} (h : cOn m P s) (h53 : m 44 53 = 0) : hOn m P s := h.elim (fun q => q.2.2.2.2) (fun q => absurd h53 q.1)
theorem h_cOn {m : aI} {P : Nat → Int64} {s : Nat} (h1 : m 84 s ≠ 0) (h2 : m 45 s < 7) (h3 : m 86 s = 0) (h53 : m 44 53 = 0) (h : hOn m P s) : cOn m P s := Or.inl ⟨h53, h1, h2, h3, h⟩
set_option maxRecDepth 100000 in
theorem m_X10_isTainting {T : List aT} {I : aI} {J : aJ} {R : aR} (hT : aPT T) (hR : aPR R) {m : aI} {n : Nat} {sq : Nat → Nat} (hSt : CSt T I R m n sq) (hD : CDr I R m n sq) (hS : SW m n) (h53 : m 44 53 = 0) {mj : aJ} (hCn : CCn I m (mj 89) n sq) {s : Nat} (hs : s < n) : MX10_isTainting 0 0 [.ref 8, .ref (sq s)] T I J R (aPure (some (.int (bI (tnA m mj s (I 8 3))))) T I J R) := by
  refine a_met (by decide +kernel) a_le (fun X hC hq => ?_)
  show AW X 0 0 0 [some (.ref 8), some (.ref (sq s))] [] T I J R
  refine aw_aload_n hC dX10_isTainting_0 rfl ?_
  refine aw_getI hC dX10_isTainting_1 aF_X10_121 rfl (hSt.at hs).1 ?_
  refine aw_if_eq (tgt := 21) hC dX10_isTainting_4 (by decide) (fun h1 => ?_) (fun h1 => ?_)
  · show AW X 0 0 21 [some (.ref 8), some (.ref (sq s))] [] T I J R
    refine aw_iconst (v := 0) hC dX10_isTainting_21 (by decide) ?_
    exact aw_zreturn hC hq rfl (Or.inl rfl) dX10_isTainting_22 a_le a_le (aPure_i (tnA_n (fun q => by first | exact q.1 (by rw [← (hD s hs).1]; assumption) | exact absurd (i_7.mpr q.2.1) (by have h9 := bI_d0.mp (by assumption); rw [(hSt.at hs).2.2.2.1] at h9; exact h9) | exact absurd q.2.2.1 (by rw [← (hD s hs).2.1]; assumption))))
  · show AW X 0 0 7 [some (.ref 8), some (.ref (sq s))] [] T I J R
    refine aw_aload_n hC dX10_isTainting_7 rfl ?_
    refine kX10_124 hC rfl (m_X8_isNarrowing (hSt.at hs).1) dX10_isTainting_8 (hSt.at hs).1 rfl a_le a_le a_le a_le a_le rfl aPure_x (aPure_k ?_)
    show AW X 0 0 11 [some (.ref 8), some (.ref (sq s))] [.int (bI (decide (I (sq s) 2 ≤ 6)))] T I J R
    refine aw_if_eq (tgt := 21) hC dX10_isTainting_11 (by decide) (fun h2 => ?_) (fun h2 => ?_)
    · show AW X 0 0 21 [some (.ref 8), some (.ref (sq s))] [] T I J R
      refine aw_iconst (v := 0) hC dX10_isTainting_21 (by decide) ?_
      exact aw_zreturn hC hq rfl (Or.inl rfl) dX10_isTainting_22 a_le a_le (aPure_i (tnA_n (fun q => by first | exact q.1 (by rw [← (hD s hs).1]; assumption) | exact absurd (i_7.mpr q.2.1) (by have h9 := bI_d0.mp (by assumption); rw [(hSt.at hs).2.2.2.1] at h9; exact h9) | exact absurd q.2.2.1 (by rw [← (hD s hs).2.1]; assumption))))
    · show AW X 0 0 14 [some (.ref 8), some (.ref (sq s))] [] T I J R
      refine aw_aload_n hC dX10_isTainting_14 rfl ?_
      refine aw_getI hC dX10_isTainting_15 aF_X10_127 rfl (hSt.at hs).1 ?_
      refine aw_if_eq (tgt := 23) hC dX10_isTainting_18 (by decide) (fun h3 => ?_) (fun h3 => ?_)
      · show AW X 0 0 23 [some (.ref 8), some (.ref (sq s))] [] T I J R
        have hth : m 84 s ≠ 0 := by rw [← (hD s hs).1]; assumption
        have h45 : m 45 s < 7 := i_7.mp (by have h9 := bI_dn.mp (by assumption); rw [(hSt.at hs).2.2.2.1] at h9; exact h9)
        have h86 : m 86 s = 0 := by rw [← (hD s hs).2.1]; assumption
        rcases (hD s hs).2.2 hth h45 with ⟨g1, g2⟩ | ⟨g, g1, g2, g3⟩
        · show AW X 0 0 23 [some (.ref 8), some (.ref (sq s))] [] T I J R
          have hnt : ¬ (0 ≤ m 85 s ∧ bt (I 8 3) (gfld m s) = true) := fun q => absurd q.1 (Int32.not_le.mpr g1)
          refine aw_aload_n hC dX10_isTainting_23 rfl ?_
          refine aw_getN hC dX10_isTainting_24 aF_X10_130 rfl (hSt.at hs).1 g2 ?_
          refine aw_ifnullN (tgt := 46) hC dX10_isTainting_27 (by decide) ?_
          refine aw_aload_n hC dX10_isTainting_46 rfl ?_
          refine kX10_168 hC rfl (m_X8_isJoining (hSt.at hs).1) dX10_isTainting_47 (hSt.at hs).1 rfl a_le a_le a_le a_le a_le rfl aPure_x (aPure_k ?_)
          show AW X 0 0 50 [some (.ref 8), some (.ref (sq s))] [.int (bI (decide (I (sq s) 2 = 5 ∨ I (sq s) 2 = 6)))] T I J R
          rw [show bI (decide (I (sq s) 2 = 5 ∨ I (sq s) 2 = 6)) = bI (decide (isPr m s)) from by rw [(hSt.at hs).2.2.2.1]]
          refine aw_if_eq (tgt := 76) hC dX10_isTainting_50 (by decide) (fun h4 => ?_) (fun h4 => ?_)
          · show AW X 0 0 76 [some (.ref 8), some (.ref (sq s))] [] T I J R
            refine aw_iconst (v := 0) hC dX10_isTainting_76 (by decide) ?_
            exact aw_zreturn hC hq rfl (Or.inl rfl) dX10_isTainting_77 a_le a_le (aPure_i (tnA_n (fun q => q.2.2.2.elim hnt (fun z => by first | exact absurd z.1 (bI_d0.mp (by assumption)) | exact absurd (h_cOn hth h45 h86 h53 z.2.2) (bI_d0.mp (by rw [← hCn s hs]; assumption)) | exact absurd (show tBoth m s &&& I 8 3 = 0 from by assumption) (by rw [Int32.and_comm]; exact (both_hit (hS.fd s hs).2 (fun q => hS.k56 s hs (isPr_n hS hs q))).mpr (z.2.1.imp id (fun y => ⟨z.1, y⟩)))))))
          · show AW X 0 0 53 [some (.ref 8), some (.ref (sq s))] [] T I J R
            refine aw_aload_n hC dX10_isTainting_53 rfl ?_
            refine aw_getI hC dX10_isTainting_54 aF_X10_71 rfl (hSt.at hs).1 ?_
            refine aw_if_eq (tgt := 76) hC dX10_isTainting_57 (by decide) (fun h5 => ?_) (fun h5 => ?_)
            · show AW X 0 0 76 [some (.ref 8), some (.ref (sq s))] [] T I J R
              refine aw_iconst (v := 0) hC dX10_isTainting_76 (by decide) ?_
              exact aw_zreturn hC hq rfl (Or.inl rfl) dX10_isTainting_77 a_le a_le (aPure_i (tnA_n (fun q => q.2.2.2.elim hnt (fun z => by first | exact absurd z.1 (bI_d0.mp (by assumption)) | exact absurd (h_cOn hth h45 h86 h53 z.2.2) (bI_d0.mp (by rw [← hCn s hs]; assumption)) | exact absurd (show tBoth m s &&& I 8 3 = 0 from by assumption) (by rw [Int32.and_comm]; exact (both_hit (hS.fd s hs).2 (fun q => hS.k56 s hs (isPr_n hS hs q))).mpr (z.2.1.imp id (fun y => ⟨z.1, y⟩)))))))
            · show AW X 0 0 60 [some (.ref 8), some (.ref (sq s))] [] T I J R
              refine aw_aload_n hC dX10_isTainting_60 rfl ?_
              refine kX10_160 hC rfl (m_X8_fields (hSt.at hs).1) dX10_isTainting_61 (hSt.at hs).1 rfl a_le a_le a_le a_le a_le rfl aPure_x (aPure_k ?_)
              show AW X 0 0 64 [some (.ref 8), some (.ref (sq s))] [.int (iBit (I (sq s) 3) ||| (if I (sq s) 2 = 5 ∨ I (sq s) 2 = 6 then iBit (I (sq s) 4) else 0))] T I J R
              rw [st_flds (hSt.at hs) hS hs]
              refine aw_aload_n hC dX10_isTainting_64 rfl ?_
              refine aw_getI hC dX10_isTainting_65 aF_X10_110 rfl (tg_8 hT) ?_
              refine aw_iand hC dX10_isTainting_68 ?_
              refine aw_if_eq (tgt := 76) hC dX10_isTainting_69 (by decide) (fun h6 => ?_) (fun h6 => ?_)
              · show AW X 0 0 76 [some (.ref 8), some (.ref (sq s))] [] T I J R
                refine aw_iconst (v := 0) hC dX10_isTainting_76 (by decide) ?_
                exact aw_zreturn hC hq rfl (Or.inl rfl) dX10_isTainting_77 a_le a_le (aPure_i (tnA_n (fun q => q.2.2.2.elim hnt (fun z => by first | exact absurd z.1 (bI_d0.mp (by assumption)) | exact absurd (h_cOn hth h45 h86 h53 z.2.2) (bI_d0.mp (by rw [← hCn s hs]; assumption)) | exact absurd (show tBoth m s &&& I 8 3 = 0 from by assumption) (by rw [Int32.and_comm]; exact (both_hit (hS.fd s hs).2 (fun q => hS.k56 s hs (isPr_n hS hs q))).mpr (z.2.1.imp id (fun y => ⟨z.1, y⟩)))))))
              · show AW X 0 0 72 [some (.ref 8), some (.ref (sq s))] [] T I J R
                refine aw_iconst (v := 1) hC dX10_isTainting_72 (by decide) ?_
                refine aw_goto (tgt := 77) hC dX10_isTainting_73 (by decide) ?_
                exact aw_zreturn hC hq rfl (Or.inr rfl) dX10_isTainting_77 a_le a_le (aPure_i (tnA_y ⟨hth, h45, h86, Or.inr ⟨bI_dn.mp (by assumption), by rw [Int32.and_comm] at *; exact ((both_hit (hS.fd s hs).2 (fun q => hS.k56 s hs (isPr_n hS hs q))).mp (by assumption)).imp id (fun q => q.2), cOn_h (bI_dn.mp (by rw [← hCn s hs]; assumption)) h53⟩⟩))
        · show AW X 0 0 23 [some (.ref 8), some (.ref (sq s))] [] T I J R
          have hfg := (hS.fd g g1).2
          have hgf := gf_nI hS g1 g2
          refine aw_aload_n hC dX10_isTainting_23 rfl ?_
          refine aw_getR hC dX10_isTainting_24 aF_X10_130 rfl (hSt.at hs).1 g3 ?_
          refine aw_ifnull hC dX10_isTainting_27 ?_
          refine aw_aload_n hC dX10_isTainting_30 rfl ?_
          refine aw_aload_n hC dX10_isTainting_31 rfl ?_
          refine aw_getR hC dX10_isTainting_32 aF_X10_130 rfl (hSt.at hs).1 g3 ?_
          refine aw_getI hC dX10_isTainting_35 aF_X10_134 rfl (hSt.at g1).1 ?_
          rw [(((hSt.at g1).2.2.2.2.1).trans (hS.fd g g1).1)]
          refine kX10_164 hC rfl (m_X10_isTainted (I := I) hT hR (f := (iN m 46 g)) (by omega)) dX10_isTainting_38 (tg_8 hT) rfl a_le a_le a_le a_le a_le rfl aPure_x (aPure_k ?_)
          show AW X 0 0 41 [some (.ref 8), some (.ref (sq s))] [.int (bI (bt (I 8 3) (iN m 46 g)))] T I J R
          refine aw_if_eq (tgt := 46) hC dX10_isTainting_41 (by decide) (fun h7 => ?_) (fun h7 => ?_)
          · show AW X 0 0 46 [some (.ref 8), some (.ref (sq s))] [] T I J R
            have hnt : ¬ (0 ≤ m 85 s ∧ bt (I 8 3) (gfld m s) = true) := fun q => absurd q.2 (by rw [hgf.1]; simp [bI_e0.mp (by assumption)])
            refine aw_aload_n hC dX10_isTainting_46 rfl ?_
            refine kX10_168 hC rfl (m_X8_isJoining (hSt.at hs).1) dX10_isTainting_47 (hSt.at hs).1 rfl a_le a_le a_le a_le a_le rfl aPure_x (aPure_k ?_)
            show AW X 0 0 50 [some (.ref 8), some (.ref (sq s))] [.int (bI (decide (I (sq s) 2 = 5 ∨ I (sq s) 2 = 6)))] T I J R
            rw [show bI (decide (I (sq s) 2 = 5 ∨ I (sq s) 2 = 6)) = bI (decide (isPr m s)) from by rw [(hSt.at hs).2.2.2.1]]
            refine aw_if_eq (tgt := 76) hC dX10_isTainting_50 (by decide) (fun h8 => ?_) (fun h8 => ?_)
            · show AW X 0 0 76 [some (.ref 8), some (.ref (sq s))] [] T I J R
              refine aw_iconst (v := 0) hC dX10_isTainting_76 (by decide) ?_
              exact aw_zreturn hC hq rfl (Or.inl rfl) dX10_isTainting_77 a_le a_le (aPure_i (tnA_n (fun q => q.2.2.2.elim hnt (fun z => by first | exact absurd z.1 (bI_d0.mp (by assumption)) | exact absurd (h_cOn hth h45 h86 h53 z.2.2) (bI_d0.mp (by rw [← hCn s hs]; assumption)) | exact absurd (show tBoth m s &&& I 8 3 = 0 from by assumption) (by rw [Int32.and_comm]; exact (both_hit (hS.fd s hs).2 (fun q => hS.k56 s hs (isPr_n hS hs q))).mpr (z.2.1.imp id (fun y => ⟨z.1, y⟩)))))))
            · show AW X 0 0 53 [some (.ref 8), some (.ref (sq s))] [] T I J R
              refine aw_aload_n hC dX10_isTainting_53 rfl ?_
              refine aw_getI hC dX10_isTainting_54 aF_X10_71 rfl (hSt.at hs).1 ?_
              refine aw_if_eq (tgt := 76) hC dX10_isTainting_57 (by decide) (fun h9 => ?_) (fun h9 => ?_)
              · show AW X 0 0 76 [some (.ref 8), some (.ref (sq s))] [] T I J R
                refine aw_iconst (v := 0) hC dX10_isTainting_76 (by decide) ?_
                exact aw_zreturn hC hq rfl (Or.inl rfl) dX10_isTainting_77 a_le a_le (aPure_i (tnA_n (fun q => q.2.2.2.elim hnt (fun z => by first | exact absurd z.1 (bI_d0.mp (by assumption)) | exact absurd (h_cOn hth h45 h86 h53 z.2.2) (bI_d0.mp (by rw [← hCn s hs]; assumption)) | exact absurd (show tBoth m s &&& I 8 3 = 0 from by assumption) (by rw [Int32.and_comm]; exact (both_hit (hS.fd s hs).2 (fun q => hS.k56 s hs (isPr_n hS hs q))).mpr (z.2.1.imp id (fun y => ⟨z.1, y⟩)))))))
              · show AW X 0 0 60 [some (.ref 8), some (.ref (sq s))] [] T I J R
                refine aw_aload_n hC dX10_isTainting_60 rfl ?_
                refine kX10_160 hC rfl (m_X8_fields (hSt.at hs).1) dX10_isTainting_61 (hSt.at hs).1 rfl a_le a_le a_le a_le a_le rfl aPure_x (aPure_k ?_)
                show AW X 0 0 64 [some (.ref 8), some (.ref (sq s))] [.int (iBit (I (sq s) 3) ||| (if I (sq s) 2 = 5 ∨ I (sq s) 2 = 6 then iBit (I (sq s) 4) else 0))] T I J R
                rw [st_flds (hSt.at hs) hS hs]
                refine aw_aload_n hC dX10_isTainting_64 rfl ?_
                refine aw_getI hC dX10_isTainting_65 aF_X10_110 rfl (tg_8 hT) ?_
                refine aw_iand hC dX10_isTainting_68 ?_
                refine aw_if_eq (tgt := 76) hC dX10_isTainting_69 (by decide) (fun h10 => ?_) (fun h10 => ?_)
                · show AW X 0 0 76 [some (.ref 8), some (.ref (sq s))] [] T I J R
                  refine aw_iconst (v := 0) hC dX10_isTainting_76 (by decide) ?_
                  exact aw_zreturn hC hq rfl (Or.inl rfl) dX10_isTainting_77 a_le a_le (aPure_i (tnA_n (fun q => q.2.2.2.elim hnt (fun z => by first | exact absurd z.1 (bI_d0.mp (by assumption)) | exact absurd (h_cOn hth h45 h86 h53 z.2.2) (bI_d0.mp (by rw [← hCn s hs]; assumption)) | exact absurd (show tBoth m s &&& I 8 3 = 0 from by assumption) (by rw [Int32.and_comm]; exact (both_hit (hS.fd s hs).2 (fun q => hS.k56 s hs (isPr_n hS hs q))).mpr (z.2.1.imp id (fun y => ⟨z.1, y⟩)))))))
                · show AW X 0 0 72 [some (.ref 8), some (.ref (sq s))] [] T I J R
                  refine aw_iconst (v := 1) hC dX10_isTainting_72 (by decide) ?_
                  refine aw_goto (tgt := 77) hC dX10_isTainting_73 (by decide) ?_
                  exact aw_zreturn hC hq rfl (Or.inr rfl) dX10_isTainting_77 a_le a_le (aPure_i (tnA_y ⟨hth, h45, h86, Or.inr ⟨bI_dn.mp (by assumption), by rw [Int32.and_comm] at *; exact ((both_hit (hS.fd s hs).2 (fun q => hS.k56 s hs (isPr_n hS hs q))).mp (by assumption)).imp id (fun q => q.2), cOn_h (bI_dn.mp (by rw [← hCn s hs]; assumption)) h53⟩⟩))
          · show AW X 0 0 44 [some (.ref 8), some (.ref (sq s))] [] T I J R
            refine aw_iconst (v := 1) hC dX10_isTainting_44 (by decide) ?_
            exact aw_zreturn hC hq rfl (Or.inr rfl) dX10_isTainting_45 a_le a_le (aPure_i (tnA_y ⟨hth, h45, h86, Or.inl ⟨hgf.2, by show bt (I 8 3) (gfld m s) = true; rw [hgf.1]; exact bI_n0.mp (by assumption)⟩⟩))
      · show AW X 0 0 21 [some (.ref 8), some (.ref (sq s))] [] T I J R
        refine aw_iconst (v := 0) hC dX10_isTainting_21 (by decide) ?_
        exact aw_zreturn hC hq rfl (Or.inl rfl) dX10_isTainting_22 a_le a_le (aPure_i (tnA_n (fun q => by first | exact q.1 (by rw [← (hD s hs).1]; assumption) | exact absurd (i_7.mpr q.2.1) (by have h9 := bI_d0.mp (by assumption); rw [(hSt.at hs).2.2.2.1] at h9; exact h9) | exact absurd q.2.2.1 (by rw [← (hD s hs).2.1]; assumption))))
set_option maxRecDepth 100000 in
theorem m_X10_findTainted {T : List aT} {I : aI} {J : aJ} {R : aR} (hT : aPT T) (hR : aPR R) {m : aI} {n : Nat} {sq : Nat → Nat} (hSt : CSt T I R m n sq) (hD : CDr I R m n sq) (hS : SW m n) (h53 : m 44 53 = 0) {mj : aJ} (hCn : CCn I m (mj 89) n sq) : MX10_findTainted 0 0 [.ref 8] T I J R (aRelV (fun v I2 J2 => v = none ∧ J2 = J ∧ ∃ w, TnL m mj n w ∧ I2 = a_u I 8 3 w) T R) := by
  refine a_met (by decide +kernel) a_le (fun X hC hq => ?_)
  show AW X 0 0 0 [some (.ref 8), none, none, none, none] [] T I J R
  refine aw_aload_n hC dX10_findTainted_0 rfl ?_
  refine aw_iconst (v := 0) hC dX10_findTainted_1 (by decide) ?_
  refine aw_putI hC dX10_findTainted_2 aF_X10_110 rfl rfl (tg_8 hT) ?_
  refine aw_iconst (v := 0) hC dX10_findTainted_5 (by decide) ?_
  refine aw_istore_n (L2 := [some (.ref 8), some (.int 0), none, none, none]) hC dX10_findTainted_6 rfl (by decide) rfl ?_
  have loop1 : ∀ k, k ≤ n → ∀ v : Int32, T11 m mj n k v → AW X 0 0 7 [some (.ref 8), some (.int (nI k)), none, none, none] [] T (a_u I 8 3 v) J R := by
    refine a_down n (fun k hk1 ih1 => ?_)
    intro v hv
    have hn9 := hS.n30
    have hSt1 : CSt T (a_u I 8 3 v) R m n sq := hSt.put (tg_8 hT) (by decide) (by decide)
    have hD1 : CDr (a_u I 8 3 v) R m n sq := hD.put hSt (tg_8 hT) (by decide)
    refine aw_iload_n hC dX10_findTainted_7 rfl ?_
    refine aw_aload_n hC dX10_findTainted_8 rfl ?_
    refine aw_getR hC dX10_findTainted_9 aF_X10_40 rfl (tg_8 hT) (pr_8_0 hR) ?_
    refine aw_getI hC dX10_findTainted_12 aF_X10_60 rfl (tg_1 hT) ?_
    rw [a_u_ne (f := I) (o := 8) (k := 3) (a := 1) (b := 1) (v := v) (fun q => absurd q.1 (by decide))]
    rw [hSt.cnt]
    refine aw_icmp_ge (tgt := 65) hC dX10_findTainted_15 (by decide) (fun h1 => ?_) (fun h1 => ?_)
    · show AW X 0 0 65 [some (.ref 8), some (.int (nI k)), none, none, none] [] T (a_u I 8 3 v) J R
      have h1n : n ≤ k := (nI_leI (a := n) (b := k) (by omega) (by omega)).mp h1
      refine aw_iconst (v := 1) hC dX10_findTainted_65 (by decide) ?_
      refine aw_istore_n (L2 := [some (.ref 8), some (.int 1), none, none, none]) hC dX10_findTainted_66 rfl (by decide) rfl ?_
      refine aw_iconst (v := 0) hC dX10_findTainted_67 (by decide) ?_
      refine aw_istore_n (L2 := [some (.ref 8), some (.int 1), some (.int 0), none, none]) hC dX10_findTainted_68 rfl (by decide) rfl ?_
      have hv11 : ∀ s, s < n → m 84 s ≠ 0 → m 45 s = 11 → bt v (iN m 46 s) = true := fun s hs => hv.2.2 s (by omega)
      have loopW : ∀ c (r : Nat) (w : Int32), cB (bt w) 10 ≤ c → r + cB (bt w) 10 ≤ 10 → (∀ j, 10 ≤ j → bt w j = false) → (∀ W : Nat → Prop, TnC m mj n W → ∀ j, bt w j = true → W j) → (∀ s, s < n → m 84 s ≠ 0 → m 45 s = 11 → bt w (iN m 46 s) = true) → AW X 0 0 69 [some (.ref 8), some (.int 1), some (.int (nI r)), none, none] [] T (a_u I 8 3 w) J R := by
        refine upN (fun c ihW => ?_)
        intro r w hc hr9 hhi hsnd h11w
        refine aw_iload_n hC dX10_findTainted_69 rfl ?_
        refine aw_if_eq (tgt := 164) hC dX10_findTainted_70 (by decide) (fun h2 => absurd h2 (by decide)) (fun _ => ?_)
        show AW X 0 0 73 [some (.ref 8), some (.int 1), some (.int (nI r)), none, none] [] T (a_u I 8 3 w) J R
        refine aw_iload_n hC dX10_findTainted_73 rfl ?_
        refine aw_ldc (v := 1000000) hC dX10_findTainted_74 gK_X10_113 ?_
        refine aw_icmp_ge (tgt := 164) hC dX10_findTainted_76 (by decide) (fun h3 => ?_) (fun h3 => ?_)
        · show AW X 0 0 164 [some (.ref 8), some (.int 1), some (.int (nI r)), none, none] [] T (a_u I 8 3 w) J R
          have h3n : 1000000 ≤ r := (nI_leI (a := 1000000) (b := r) (by omega) (by omega)).mp h3
          exact aw_return hC hq rfl dX10_findTainted_164 a_le a_le (by exfalso; omega)
        · show AW X 0 0 79 [some (.ref 8), some (.int 1), some (.int (nI r)), none, none] [] T (a_u I 8 3 w) J R
          have h3n : ¬ 1000000 ≤ r := fun q9 => h3 ((nI_leI (a := 1000000) (b := r) (by omega) (by omega)).mpr q9)
          refine aw_aload_n hC dX10_findTainted_79 rfl ?_
          refine aw_getI hC dX10_findTainted_80 aF_X10_110 rfl (tg_8 hT) ?_
          rw [a_u_self (f := I) (o := 8) (k := 3) (v := w)]
          refine aw_istore_n (L2 := [some (.ref 8), some (.int 1), some (.int (nI r)), some (.int w), none]) hC dX10_findTainted_83 rfl (by decide) rfl ?_
          refine aw_iconst (v := 0) hC dX10_findTainted_84 (by decide) ?_
          refine aw_istore (L2 := [some (.ref 8), some (.int 1), some (.int (nI r)), some (.int w), some (.int 0)]) hC dX10_findTainted_85 (by decide) rfl ?_
          have loopI : ∀ k, k ≤ n → ∀ u : Int32, TnI m mj n k w u → AW X 0 0 87 [some (.ref 8), some (.int 1), some (.int (nI r)), some (.int w), some (.int (nI k))] [] T (a_u I 8 3 u) J R := by
            refine a_down n (fun k hkI ihI => ?_)
            intro u hu
            have hn9 := hS.n30
            have hSt2 : CSt T (a_u I 8 3 u) R m n sq := hSt.put (tg_8 hT) (by decide) (by decide)
            refine aw_iload hC dX10_findTainted_87 rfl ?_
            refine aw_aload_n hC dX10_findTainted_89 rfl ?_
            refine aw_getR hC dX10_findTainted_90 aF_X10_40 rfl (tg_8 hT) (pr_8_0 hR) ?_
            refine aw_getI hC dX10_findTainted_93 aF_X10_60 rfl (tg_1 hT) ?_
            rw [a_u_ne (f := I) (o := 8) (k := 3) (a := 1) (b := 1) (v := u) (fun q => absurd q.1 (by decide))]
            rw [hSt.cnt]
            refine aw_icmp_ge (tgt := 144) hC dX10_findTainted_96 (by decide) (fun h4 => ?_) (fun h4 => ?_)
            · show AW X 0 0 144 [some (.ref 8), some (.int 1), some (.int (nI r)), some (.int w), some (.int (nI k))] [] T (a_u I 8 3 u) J R
              have h4n : n ≤ k := (nI_leI (a := n) (b := k) (by omega) (by omega)).mp h4
              refine aw_aload_n hC dX10_findTainted_144 rfl ?_
              refine aw_getI hC dX10_findTainted_145 aF_X10_110 rfl (tg_8 hT) ?_
              rw [a_u_self (f := I) (o := 8) (k := 3) (v := u)]
              refine aw_iload_n hC dX10_findTainted_148 rfl ?_
              refine aw_icmp_eq (tgt := 156) hC dX10_findTainted_149 (by decide) (fun h5 => ?_) (fun h5 => ?_)
              · show AW X 0 0 156 [some (.ref 8), some (.int 1), some (.int (nI r)), some (.int w), some (.int (nI k))] [] T (a_u I 8 3 u) J R
                refine aw_iconst (v := 0) hC dX10_findTainted_156 (by decide) ?_
                refine aw_istore_n (L2 := [some (.ref 8), some (.int 0), some (.int (nI r)), some (.int w), some (.int (nI k))]) hC dX10_findTainted_157 rfl (by decide) rfl ?_
                refine aw_iinc (v := nI (r + 1)) (L2 := [some (.ref 8), some (.int 0), some (.int (nI (r + 1))), some (.int w), some (.int (nI k))]) hC dX10_findTainted_158 rfl (nI_inc _) (by decide) rfl ?_
                refine aw_goto (tgt := 69) hC dX10_findTainted_161 (by decide) ?_
                have e9 : k = n := by omega
                rw [e9] at hu
                refine aw_iload_n hC dX10_findTainted_69 rfl ?_
                refine aw_if_eq (tgt := 164) hC dX10_findTainted_70 (by decide) (fun _ => ?_) (fun h => absurd rfl h)
                exact aw_return hC hq rfl dX10_findTainted_164 a_le a_le ⟨_, rfl, rfl, rfl, rfl, rfl, u, hu.fin (by first | assumption | exact Eq.symm (by assumption)), rfl⟩
              · show AW X 0 0 152 [some (.ref 8), some (.int 1), some (.int (nI r)), some (.int w), some (.int (nI k))] [] T (a_u I 8 3 u) J R
                refine aw_iconst (v := 1) hC dX10_findTainted_152 (by decide) ?_
                refine aw_goto (tgt := 157) hC dX10_findTainted_153 (by decide) ?_
                refine aw_istore_n (L2 := [some (.ref 8), some (.int 1), some (.int (nI r)), some (.int w), some (.int (nI k))]) hC dX10_findTainted_157 rfl (by decide) rfl ?_
                refine aw_iinc (v := nI (r + 1)) (L2 := [some (.ref 8), some (.int 1), some (.int (nI (r + 1))), some (.int w), some (.int (nI k))]) hC dX10_findTainted_158 rfl (nI_inc _) (by decide) rfl ?_
                refine aw_goto (tgt := 69) hC dX10_findTainted_161 (by decide) ?_
                have e9 : k = n := by omega
                rw [e9] at hu
                have hlt := hu.lt (fun q => by first | exact absurd q.symm (by assumption) | exact absurd q (by assumption))
                refine aw_forget 3 (L2 := [some (.ref 8), some (.int 1), some (.int (nI (r + 1))), none, some (.int (nI k))]) rfl ?_
                refine aw_forget 4 (L2 := [some (.ref 8), some (.int 1), some (.int (nI (r + 1))), none, none]) rfl ?_
                exact ihW _ (by omega) (r + 1) u (Nat.le_refl _) (by omega) hu.1 hu.2.1 (fun s hs a b => hu.2.2.1 _ (h11w s hs a b))
            · show AW X 0 0 99 [some (.ref 8), some (.int 1), some (.int (nI r)), some (.int w), some (.int (nI k))] [] T (a_u I 8 3 u) J R
              have h4n : ¬ n ≤ k := fun q9 => h4 ((nI_leI (a := n) (b := k) (by omega) (by omega)).mpr q9)
              refine aw_aload_n hC dX10_findTainted_99 rfl ?_
              refine aw_aload_n hC dX10_findTainted_100 rfl ?_
              refine aw_getR hC dX10_findTainted_101 aF_X10_40 rfl (tg_8 hT) (pr_8_0 hR) ?_
              refine aw_getR hC dX10_findTainted_104 aF_X10_64 rfl (tg_1 hT) (pr_1_0 hR) ?_
              refine aw_iload hC dX10_findTainted_107 rfl ?_
              refine aw_aaloadR_k (j := k) hC dX10_findTainted_109 (tg_2 hT) (nI_clamp (by omega)) (vp_in_nI (by omega) (by decide)) (hSt.rf (by omega)) ?_
              refine kX10_157 hC rfl (m_X10_isTainting (I := a_u I 8 3 u) hT hR (hSt.put (tg_8 hT) (by decide) (by decide)) (hD.put hSt (tg_8 hT) (by decide)) hS h53 (hCn.put hSt (tg_8 hT) (by decide)) (s := k) (by omega)) dX10_findTainted_110 (tg_8 hT) rfl a_le a_le a_le a_le a_le rfl aPure_x (aPure_k ?_)
              show AW X 0 0 113 [some (.ref 8), some (.int 1), some (.int (nI r)), some (.int w), some (.int (nI k))] [.int (bI (tnA m mj k ((a_u I 8 3 u) 8 3)))] T (a_u I 8 3 u) J R
              rw [show (a_u I 8 3 u) 8 3 = u from a_u_self]
              refine aw_if_eq (tgt := 138) hC dX10_findTainted_113 (by decide) (fun h6 => ?_) (fun h6 => ?_)
              · show AW X 0 0 138 [some (.ref 8), some (.int 1), some (.int (nI r)), some (.int w), some (.int (nI k))] [] T (a_u I 8 3 u) J R
                refine aw_iinc (v := nI (k + 1)) (L2 := [some (.ref 8), some (.int 1), some (.int (nI r)), some (.int w), some (.int (nI (k + 1)))]) hC dX10_findTainted_138 rfl (nI_inc _) (by decide) rfl ?_
                refine aw_goto (tgt := 87) hC dX10_findTainted_141 (by decide) ?_
                exact ihI (by omega) u ((TnI.cl hS (by omega) hu (h11w k (by omega))).2 (bI_e0.mp (by assumption)))
              · show AW X 0 0 116 [some (.ref 8), some (.int 1), some (.int (nI r)), some (.int w), some (.int (nI k))] [] T (a_u I 8 3 u) J R
                refine aw_aload_n hC dX10_findTainted_116 rfl ?_
                refine aw_dup hC dX10_findTainted_117 rfl ?_
                refine aw_getI hC dX10_findTainted_118 aF_X10_110 rfl (tg_8 hT) ?_
                rw [a_u_self (f := I) (o := 8) (k := 3) (v := u)]
                refine aw_aload_n hC dX10_findTainted_121 rfl ?_
                refine aw_getR hC dX10_findTainted_122 aF_X10_40 rfl (tg_8 hT) (pr_8_0 hR) ?_
                refine aw_getR hC dX10_findTainted_125 aF_X10_64 rfl (tg_1 hT) (pr_1_0 hR) ?_
                refine aw_iload hC dX10_findTainted_128 rfl ?_
                refine aw_aaloadR_k (j := k) hC dX10_findTainted_130 (tg_2 hT) (nI_clamp (by omega)) (vp_in_nI (by omega) (by decide)) (hSt.rf (by omega)) ?_
                refine kX10_160 hC rfl (m_X8_fields (I := a_u I 8 3 u) (hSt.at (by omega)).1) dX10_findTainted_131 (hSt.at (by omega)).1 rfl a_le a_le a_le a_le a_le rfl aPure_x (aPure_k ?_)
                show AW X 0 0 134 [some (.ref 8), some (.int 1), some (.int (nI r)), some (.int w), some (.int (nI k))] [.int (iBit ((a_u I 8 3 u) (sq k) 3) ||| (if (a_u I 8 3 u) (sq k) 2 = 5 ∨ (a_u I 8 3 u) (sq k) 2 = 6 then iBit ((a_u I 8 3 u) (sq k) 4) else 0)), .int u, .ref 8] T (a_u I 8 3 u) J R
                rw [st_flds (hSt2.at (by omega)) hS (by omega)]
                refine aw_ior hC dX10_findTainted_134 ?_
                refine aw_putI hC dX10_findTainted_135 aF_X10_110 rfl rfl (tg_8 hT) ?_
                refine aw_iinc (v := nI (k + 1)) (L2 := [some (.ref 8), some (.int 1), some (.int (nI r)), some (.int w), some (.int (nI (k + 1)))]) hC dX10_findTainted_138 rfl (nI_inc _) (by decide) rfl ?_
                refine aw_goto (tgt := 87) hC dX10_findTainted_141 (by decide) ?_
                rw [a_u_2]
                exact ihI (by omega) (u ||| (tBoth m k)) ((TnI.cl hS (by omega) hu (h11w k (by omega))).1 (bI_n0.mp (by assumption)))
          exact loopI 0 (Nat.zero_le _) w (TnI.start hhi hsnd)
      exact loopW 10 0 v (cB_le _ 10) (by have := cB_le (bt v) 10; omega) hv.1 hv.2.1 hv11
    · show AW X 0 0 18 [some (.ref 8), some (.int (nI k)), none, none, none] [] T (a_u I 8 3 v) J R
      have h1n : ¬ n ≤ k := fun q9 => h1 ((nI_leI (a := n) (b := k) (by omega) (by omega)).mpr q9)
      refine aw_aload_n hC dX10_findTainted_18 rfl ?_
      refine aw_getR hC dX10_findTainted_19 aF_X10_40 rfl (tg_8 hT) (pr_8_0 hR) ?_
      refine aw_getR hC dX10_findTainted_22 aF_X10_64 rfl (tg_1 hT) (pr_1_0 hR) ?_
      refine aw_iload_n hC dX10_findTainted_25 rfl ?_
      refine aw_aaloadR_k (j := k) hC dX10_findTainted_26 (tg_2 hT) (nI_clamp (by omega)) (vp_in_nI (by omega) (by decide)) (hSt.rf (by omega)) ?_
      refine aw_astore_n (L2 := [some (.ref 8), some (.int (nI k)), some (.ref (sq k)), none, none]) hC dX10_findTainted_27 rfl (by decide) rfl ?_
      have hkd9 := (hS.kd k (by omega)).2
      refine aw_aload_n hC dX10_findTainted_28 rfl ?_
      refine aw_getI hC dX10_findTainted_29 aF_X10_121 rfl (hSt.at (by omega)).1 ?_
      rw [a_u_ne (f := I) (o := 8) (k := 3) (a := (sq k)) (b := 8) (v := v) (fun q => absurd q.2 (by decide))]
      rw [(hD k (by omega)).1]
      refine aw_if_eq (tgt := 59) hC dX10_findTainted_32 (by decide) (fun h7 => ?_) (fun h7 => ?_)
      · show AW X 0 0 59 [some (.ref 8), some (.int (nI k)), some (.ref (sq k)), none, none] [] T (a_u I 8 3 v) J R
        refine aw_iinc (v := nI (k + 1)) (L2 := [some (.ref 8), some (.int (nI (k + 1))), some (.ref (sq k)), none, none]) hC dX10_findTainted_59 rfl (nI_inc _) (by decide) rfl ?_
        refine aw_goto (tgt := 7) hC dX10_findTainted_62 (by decide) ?_
        refine aw_forget 2 (L2 := [some (.ref 8), some (.int (nI (k + 1))), none, none, none]) rfl ?_
        exact ih1 (by omega) v (hv.no (by first | exact Or.inl (by assumption) | exact Or.inr (fun q => absurd ((hS.kq (by omega) (b := 11) (by omega)).mp q) (by assumption))))
      · show AW X 0 0 35 [some (.ref 8), some (.int (nI k)), some (.ref (sq k)), none, none] [] T (a_u I 8 3 v) J R
        refine aw_aload_n hC dX10_findTainted_35 rfl ?_
        refine aw_getI hC dX10_findTainted_36 aF_X10_148 rfl (hSt.at (by omega)).1 ?_
        rw [a_u_ne (f := I) (o := 8) (k := 3) (a := (sq k)) (b := 2) (v := v) (fun q => absurd q.2 (by decide))]
        rw [(((hSt.at (show k < n by omega)).2.2.2.1).trans (hS.kd k (by omega)).1)]
        refine aw_bipush (v := 11) hC dX10_findTainted_39 (by decide) ?_
        refine aw_icmp_ne (tgt := 59) hC dX10_findTainted_41 (by decide) (fun h8 => ?_) (fun h8 => ?_)
        · show AW X 0 0 59 [some (.ref 8), some (.int (nI k)), some (.ref (sq k)), none, none] [] T (a_u I 8 3 v) J R
          have h8n : ¬ (iN m 45 k) = 11 := fun q9 => h8 ((nI_eq (a := (iN m 45 k)) (b := 11) (by omega) (by omega)).mpr q9)
          refine aw_iinc (v := nI (k + 1)) (L2 := [some (.ref 8), some (.int (nI (k + 1))), some (.ref (sq k)), none, none]) hC dX10_findTainted_59 rfl (nI_inc _) (by decide) rfl ?_
          refine aw_goto (tgt := 7) hC dX10_findTainted_62 (by decide) ?_
          refine aw_forget 2 (L2 := [some (.ref 8), some (.int (nI (k + 1))), none, none, none]) rfl ?_
          exact ih1 (by omega) v (hv.no (by first | exact Or.inl (by assumption) | exact Or.inr (fun q => absurd ((hS.kq (by omega) (b := 11) (by omega)).mp q) (by assumption))))
        · show AW X 0 0 44 [some (.ref 8), some (.int (nI k)), some (.ref (sq k)), none, none] [] T (a_u I 8 3 v) J R
          have h8n : (iN m 45 k) = 11 := (nI_eq (a := (iN m 45 k)) (b := 11) (by omega) (by omega)).mp h8
          refine aw_aload_n hC dX10_findTainted_44 rfl ?_
          refine aw_dup hC dX10_findTainted_45 rfl ?_
          refine aw_getI hC dX10_findTainted_46 aF_X10_110 rfl (tg_8 hT) ?_
          rw [a_u_self (f := I) (o := 8) (k := 3) (v := v)]
          refine aw_iconst (v := 1) hC dX10_findTainted_49 (by decide) ?_
          refine aw_aload_n hC dX10_findTainted_50 rfl ?_
          refine aw_getI hC dX10_findTainted_51 aF_X10_134 rfl (hSt.at (by omega)).1 ?_
          rw [(((hSt1.at (show k < n by omega)).2.2.2.2.1).trans (hS.fd k (by omega)).1)]
          refine aw_ishl hC dX10_findTainted_54 ?_
          refine aw_ior hC dX10_findTainted_55 ?_
          refine aw_putI hC dX10_findTainted_56 aF_X10_110 rfl rfl (tg_8 hT) ?_
          refine aw_iinc (v := nI (k + 1)) (L2 := [some (.ref 8), some (.int (nI (k + 1))), some (.ref (sq k)), none, none]) hC dX10_findTainted_59 rfl (nI_inc _) (by decide) rfl ?_
          refine aw_goto (tgt := 7) hC dX10_findTainted_62 (by decide) ?_
          refine aw_forget 2 (L2 := [some (.ref 8), some (.int (nI (k + 1))), none, none, none]) rfl ?_
          rw [a_u_2]
          exact ih1 (by omega) (v ||| (1 <<< ((nI (iN m 46 k)) &&& 31))) (T11.ys hS (by omega) hv (by assumption) ((hS.kq (by omega) (b := 11) (by omega)).mpr (by assumption)))
  exact loop1 0 (Nat.zero_le _) 0 T11.z
