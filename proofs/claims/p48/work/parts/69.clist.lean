/-- what listing leaves as it was -/
abbrev LAF (I I2 : aI) : Prop := (∀ o, o < 33 ∨ 36 < o → I2 o = I o) ∧ ∀ k, k ≠ 5 → I2 33 k = I 33 k
theorem LAF.adf {I I2 I3 : aI} (h : LAF I I2) (g : ADF I2 I3) : LAF I I3 := ⟨fun o ho => (g.1 o (by omega) (by omega)).trans (h.1 o ho), fun k hk => (g.2 k hk).trans (h.2 k hk)⟩
/-- all are looked at, the list holds A -/
def LsR (I I2 : aI) (m : aI) (mj : aJ) (g : Nat) (N G : Nat → Int32) (A : List Nat) : Prop := LAF I I2 ∧ I2 34 = G ∧ I2 36 = N ∧ LkR m mj N G (16 * g) ∧ CLI I2 A
theorem LsR.put {I I2 I3 m : aI} {mj : aJ} {g : Nat} {N G : Nat → Int32} {A B : List Nat} (h : LsR I I2 m mj g N G A) (d : ADF I2 I3) (c : CLI I3 B) : LsR I I3 m mj g N G B := ⟨h.1.adf d, (d.1 34 (by decide) (by decide)).trans h.2.1, (d.1 36 (by decide) (by decide)).trans h.2.2.1, h.2.2.2.1, c⟩
theorem LAF.gn {T : List aT} {I I2 : aI} {R : aR} {m : aI} {g : Nat} {gq : Nat → Nat} (h : LAF I I2) (hT : aPT T) (hG : CGn T I R m g gq) : CGn T I2 R m g gq := hG.fr hT (fun o ho => h.1 o (by omega)) (by rw [h.1 19 (by decide)])
theorem LAF.ty {I I2 m : aI} (h : LAF I I2) (hY : CTy I m) : CTy I2 m := hY.fr (fun o h1 h2 => h.1 o (by omega))
theorem CGn.m91 {T : List aT} {I : aI} {R : aR} {m : aI} {g : Nat} {gq : Nat → Nat} {N : Nat → Int32} (h : CGn T I R m g gq) : CGn T I R (a_ur m 91 N) g gq := h.cgm (a_ur_ne (by decide)) (a_ur_ne (by decide)) (a_ur_ne (by decide)) (a_ur_ne (by decide))
theorem CTy.m91 {I m : aI} {N : Nat → Int32} (h : CTy I m) : CTy I (a_ur m 91 N) := h.cgm (a_ur_ne (by decide)) (a_ur_ne (by decide)) (a_ur_ne (by decide)) (a_ur_ne (by decide))
theorem GW.m91 {m : aI} {g : Nat} {N : Nat → Int32} (h : GW m g) : GW (a_ur m 91 N) g := GW_cg (by rw [a_ur_ne (by decide)]) (a_ur_ne (by decide)) (a_ur_ne (by decide)) (a_ur_ne (by decide)) (a_ur_ne (by decide)) (a_ur_ne (by decide)) h
theorem aDn_3 (I : aI) {n k : Nat} (hk : k < n) : (aUp I n ++ aDn I n (n - (k + 1))).length + (dnL I k).length ≤ 2 * n := by
  have h1 := aDn_2 I n (n - k) (by omega)
  have h2 := aUp_2 I (n - (n - k))
  have e : n - k = (n - (k + 1)) + 1 := by omega
  rw [e] at h1 h2
  simp only [aDn, List.length_append] at h1
  rw [show n - 1 - (n - (k + 1)) = k by omega] at h1
  rw [List.length_append]; omega
theorem aDn_e (I : aI) {n k : Nat} (hk : k < n) : (aUp I n ++ aDn I n (n - (k + 1))) ++ dnL I k = aUp I n ++ aDn I n (n - k) := by
  have e : n - k = (n - (k + 1)) + 1 := by omega
  rw [e]; simp only [aDn]
  rw [show n - 1 - (n - (k + 1)) = k by omega, List.append_assoc]
set_option maxRecDepth 100000 in
theorem m_X2_listActions {T : List aT} {I : aI} {J : aJ} {R : aR} (hT : aPT T) (hR : aPR R) {m : aI} {g : Nat} {gq : Nat → Nat} (hG : CGn T I R m g gq) (hg : GW m g) (hY : CTy I m) {eq : Nat → Nat} (hE : CEn T I R m eq) {mj : aJ} (hV : CFo I m mj) (hi : InvE m g) {n : Nat} {sq : Nat → Nat} (hSt : CSt T I R m n sq) (hS : SW m n) (hFl : CFl I m n sq) (h2c : I 8 2 = m 44 57) : MX2_listActions 0 0 [.ref 33] T I J R (aRelV (fun v I2 J2 => J2 = J ∧ ((cPv m mj n g (I 8 3) = false ∧ I2 = a_u I 33 5 (-1) ∧ v = some (.int (-1))) ∨ (cPv m mj n g (I 8 3) = true ∧ ∃ N G, LsR I I2 m mj g N G (allA (a_ur m 91 N) (16 * g)) ∧ v = some (.int (nI (allA (a_ur m 91 N) (16 * g)).length))))) T R) := by
  refine a_met (by decide +kernel) a_le (fun X hC hq => ?_)
  show AW X 0 0 0 [some (.ref 33), none] [] T I J R
  refine aw_aload_n hC dX2_listActions_0 rfl ?_
  refine aw_iconst (v := (-1)) hC dX2_listActions_1 (by decide) ?_
  refine aw_putI hC dX2_listActions_2 aF_X2_153 rfl rfl (tg_33 hT) ?_
  refine aw_aload_n hC dX2_listActions_5 rfl ?_
  have hF3 : LAF I (a_u I 33 5 (-1)) := ⟨fun o ho => by rw [a_u_row (by omega)], fun k hk => by rw [a_u_ne (fun q => hk q.2)]⟩
  have hG3 : CGn T (a_u I 33 5 (-1)) R m g gq := hF3.gn hT hG
  have hY3 : CTy (a_u I 33 5 (-1)) m := hF3.ty hY
  have hE3 : CEn T (a_u I 33 5 (-1)) R m eq := hE.fr hT (fun o ho => hF3.1 o (by omega))
  have hV3 : CFo (a_u I 33 5 (-1)) m mj := fun f hf => by rw [hF3.1 11 (by decide)]; exact hV f hf
  have hSt3 : CSt T (a_u I 33 5 (-1)) R m n sq := hSt.put (tg_33 hT) (by decide) (by decide)
  have hFl3 : CFl (a_u I 33 5 (-1)) m n sq := fun s hs => by rw [a_u_row (by have := hSt.ge hT hs; omega)]; exact hFl s hs
  have h2c3 : (a_u I 33 5 (-1)) 8 2 = m 44 57 := by rw [a_u_row (by decide)]; exact h2c
  have h83 : (a_u I 33 5 (-1)) 8 3 = I 8 3 := by rw [a_u_row (by decide)]
  refine kX2_156 hC rfl (m_X2_canPlan (I := a_u I 33 5 (-1)) hT hR hG3 hg hY3 hV3 hSt3 hS hFl3 h2c3) dX2_listActions_6 (tg_33 hT) rfl a_le a_le a_le a_le a_le rfl aPure_x (aPure_k ?_)
  show AW X 0 0 9 [some (.ref 33), none] [.int (bI (cPv m mj n g ((a_u I 33 5 (-1)) 8 3)))] T (a_u I 33 5 (-1)) J R
  refine aw_if_ne (tgt := 14) hC dX2_listActions_9 (by decide) (fun h1 => ?_) (fun h1 => ?_)
  · show AW X 0 0 14 [some (.ref 33), none] [] T (a_u I 33 5 (-1)) J R
    refine aw_aload_n hC dX2_listActions_14 rfl ?_
    refine kX2_159 hC rfl (m_X2_lookAtAll (I := a_u I 33 5 (-1)) hT hR hG3 hg hY3 hE3 hV3 hi) dX2_listActions_15 (tg_33 hT) rfl a_le a_le a_le a_le a_le rfl aRelV_x (aRelV_k (fun v9 I9 J9 hQ => ?_))
    obtain ⟨ev9, eJ9, G, N, e9, hLk⟩ := hQ
    rw [ev9, eJ9, e9]
    obtain ⟨Ia, hIa⟩ : ∃ Ia, Ia = a_ur (a_ur (a_u I 33 5 (-1)) 34 G) 36 N := ⟨_, rfl⟩
    rw [← hIa]
    have hFa : LAF I Ia := ⟨fun o ho => by rw [hIa, a_ur_ne (by omega), a_ur_ne (by omega)]; exact hF3.1 o ho, fun k hk => by rw [hIa, a_ur_ne (by decide), a_ur_ne (by decide)]; exact hF3.2 k hk⟩
    have hLsa : LsR I (a_u Ia 33 5 0) m mj g N G [] := ⟨⟨fun o ho => by rw [a_u_row (by omega)]; exact hFa.1 o ho, fun k hk => by rw [a_u_ne (fun q => hk q.2)]; exact hFa.2 k hk⟩, by rw [a_u_row (by decide), hIa, a_ur_ne (by decide), a_ur_self], by rw [a_u_row (by decide), hIa, a_ur_self], hLk, by rw [a_u_self]; rfl, fun k h => absurd h (by simp)⟩
    show AW X 0 0 18 [some (.ref 33), none] [] T Ia J R
    refine aw_aload_n hC dX2_listActions_18 rfl ?_
    refine aw_iconst (v := 0) hC dX2_listActions_19 (by decide) ?_
    refine aw_putI hC dX2_listActions_20 aF_X2_153 rfl rfl (tg_33 hT) ?_
    refine aw_iconst (v := 0) hC dX2_listActions_23 (by decide) ?_
    refine aw_istore_n (L2 := [some (.ref 33), some (.int 0)]) hC dX2_listActions_24 rfl (by decide) rfl ?_
    have loopU : ∀ k, k ≤ 16 * g → ∀ I4 : aI, LsR I I4 m mj g N G (aUp (a_ur m 91 N) k) → AW X 0 0 25 [some (.ref 33), some (.int (nI k))] [] T I4 J R := by
      refine a_down (16 * g) (fun k hk_k ihU => ?_)
      intro I4 hLs
      have hg4 := hg.g4
      have hgn : I4 19 2 = nI g := by rw [hLs.1.1 19 (by decide)]; exact hG.cnt
      refine aw_iload_n hC dX2_listActions_25 rfl ?_
      refine aw_aload_n hC dX2_listActions_26 rfl ?_
      refine aw_getR hC dX2_listActions_27 aF_X2_28 rfl (tg_33 hT) (pr_33_3 hR) ?_
      refine kX2_32 hC rfl (m_X4_names (I := I4) hT hR (g := g) hgn) dX2_listActions_30 (tg_19 hT) rfl a_le a_le a_le a_le a_le rfl aPure_x (aPure_k ?_)
      show AW X 0 0 33 [some (.ref 33), some (.int (nI k))] [.int (nI (16 * g)), .int (nI k)] T I4 J R
      refine aw_icmp_ge (tgt := 47) hC dX2_listActions_33 (by decide) (fun h2 => ?_) (fun h2 => ?_)
      · show AW X 0 0 47 [some (.ref 33), some (.int (nI k))] [] T I4 J R
        have h2n : (16 * g) ≤ k := (nI_leI (a := (16 * g)) (b := k) (by omega) (by omega)).mp h2
        refine aw_aload_n hC dX2_listActions_47 rfl ?_
        refine aw_getR hC dX2_listActions_48 aF_X2_28 rfl (tg_33 hT) (pr_33_3 hR) ?_
        refine kX2_32 hC rfl (m_X4_names (I := I4) hT hR (g := g) hgn) dX2_listActions_51 (tg_19 hT) rfl a_le a_le a_le a_le a_le rfl aPure_x (aPure_k ?_)
        show AW X 0 0 54 [some (.ref 33), some (.int (nI k))] [.int (nI (16 * g))] T I4 J R
        refine aw_iconst (v := 1) hC dX2_listActions_54 (by decide) ?_
        refine aw_isub hC dX2_listActions_55 ?_
        refine aw_istore_n (L2 := [some (.ref 33), some (.int ((nI (16 * g)) - 1))]) hC dX2_listActions_56 rfl (by decide) rfl ?_
        have e9 : k = 16 * g := by omega
        rw [e9] at hLs
        rw [show nI (16 * g) - 1 = nI (16 * g) + (-1) from Int32.sub_eq_add_neg ..]
        have loopD : ∀ k, k ≤ 16 * g → ∀ I4 : aI, LsR I I4 m mj g N G (aUp (a_ur m 91 N) (16 * g) ++ aDn (a_ur m 91 N) (16 * g) (16 * g - k)) → AW X 0 0 57 [some (.ref 33), some (.int (nI k + (-1)))] [] T I4 J R := by
          intro k
          induction k with
          | zero =>
            intro _ I4 hLs
            rw [show nI 0 + (-1) = (-1 : Int32) from by decide]
            refine aw_iload_n hC dX2_listActions_57 rfl ?_
            refine aw_if_lt (tgt := 72) hC dX2_listActions_58 (by decide) (fun _ => ?_) (fun h3 => absurd h3 (by decide))
            show AW X 0 0 72 [some (.ref 33), some (.int (-1))] [] T I4 J R
            refine aw_aload_n hC dX2_listActions_72 rfl ?_
            refine aw_getI hC dX2_listActions_73 aF_X2_153 rfl (tg_33 hT) ?_
            rw [(show I4 33 5 = nI (allA (a_ur m 91 N) (16 * g)).length from by have := hLs.2.2.2.2.1; rwa [Nat.sub_zero] at this)]
            exact aw_ireturn hC hq rfl dX2_listActions_76 a_le a_le ⟨_, rfl, rfl, rfl, rfl, Or.inr ⟨by rw [← h83]; exact bI_n0.mp (by assumption), N, G, by have h9 := hLs; rw [Nat.sub_zero] at h9; exact h9, rfl⟩⟩
          | succ k ihD =>
            intro hk I4 hLs
            rw [pk_m1]
            refine aw_iload_n hC dX2_listActions_57 rfl ?_
            refine aw_if_lt (tgt := 72) hC dX2_listActions_58 (by decide) (fun h => absurd ((nI_ltI (a := k) (b := 0) (by omega) (by omega)).mp h) (by omega)) (fun _ => ?_)
            show AW X 0 0 61 [some (.ref 33), some (.int (nI k))] [] T I4 J R
            have hG4 := (hLs.1.gn hT hG).m91 (N := N)
            have hY4 := (hLs.1.ty hY).m91 (N := N)
            have hNx : I4 36 k = (a_ur m 91 N) 91 k := by rw [hLs.2.2.1, a_ur_self]
            refine aw_aload_n hC dX2_listActions_61 rfl ?_
            refine aw_iload_n hC dX2_listActions_62 rfl ?_
            refine kX2_165 hC rfl (m_X2_addEnding (I := I4) (m := (a_ur m 91 N)) hT hR hG4 hg.m91 hY4 (x := k) (by omega) hNx (by rw [a_ur_self, (hLs.2.2.2.1 k (by omega)).1]; exact sCmp_rng) hLs.2.2.2.2 (by have := aDn_3 (a_ur m 91 N) (n := 16 * g) (k := k) (by omega); omega)) dX2_listActions_63 (tg_33 hT) rfl a_le a_le a_le a_le a_le rfl aRelV_x (aRelV_k (fun v9 I5 J9 hQ => ?_))
            obtain ⟨ev9, eJ9, hAd, hCl⟩ := hQ
            rw [ev9, eJ9]
            show AW X 0 0 66 [some (.ref 33), some (.int (nI k))] [] T I5 J R
            refine aw_iinc (v := nI k + (-1)) (L2 := [some (.ref 33), some (.int (nI k + (-1)))]) hC dX2_listActions_66 rfl rfl (by decide) rfl ?_
            refine aw_goto (tgt := 57) hC dX2_listActions_69 (by decide) ?_
            exact ihD (by omega) I5 (hLs.put hAd (by rw [← aDn_e (a_ur m 91 N) (by omega)]; exact hCl))
        exact loopD (16 * g) (Nat.le_refl _) _ (by rw [Nat.sub_self]; simp only [aDn, List.append_nil]; exact hLs)
      · show AW X 0 0 36 [some (.ref 33), some (.int (nI k))] [] T I4 J R
        have h2n : ¬ (16 * g) ≤ k := fun q9 => h2 ((nI_leI (a := (16 * g)) (b := k) (by omega) (by omega)).mpr q9)
        have hG4 := (hLs.1.gn hT hG).m91 (N := N)
        have hY4 := (hLs.1.ty hY).m91 (N := N)
        have hNx : I4 36 k = (a_ur m 91 N) 91 k := by rw [hLs.2.2.1, a_ur_self]
        refine aw_aload_n hC dX2_listActions_36 rfl ?_
        refine aw_iload_n hC dX2_listActions_37 rfl ?_
        refine kX2_162 hC rfl (m_X2_addMaking (I := I4) (m := (a_ur m 91 N)) hT hR hG4 hg.m91 hY4 (x := k) (by omega) hNx (by rw [a_ur_self, (hLs.2.2.2.1 k (by omega)).1]; exact sCmp_rng) hLs.2.2.2.2 (by have := aUp_2 (a_ur m 91 N) k; omega)) dX2_listActions_38 (tg_33 hT) rfl a_le a_le a_le a_le a_le rfl aRelV_x (aRelV_k (fun v9 I5 J9 hQ => ?_))
        obtain ⟨ev9, eJ9, hAd, hCl⟩ := hQ
        rw [ev9, eJ9]
        show AW X 0 0 41 [some (.ref 33), some (.int (nI k))] [] T I5 J R
        refine aw_iinc (v := nI (k + 1)) (L2 := [some (.ref 33), some (.int (nI (k + 1)))]) hC dX2_listActions_41 rfl (nI_inc _) (by decide) rfl ?_
        refine aw_goto (tgt := 25) hC dX2_listActions_44 (by decide) ?_
        exact ihU (by omega) I5 (hLs.put hAd (by simp only [aUp]; exact hCl))
    exact loopU 0 (Nat.zero_le _) _ hLsa
  · show AW X 0 0 12 [some (.ref 33), none] [] T (a_u I 33 5 (-1)) J R
    refine aw_iconst (v := (-1)) hC dX2_listActions_12 (by decide) ?_
    exact aw_ireturn hC hq rfl dX2_listActions_13 a_le a_le ⟨_, rfl, rfl, rfl, rfl, Or.inl ⟨by rw [← h83]; exact bI_e0.mp (by assumption), rfl, rfl⟩⟩
set_option maxRecDepth 100000 in
theorem m_X2_hasAction {T : List aT} {I : aI} {J : aJ} {R : aR} (hT : aPT T) (hR : aPR R) {l : Nat} (hl : I 33 5 = nI l) (hl8 : l ≤ 128) (v : Int32) : MX2_hasAction 0 0 [.ref 33, .int v] T I J R (aPure (some (.int (bI (anyB (fun k => decide (I 35 k = v)) l)))) T I J R) := by
  refine a_met (by decide +kernel) a_le (fun X hC hq => ?_)
  show AW X 0 0 0 [some (.ref 33), some (.int v), none] [] T I J R
  refine aw_iconst (v := 0) hC dX2_hasAction_0 (by decide) ?_
  refine aw_istore_n (L2 := [some (.ref 33), some (.int v), some (.int 0)]) hC dX2_hasAction_1 rfl (by decide) rfl ?_
  have loop : ∀ k, k ≤ l → (∀ j, j < k → decide (I 35 j = v) = false) → AW X 0 0 2 [some (.ref 33), some (.int v), some (.int (nI k))] [] T I J R := by
    refine a_down l (fun k hk_k ih_k => ?_)
    intro hno
    refine aw_iload_n hC dX2_hasAction_2 rfl ?_
    refine aw_aload_n hC dX2_hasAction_3 rfl ?_
    refine aw_getI hC dX2_hasAction_4 aF_X2_153 rfl (tg_33 hT) ?_
    rw [hl]
    refine aw_icmp_ge (tgt := 28) hC dX2_hasAction_7 (by decide) (fun h1 => ?_) (fun h1 => ?_)
    · show AW X 0 0 28 [some (.ref 33), some (.int v), some (.int (nI k))] [] T I J R
      have h1n : l ≤ k := (nI_leI (a := l) (b := k) (by omega) (by omega)).mp h1
      refine aw_iconst (v := 0) hC dX2_hasAction_28 (by decide) ?_
      exact aw_zreturn hC hq rfl (Or.inl rfl) dX2_hasAction_29 a_le a_le (aPure_i (bI_nb (anyB_f.mpr (fun j hj => hno j (by omega)))))
    · show AW X 0 0 10 [some (.ref 33), some (.int v), some (.int (nI k))] [] T I J R
      have h1n : ¬ l ≤ k := fun q9 => h1 ((nI_leI (a := l) (b := k) (by omega) (by omega)).mpr q9)
      refine aw_aload_n hC dX2_hasAction_10 rfl ?_
      refine aw_getR hC dX2_hasAction_11 aF_X2_15 rfl (tg_33 hT) (pr_33_1 hR) ?_
      refine aw_iload_n hC dX2_hasAction_14 rfl ?_
      refine aw_iaload_k (j := k) hC dX2_hasAction_15 (tg_35 hT) (nI_clamp (by omega)) (vp_in_nI (by omega) (by decide)) ?_
      refine aw_iload_n hC dX2_hasAction_16 rfl ?_
      refine aw_icmp_ne (tgt := 22) hC dX2_hasAction_17 (by decide) (fun h2 => ?_) (fun h2 => ?_)
      · show AW X 0 0 22 [some (.ref 33), some (.int v), some (.int (nI k))] [] T I J R
        refine aw_iinc (v := nI (k + 1)) (L2 := [some (.ref 33), some (.int v), some (.int (nI (k + 1)))]) hC dX2_hasAction_22 rfl (nI_inc _) (by decide) rfl ?_
        refine aw_goto (tgt := 2) hC dX2_hasAction_25 (by decide) ?_
        exact ih_k (by omega) (fun j hj => by by_cases e : j = k; (rw [e]; exact decide_eq_false (by assumption)); exact hno j (by omega))
      · show AW X 0 0 20 [some (.ref 33), some (.int v), some (.int (nI k))] [] T I J R
        refine aw_iconst (v := 1) hC dX2_hasAction_20 (by decide) ?_
        exact aw_zreturn hC hq rfl (Or.inr rfl) dX2_hasAction_21 a_le a_le (aPure_i (bI_yb (anyB_tr (k := k) (by omega) (decide_eq_true (by assumption)))))
  exact loop 0 (Nat.zero_le _) (fun j hj => absurd hj (by omega))
set_option maxRecDepth 100000 in
theorem m_X2_hasActionN {T : List aT} {I : aI} {J : aJ} {R : aR} (hT : aPT T) (hR : aPR R) (hl : I 33 5 = -1) (v : Int32) : MX2_hasAction 0 0 [.ref 33, .int v] T I J R (aPure (some (.int 0)) T I J R) := by
  refine a_met (by decide +kernel) a_le (fun X hC hq => ?_)
  show AW X 0 0 0 [some (.ref 33), some (.int v), none] [] T I J R
  refine aw_iconst (v := 0) hC dX2_hasAction_0 (by decide) ?_
  refine aw_istore_n (L2 := [some (.ref 33), some (.int v), some (.int 0)]) hC dX2_hasAction_1 rfl (by decide) rfl ?_
  refine aw_iload_n hC dX2_hasAction_2 rfl ?_
  refine aw_aload_n hC dX2_hasAction_3 rfl ?_
  refine aw_getI hC dX2_hasAction_4 aF_X2_153 rfl (tg_33 hT) ?_
  rw [hl]
  refine aw_icmp_ge (tgt := 28) hC dX2_hasAction_7 (by decide) (fun _ => ?_) (fun h => absurd (by decide) h)
  show AW X 0 0 28 [some (.ref 33), some (.int v), some (.int 0)] [] T I J R
  refine aw_iconst (v := 0) hC dX2_hasAction_28 (by decide) ?_
  exact aw_zreturn hC hq rfl (Or.inl rfl) dX2_hasAction_29 a_le a_le (aPure_i (by rfl))
set_option maxRecDepth 100000 in
theorem m_X2_hasAllOf {T : List aT} {I : aI} {J : aJ} {R : aR} (hT : aPT T) (hR : aPR R) {l : Nat} (hl : I 33 5 = nI l) (hl8 : l ≤ 128) {q c : Nat} (hq9 : T[q]? = some (.inl (.int, c))) (hc8 : c ≤ 128) : MX2_hasAllOf 0 0 [.ref 33, .ref q] T I J R (aPure (some (.int (bI (allB (fun i => anyB (fun k => decide (I 35 k = I q i)) l) c)))) T I J R) := by
  refine a_met (by decide +kernel) a_le (fun X hC hq => ?_)
  show AW X 0 0 0 [some (.ref 33), some (.ref q), none] [] T I J R
  refine aw_iconst (v := 0) hC dX2_hasAllOf_0 (by decide) ?_
  refine aw_istore_n (L2 := [some (.ref 33), some (.ref q), some (.int 0)]) hC dX2_hasAllOf_1 rfl (by decide) rfl ?_
  have loop : ∀ j, j ≤ c → (∀ i, i < j → anyB (fun k => decide (I 35 k = I q i)) l = true) → AW X 0 0 2 [some (.ref 33), some (.ref q), some (.int (nI j))] [] T I J R := by
    refine a_down c (fun j hk_j ih_j => ?_)
    intro hall
    refine aw_iload_n hC dX2_hasAllOf_2 rfl ?_
    refine aw_aload_n hC dX2_hasAllOf_3 rfl ?_
    refine aw_alen (v := nI c) hC dX2_hasAllOf_4 hq9 rfl ?_
    refine aw_icmp_ge (tgt := 26) hC dX2_hasAllOf_5 (by decide) (fun h1 => ?_) (fun h1 => ?_)
    · show AW X 0 0 26 [some (.ref 33), some (.ref q), some (.int (nI j))] [] T I J R
      have h1n : c ≤ j := (nI_leI (a := c) (b := j) (by omega) (by omega)).mp h1
      refine aw_aload_n hC dX2_hasAllOf_26 rfl ?_
      refine aw_getI hC dX2_hasAllOf_27 aF_X2_153 rfl (tg_33 hT) ?_
      rw [hl]
      refine aw_iconst (v := (-1)) hC dX2_hasAllOf_30 (by decide) ?_
      refine aw_icmp_eq (tgt := 38) hC dX2_hasAllOf_31 (by decide) (fun h => absurd h (by intro z; have := congrArg (fun y => (0 : Int32) ≤ y) z; exact absurd (nI_pos' (n := l) (by omega)) (by rw [z]; decide))) (fun _ => ?_)
      show AW X 0 0 34 [some (.ref 33), some (.ref q), some (.int (nI j))] [] T I J R
      refine aw_iconst (v := 1) hC dX2_hasAllOf_34 (by decide) ?_
      refine aw_goto (tgt := 39) hC dX2_hasAllOf_35 (by decide) ?_
      exact aw_zreturn hC hq rfl (Or.inr rfl) dX2_hasAllOf_39 a_le a_le (aPure_i (bI_yb (allB_iff.mpr (fun i hi => hall i (by omega)))))
    · show AW X 0 0 8 [some (.ref 33), some (.ref q), some (.int (nI j))] [] T I J R
      have h1n : ¬ c ≤ j := fun q9 => h1 ((nI_leI (a := c) (b := j) (by omega) (by omega)).mpr q9)
      refine aw_aload_n hC dX2_hasAllOf_8 rfl ?_
      refine aw_aload_n hC dX2_hasAllOf_9 rfl ?_
      refine aw_iload_n hC dX2_hasAllOf_10 rfl ?_
      refine aw_iaload_k (j := j) hC dX2_hasAllOf_11 hq9 (nI_clamp (by omega)) (vp_in_nI (by omega) (by omega)) ?_
      refine kX2_175 hC rfl (m_X2_hasAction (I := I) hT hR (l := l) hl hl8 (I q j)) dX2_hasAllOf_12 (tg_33 hT) rfl a_le a_le a_le a_le a_le rfl aPure_x (aPure_k ?_)
      show AW X 0 0 15 [some (.ref 33), some (.ref q), some (.int (nI j))] [.int (bI (anyB (fun k => decide (I 35 k = I q j)) l))] T I J R
      refine aw_if_ne (tgt := 20) hC dX2_hasAllOf_15 (by decide) (fun h2 => ?_) (fun h2 => ?_)
      · show AW X 0 0 20 [some (.ref 33), some (.ref q), some (.int (nI j))] [] T I J R
        refine aw_iinc (v := nI (j + 1)) (L2 := [some (.ref 33), some (.ref q), some (.int (nI (j + 1)))]) hC dX2_hasAllOf_20 rfl (nI_inc _) (by decide) rfl ?_
        refine aw_goto (tgt := 2) hC dX2_hasAllOf_23 (by decide) ?_
        exact ih_j (by omega) (fun i hi => by by_cases e : i = j; (rw [e]; exact bI_n0.mp (by assumption)); exact hall i (by omega))
      · show AW X 0 0 18 [some (.ref 33), some (.ref q), some (.int (nI j))] [] T I J R
        refine aw_iconst (v := 0) hC dX2_hasAllOf_18 (by decide) ?_
        exact aw_zreturn hC hq rfl (Or.inl rfl) dX2_hasAllOf_19 a_le a_le (aPure_i (bI_nb (allB_fl (k := j) (by omega) (bI_e0.mp (by assumption)))))
  exact loop 0 (Nat.zero_le _) (fun i hi => absurd hi (by omega))
set_option maxRecDepth 100000 in
theorem m_X2_hasAllOfN {T : List aT} {I : aI} {J : aJ} {R : aR} (hT : aPT T) (hR : aPR R) (hl : I 33 5 = -1) {q c : Nat} (hq9 : T[q]? = some (.inl (.int, c))) (hc8 : c ≤ 128) : MX2_hasAllOf 0 0 [.ref 33, .ref q] T I J R (aPure (some (.int 0)) T I J R) := by
  refine a_met (by decide +kernel) a_le (fun X hC hq => ?_)
  show AW X 0 0 0 [some (.ref 33), some (.ref q), none] [] T I J R
  refine aw_iconst (v := 0) hC dX2_hasAllOf_0 (by decide) ?_
  refine aw_istore_n (L2 := [some (.ref 33), some (.ref q), some (.int 0)]) hC dX2_hasAllOf_1 rfl (by decide) rfl ?_
  refine aw_iload_n hC dX2_hasAllOf_2 rfl ?_
  refine aw_aload_n hC dX2_hasAllOf_3 rfl ?_
  refine aw_alen (v := nI c) hC dX2_hasAllOf_4 hq9 rfl ?_
  by_cases hc0 : c = 0
  · rw [hc0]
    refine aw_icmp_ge (tgt := 26) hC dX2_hasAllOf_5 (by decide) (fun _ => ?_) (fun h => absurd (by decide) h)
    show AW X 0 0 26 [some (.ref 33), some (.ref q), some (.int 0)] [] T I J R
    refine aw_aload_n hC dX2_hasAllOf_26 rfl ?_
    refine aw_getI hC dX2_hasAllOf_27 aF_X2_153 rfl (tg_33 hT) ?_
    rw [hl]
    refine aw_iconst (v := (-1)) hC dX2_hasAllOf_30 (by decide) ?_
    refine aw_icmp_eq (tgt := 38) hC dX2_hasAllOf_31 (by decide) (fun _ => ?_) (fun h => absurd rfl h)
    show AW X 0 0 38 [some (.ref 33), some (.ref q), some (.int 0)] [] T I J R
    refine aw_iconst (v := 0) hC dX2_hasAllOf_38 (by decide) ?_
    exact aw_zreturn hC hq rfl (Or.inl rfl) dX2_hasAllOf_39 a_le a_le (aPure_i (by rfl))
  · refine aw_icmp_ge (tgt := 26) hC dX2_hasAllOf_5 (by decide) (fun h => absurd ((nI_leI (a := c) (b := 0) (by omega) (by omega)).mp h) (by omega)) (fun _ => ?_)
    show AW X 0 0 8 [some (.ref 33), some (.ref q), some (.int 0)] [] T I J R
    refine aw_aload_n hC dX2_hasAllOf_8 rfl ?_
    refine aw_aload_n hC dX2_hasAllOf_9 rfl ?_
    refine aw_iload_n hC dX2_hasAllOf_10 rfl ?_
    refine aw_iaload_k (j := 0) hC dX2_hasAllOf_11 hq9 (by decide) (show vp_in (nI 0) c from vp_in_nI (by omega) (by omega)) ?_
    refine kX2_175 hC rfl (m_X2_hasActionN (I := I) hT hR hl (I q 0)) dX2_hasAllOf_12 (tg_33 hT) rfl a_le a_le a_le a_le a_le rfl aPure_x (aPure_k ?_)
    show AW X 0 0 15 [some (.ref 33), some (.ref q), some (.int 0)] [.int 0] T I J R
    refine aw_if_ne (tgt := 20) hC dX2_hasAllOf_15 (by decide) (fun h1 => absurd h1 (by decide)) (fun _ => ?_)
    show AW X 0 0 18 [some (.ref 33), some (.ref q), some (.int 0)] [] T I J R
    refine aw_iconst (v := 0) hC dX2_hasAllOf_18 (by decide) ?_
    exact aw_zreturn hC hq rfl (Or.inl rfl) dX2_hasAllOf_19 a_le a_le (aPure_i (by rfl))
