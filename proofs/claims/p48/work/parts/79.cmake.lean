set_option maxRecDepth 100000 in
theorem m_X4_addGenerator {T : List aT} {I : aI} {J : aJ} {R : aR} (hT : aPT T) (hR : aPR R) {g : Nat} (hgn : I 19 2 = nI g) (hg4 : g < 4) (t : Int32) : MX4_addGenerator 3 15 [.ref 19, .int t] T I J R (aRelT (fun v T2 I2 J2 R2 => v = some (.int (nI g)) ∧ T2 = T ++ [.inr 5, .inl (.int, 8), .inl (.int, 3)] ∧ I2 = a_u (a_fill (a_u I T.length 0 t) (T.length + 2) 3 (fun _ => (-1))) 19 2 (nI (g + 1)) ∧ J2 = J ∧ R2 = a_u (a_u (a_u R T.length 1 (some (T.length + 1))) T.length 3 (some (T.length + 2))) 21 g (some T.length) ∧ aPR R2)) := by
  refine a_met (by decide +kernel) a_le (fun X hC hq => ?_)
  show AW X 0 0 0 [some (.ref 19), some (.int t)] [] T I J R
  have h95 := hT.len
  refine aw_aload_n hC dX4_addGenerator_0 rfl ?_
  refine aw_getR hC dX4_addGenerator_1 aF_X4_19 rfl (tg_19 hT) (pr_19_1 hR) ?_
  refine aw_aload_n hC dX4_addGenerator_4 rfl ?_
  refine aw_getI hC dX4_addGenerator_5 aF_X4_44 rfl (tg_19 hT) ?_
  rw [hgn]
  refine aw_new hC dX4_addGenerator_8 aK_X5 gW_X4_17 gB_X5 gN_X5 a_le a_le ?_
  obtain ⟨q0, hq0⟩ : ∃ q0, T.length = q0 := ⟨_, rfl⟩
  rw [hq0]
  obtain ⟨T1, hTT1⟩ : ∃ T1, T1 = T ++ [.inr 5] := ⟨_, rfl⟩
  rw [← hTT1]
  have hA1 := T_ap1 hq0 hTT1
  have hp1 : T <+: T1 := hA1.1
  show AW X (0 + 1) (0 + a_nf 5) 11 [some (.ref 19), some (.int t)] [.ref q0, .int (nI g), .ref 21] T1 I J R
  refine aw_dup hC dX4_addGenerator_11 rfl ?_
  refine aw_iload_n hC dX4_addGenerator_12 rfl ?_
  refine kX4_83 hC rfl (m_X5_init (I := I) (J := J) hA1.2.1 hA1.2.2 hR (by omega) (r := t)) dX4_addGenerator_13 rfl a_le a_le a_le a_le a_le rfl aPure_x (aPure_k ?_)
  obtain ⟨T2, hTT2⟩ : ∃ T2, T2 = T1 ++ [.inl (.int, 8), .inl (.int, 3)] := ⟨_, rfl⟩
  have hA2 := T_ap2 hA1.2.1 hTT2
  have hp2 : T1 <+: T2 := hA2.1
  rw [← hTT2]
  have hR1 : aPR (a_u (a_u R q0 1 (some (q0 + 1))) q0 3 (some (q0 + 2))) := ((hR).putD (by omega)).putD (by omega)
  show AW X ((0 + 1) + 2) ((0 + a_nf 5) + 11) 16 [some (.ref 19), some (.int t)] [.ref q0, .int (nI g), .ref 21] T2 (a_fill (a_u I q0 0 t) (q0 + 2) 3 (fun _ => (-1))) J (a_u (a_u R q0 1 (some (q0 + 1))) q0 3 (some (q0 + 2)))
  refine aw_aastoreR_k (j := g) hC dX4_addGenerator_16 (tg_21 ((hT.next hp1).next hp2)) (nI_clamp (by omega)) (vp_in_nI (by omega) (by decide)) (a_pfx hp2 hA1.2.2) rfl ?_
  have hR2 : aPR (a_u (a_u (a_u R q0 1 (some (q0 + 1))) q0 3 (some (q0 + 2))) 21 g (some q0)) := hR1.put (fun q9 h9 e9 => by have := a_refs_no21 q9 h9; omega)
  refine aw_aload_n hC dX4_addGenerator_17 rfl ?_
  refine aw_dup hC dX4_addGenerator_18 rfl ?_
  refine aw_getI hC dX4_addGenerator_19 aF_X4_44 rfl (tg_19 ((hT.next hp1).next hp2)) ?_
  rw [(show (a_fill (a_u I q0 0 t) (q0 + 2) 3 (fun _ => (-1))) 19 2 = nI g from by rw [a_fill_ne (by omega), a_u_row (by omega)]; exact hgn)]
  refine aw_iconst (v := 1) hC dX4_addGenerator_22 (by decide) ?_
  refine aw_iadd hC dX4_addGenerator_23 ?_
  rw [show (nI g) + 1 = nI (g + 1) from nI_add g 1]
  refine aw_putI hC dX4_addGenerator_24 aF_X4_44 rfl rfl (tg_19 ((hT.next hp1).next hp2)) ?_
  refine aw_aload_n hC dX4_addGenerator_27 rfl ?_
  refine aw_getI hC dX4_addGenerator_28 aF_X4_44 rfl (tg_19 ((hT.next hp1).next hp2)) ?_
  rw [a_u_self (f := a_fill (a_u I q0 0 t) (q0 + 2) 3 (fun _ => (-1))) (o := 19) (k := 2) (v := nI (g + 1))]
  refine aw_iconst (v := 1) hC dX4_addGenerator_31 (by decide) ?_
  refine aw_isub hC dX4_addGenerator_32 ?_
  rw [show (nI (g + 1)) - 1 = nI ((g + 1) - 1) from pk_sub (a := (g + 1)) (b := 1) (by omega)]
  exact aw_ireturn hC hq rfl dX4_addGenerator_33 a_le a_le ⟨_, rfl, rfl, by rw [hTT2, hTT1, List.append_assoc]; rfl, by rw [hq0], rfl, by rw [hq0], by assumption⟩
theorem CGn.frq {T : List aT} {I I2 : aI} {R R2 : aR} {m : aI} {g n : Nat} {gq : Nat → Nat} (h : CGn T I R m g gq) (hT : aPT T) (hn : T.length = n) (hf : ∀ o, o < n → I2 o = I o) (hR : ∀ o, o < n → R2 o = R o) : CGn T I2 R2 m g gq := by
  have h95 := hT.len
  refine ⟨by rw [hf 19 (by omega)]; exact h.1, fun i hi => ⟨by rw [hR 21 (by omega)]; exact h.rf hi, ?_⟩, h.2.2⟩
  have l0 := a_rel_lt (h.tg hi)
  have l1 := a_rel_lt (h.t1 hi)
  have l2 := a_rel_lt (h.t2 hi)
  have q := h.at hi
  unfold GnAt at *
  rw [hf _ (by omega), hf _ (by omega), hf _ (by omega), hR _ (by omega)]
  exact q
theorem CEn.frq {T : List aT} {I I2 : aI} {R R2 : aR} {m : aI} {n : Nat} {eq : Nat → Nat} (h : CEn T I R m eq) (hT : aPT T) (hn : T.length = n) (hf : ∀ o, o < n → I2 o = I o) (hR : ∀ o, o < n → R2 o = R o) : CEn T I2 R2 m eq := by
  have h95 := hT.len
  refine ⟨fun x hx => ⟨fun h0 => by rw [hR 25 (by omega)]; exact h.no hx h0, fun h0 => ⟨by rw [hR 25 (by omega)]; exact h.rf hx h0, ?_⟩⟩, h.2⟩
  have l0 := a_rel_lt (h.tg hx h0)
  have l1 := a_rel_lt (h.t1 hx h0)
  have l2 := a_rel_lt (h.t2 hx h0)
  have q := h.at hx h0
  unfold EnAt at *
  rw [hf _ (by omega), hf _ (by omega), hf _ (by omega), hR _ (by omega)]
  exact q
/-- the values of an entry that is imported: those that are not write-only -/
abbrev imR (I m : aI) (x r k : Nat) : Nat → Int32 := fun j => if j < k ∧ m 58 (3 * iN m 62 (x / 16) + j) &&& 4 = 0 then I 23 (3 * r + j) else 0
theorem imR_n {I m : aI} {x r k : Nat} (h : m 58 (3 * iN m 62 (x / 16) + k) &&& 4 ≠ 0) (j : Nat) : imR I m x r k j = imR I m x r (k + 1) j := by
  simp only [imR]
  by_cases e : j = k
  · rw [e, if_neg (fun q => by omega), if_neg (fun q => h q.2)]
  · by_cases c : j < k ∧ m 58 (3 * iN m 62 (x / 16) + j) &&& 4 = 0
    · rw [if_pos c, if_pos ⟨by omega, c.2⟩]
    · rw [if_neg c, if_neg (fun q => c ⟨by omega, q.2⟩)]
theorem imR_y {I m : aI} {x r k : Nat} (h : ¬ m 58 (3 * iN m 62 (x / 16) + k) &&& 4 ≠ 0) (j : Nat) : (if j = k then I 23 (3 * r + k) else imR I m x r k j) = imR I m x r (k + 1) j := by
  simp only [imR]
  by_cases e : j = k
  · rw [if_pos e, e, if_pos ⟨by omega, Decidable.not_not.mp h⟩]
  · rw [if_neg e]
    by_cases c : j < k ∧ m 58 (3 * iN m 62 (x / 16) + j) &&& 4 = 0
    · rw [if_pos c, if_pos ⟨by omega, c.2⟩]
    · rw [if_neg c, if_neg (fun q => c ⟨by omega, q.2⟩)]
set_option maxRecDepth 100000 in
theorem m_X4_importResource {T : List aT} {I : aI} {J : aJ} {R : aR} (hT : aPT T) (hR : aPR R) {m : aI} {g : Nat} {gq : Nat → Nat} (hG : CGn T I R m g gq) (hg : GW m g) (hY : CTy I m) {x r : Nat} (hx : x < 16 * g) (hr60 : r < 60) : MX4_importResource 3 11 [.ref 19, .int (nI x), .int (nI r)] T I J R (aRelT (fun v T2 I2 J2 R2 => v = none ∧ T2 = T ++ [.inr 3, .inl (.int, 3), .inl (.int, 3)] ∧ I2 = a_ur (a_u I T.length 0 (nI r)) (T.length + 1) (imR I m x r 3) ∧ J2 = J ∧ R2 = a_u (a_u (a_u R T.length 1 (some (T.length + 1))) T.length 4 (some (T.length + 2))) 25 x (some T.length) ∧ aPR R2)) := by
  refine a_met (by decide +kernel) a_le (fun X hC hq => ?_)
  show AW X 0 0 0 [some (.ref 19), some (.int (nI x)), some (.int (nI r)), none, none] [] T I J R
  have hg4 := hg.g4
  have hty := hg.ty (x / 16) (by omega)
  have h95 := hT.len
  refine aw_ok (fun hz => ?_)
  refine aw_new hC dX4_importResource_0 aK_X3 gW_X4_34 gB_X3 gN_X3 a_le a_le ?_
  obtain ⟨q0, hq0⟩ : ∃ q0, T.length = q0 := ⟨_, rfl⟩
  rw [hq0]
  obtain ⟨T1, hTT1⟩ : ∃ T1, T1 = T ++ [.inr 3] := ⟨_, rfl⟩
  rw [← hTT1]
  have hA1 := T_ap1 hq0 hTT1
  have hp1 : T <+: T1 := hA1.1
  show AW X (0 + 1) (0 + a_nf 3) 3 [some (.ref 19), some (.int (nI x)), some (.int (nI r)), none, none] [.ref q0] T1 I J R
  refine aw_dup hC dX4_importResource_3 rfl ?_
  refine aw_iload_n hC dX4_importResource_4 rfl ?_
  refine kX4_86 hC rfl (m_X3_init (I := I) (J := J) hA1.2.1 hA1.2.2 hR (by omega) (r := nI r)) dX4_importResource_5 rfl a_le a_le a_le a_le a_le rfl aPure_x (aPure_k ?_)
  obtain ⟨T2, hTT2⟩ : ∃ T2, T2 = T1 ++ [.inl (.int, 3), .inl (.int, 3)] := ⟨_, rfl⟩
  have hA2 := T_ap2 hA1.2.1 hTT2
  have hp2 : T1 <+: T2 := hA2.1
  rw [← hTT2]
  have hR1 : aPR (a_u (a_u R q0 1 (some (q0 + 1))) q0 4 (some (q0 + 2))) := ((hR).putD (by omega)).putD (by omega)
  show AW X ((0 + 1) + 2) ((0 + a_nf 3) + 6) 8 [some (.ref 19), some (.int (nI x)), some (.int (nI r)), none, none] [.ref q0] T2 (a_u I q0 0 (nI r)) J (a_u (a_u R q0 1 (some (q0 + 1))) q0 4 (some (q0 + 2)))
  refine aw_astore_n (L2 := [some (.ref 19), some (.int (nI x)), some (.int (nI r)), some (.ref q0), none]) hC dX4_importResource_8 rfl (by decide) rfl ?_
  refine aw_iconst (v := 0) hC dX4_importResource_9 (by decide) ?_
  refine aw_istore (L2 := [some (.ref 19), some (.int (nI x)), some (.int (nI r)), some (.ref q0), some (.int 0)]) hC dX4_importResource_10 (by decide) rfl ?_
  have hz0 : ∀ j, (a_u I q0 0 (nI r)) (q0 + 1) j = 0 := fun j => by rw [a_u_row (by omega), (hz (q0 + 1) (by omega)).1]
  refine aw_setI (I2 := a_ur (a_u I q0 0 (nI r)) (q0 + 1) (imR I m x r 0)) (a_ur_id (fun j => by rw [hz0]; simp only [imR]; rw [if_neg (by omega)])).symm ?_
  have loop : ∀ k, k ≤ 3 → AW X ((0 + 1) + 2) ((0 + a_nf 3) + 6) 12 [some (.ref 19), some (.int (nI x)), some (.int (nI r)), some (.ref q0), some (.int (nI k))] [] T2 (a_ur (a_u I q0 0 (nI r)) (q0 + 1) (imR I m x r k)) J (a_u (a_u R q0 1 (some (q0 + 1))) q0 4 (some (q0 + 2))) := by
    refine a_down 3 (fun k hk_k ih_k => ?_)
    have hfr : ∀ o, o < q0 → (a_ur (a_u I q0 0 (nI r)) (q0 + 1) (imR I m x r k)) o = I o := fun o ho => by rw [a_ur_ne (by omega), a_u_row (by omega)]
    have hG2 : CGn T2 (a_ur (a_u I q0 0 (nI r)) (q0 + 1) (imR I m x r k)) (a_u (a_u R q0 1 (some (q0 + 1))) q0 4 (some (q0 + 2))) m g gq := ((hG.frq hT (by omega) (fun o ho => hfr o ho) (fun o ho => by rw [a_u_row (by omega), a_u_row (by omega)])).next hp1).next hp2
    have hY2 : CTy (a_ur (a_u I q0 0 (nI r)) (q0 + 1) (imR I m x r k)) m := hY.fr (fun o h1 h2 => hfr o (by omega))
    refine aw_iload hC dX4_importResource_12 rfl ?_
    refine aw_iconst (v := 3) hC dX4_importResource_14 (by decide) ?_
    refine aw_icmp_ge (tgt := 56) hC dX4_importResource_15 (by decide) (fun h2 => ?_) (fun h2 => ?_)
    · show AW X ((0 + 1) + 2) ((0 + a_nf 3) + 6) 56 [some (.ref 19), some (.int (nI x)), some (.int (nI r)), some (.ref q0), some (.int (nI k))] [] T2 (a_ur (a_u I q0 0 (nI r)) (q0 + 1) (imR I m x r k)) J (a_u (a_u R q0 1 (some (q0 + 1))) q0 4 (some (q0 + 2)))
      have h2n : 3 ≤ k := (nI_leI (a := 3) (b := k) (by omega) (by omega)).mp h2
      refine aw_aload_n hC dX4_importResource_56 rfl ?_
      refine aw_getR hC dX4_importResource_57 aF_X4_36 rfl (tg_19 ((hT.next hp1).next hp2)) (pr_19_7 hR1) ?_
      refine aw_iload_n hC dX4_importResource_60 rfl ?_
      refine aw_aload_n hC dX4_importResource_61 rfl ?_
      refine aw_aastoreR_k (j := x) hC dX4_importResource_62 (tg_25 ((hT.next hp1).next hp2)) (nI_clamp (by omega)) (vp_in_nI (by omega) (by decide)) (a_pfx hp2 hA1.2.2) rfl ?_
      have hR3 : aPR (a_u (a_u (a_u R q0 1 (some (q0 + 1))) q0 4 (some (q0 + 2))) 25 x (some q0)) := hR1.put (fun q9 h9 e9 => by have := a_refs_no25 q9 h9; omega)
      exact aw_return hC hq rfl dX4_importResource_63 a_le a_le ⟨_, rfl, rfl, by rw [hTT2, hTT1, List.append_assoc]; rfl, by rw [hq0, show k = 3 by omega], rfl, by rw [hq0], by assumption⟩
    · show AW X ((0 + 1) + 2) ((0 + a_nf 3) + 6) 18 [some (.ref 19), some (.int (nI x)), some (.int (nI r)), some (.ref q0), some (.int (nI k))] [] T2 (a_ur (a_u I q0 0 (nI r)) (q0 + 1) (imR I m x r k)) J (a_u (a_u R q0 1 (some (q0 + 1))) q0 4 (some (q0 + 2)))
      have h2n : ¬ 3 ≤ k := fun q9 => h2 ((nI_leI (a := 3) (b := k) (by omega) (by omega)).mpr q9)
      refine aw_aload_n hC dX4_importResource_18 rfl ?_
      refine aw_iload_n hC dX4_importResource_19 rfl ?_
      refine kX4_87 hC rfl (m_X4_typeOf (I := a_ur (a_u I q0 0 (nI r)) (q0 + 1) (imR I m x r k)) ((hT.next hp1).next hp2) hR1 hG2 hg (x := x) (by omega)) dX4_importResource_20 (tg_19 ((hT.next hp1).next hp2)) rfl a_le a_le a_le a_le a_le rfl aPure_x (aPure_k ?_)
      show AW X ((0 + 1) + 2) ((0 + a_nf 3) + 6) 23 [some (.ref 19), some (.int (nI x)), some (.int (nI r)), some (.ref q0), some (.int (nI k))] [.ref (27 + 2 * (iN m 62 (x / 16)))] T2 (a_ur (a_u I q0 0 (nI r)) (q0 + 1) (imR I m x r k)) J (a_u (a_u R q0 1 (some (q0 + 1))) q0 4 (some (q0 + 2)))
      refine aw_iload hC dX4_importResource_23 rfl ?_
      refine aw_iconst (v := 4) hC dX4_importResource_25 (by decide) ?_
      refine kX4_74 hC rfl (m_X9_is (I := a_ur (a_u I q0 0 (nI r)) (q0 + 1) (imR I m x r k)) ((hT.next hp1).next hp2) hR1 hY2 (t := (iN m 62 (x / 16))) (a := k) (by omega) (by omega) (4 : Int32)) dX4_importResource_26 (a_pfx hp2 (a_pfx hp1 (ty_tg hT (by omega)))) rfl a_le a_le a_le a_le a_le rfl aPure_x (aPure_k ?_)
      show AW X ((0 + 1) + 2) ((0 + a_nf 3) + 6) 29 [some (.ref 19), some (.int (nI x)), some (.int (nI r)), some (.ref q0), some (.int (nI k))] [.int (bI (decide (m 58 (3 * (iN m 62 (x / 16)) + k) &&& (4 : Int32) ≠ 0)))] T2 (a_ur (a_u I q0 0 (nI r)) (q0 + 1) (imR I m x r k)) J (a_u (a_u R q0 1 (some (q0 + 1))) q0 4 (some (q0 + 2)))
      refine aw_if_ne (tgt := 50) hC dX4_importResource_29 (by decide) (fun h4 => ?_) (fun h4 => ?_)
      · show AW X ((0 + 1) + 2) ((0 + a_nf 3) + 6) 50 [some (.ref 19), some (.int (nI x)), some (.int (nI r)), some (.ref q0), some (.int (nI k))] [] T2 (a_ur (a_u I q0 0 (nI r)) (q0 + 1) (imR I m x r k)) J (a_u (a_u R q0 1 (some (q0 + 1))) q0 4 (some (q0 + 2)))
        refine aw_iinc (v := nI (k + 1)) (L2 := [some (.ref 19), some (.int (nI x)), some (.int (nI r)), some (.ref q0), some (.int (nI (k + 1)))]) hC dX4_importResource_50 rfl (nI_inc _) (by decide) rfl ?_
        refine aw_goto (tgt := 12) hC dX4_importResource_53 (by decide) ?_
        rw [show a_ur (a_u I q0 0 (nI r)) (q0 + 1) (imR I m x r k) = a_ur (a_u I q0 0 (nI r)) (q0 + 1) (imR I m x r (k + 1)) from a_ur_ext (imR_n (bI_dn.mp (by assumption)))]
        exact ih_k (by omega)
      · show AW X ((0 + 1) + 2) ((0 + a_nf 3) + 6) 32 [some (.ref 19), some (.int (nI x)), some (.int (nI r)), some (.ref q0), some (.int (nI k))] [] T2 (a_ur (a_u I q0 0 (nI r)) (q0 + 1) (imR I m x r k)) J (a_u (a_u R q0 1 (some (q0 + 1))) q0 4 (some (q0 + 2)))
        refine aw_aload_n hC dX4_importResource_32 rfl ?_
        refine aw_getR hC dX4_importResource_33 aF_X4_90 rfl (a_pfx hp2 hA1.2.2) (by rw [a_u_ne (by omega), a_u_self]) ?_
        refine aw_iload hC dX4_importResource_36 rfl ?_
        refine aw_aload_n hC dX4_importResource_38 rfl ?_
        refine aw_getR hC dX4_importResource_39 aF_X4_27 rfl (tg_19 ((hT.next hp1).next hp2)) (pr_19_4 hR1) ?_
        refine aw_iload_n hC dX4_importResource_42 rfl ?_
        refine aw_iconst (v := 3) hC dX4_importResource_43 (by decide) ?_
        refine aw_imul hC dX4_importResource_44 ?_
        rw [show (nI r) * 3 = nI (r * 3) from pk_mul r 3]
        refine aw_iload hC dX4_importResource_45 rfl ?_
        refine aw_iadd hC dX4_importResource_47 ?_
        rw [show (nI (r * 3)) + (nI k) = nI ((r * 3) + k) from nI_add (r * 3) k]
        refine aw_iaload_k (j := ((r * 3) + k)) hC dX4_importResource_48 (tg_23 ((hT.next hp1).next hp2)) (nI_clamp (by omega)) (vp_in_nI (by omega) (by decide)) ?_
        rw [a_ur_ne (f := a_u I q0 0 (nI r)) (o := (q0 + 1)) (a := 23) (g := imR I m x r k) (show 23 ≠ q0 + 1 by omega)]
        rw [a_u_ne (f := I) (o := q0) (k := 0) (a := 23) (b := ((r * 3) + k)) (v := nI r) (fun q9 => absurd q9.1 (show 23 ≠ q0 by omega))]
        rw [(show I 23 ((r * 3) + k) = I 23 (3 * r + k) from by rw [Nat.mul_comm])]
        refine aw_iastore_k (j := k) hC dX4_importResource_49 hA2.2.2.1 (nI_clamp (by omega)) (vp_in_nI (by omega) (by decide)) ?_
        refine aw_iinc (v := nI (k + 1)) (L2 := [some (.ref 19), some (.int (nI x)), some (.int (nI r)), some (.ref q0), some (.int (nI (k + 1)))]) hC dX4_importResource_50 rfl (nI_inc _) (by decide) rfl ?_
        refine aw_goto (tgt := 12) hC dX4_importResource_53 (by decide) ?_
        rw [show a_u (a_ur (a_u I q0 0 (nI r)) (q0 + 1) (imR I m x r k)) (q0 + 1) k (I 23 (3 * r + k)) = a_ur (a_u I q0 0 (nI r)) (q0 + 1) (imR I m x r (k + 1)) from by rw [a_ur_put]; exact a_ur_ext (imR_y (bI_d0.mp (by assumption)))]
        exact ih_k (by omega)
  exact loop 0 (Nat.zero_le _)
