theorem aw_top {X : aX} {cells slots pc : Nat} {L : List (Option Value)} {v v2 : Int32} {st : List Value} {T : List aT} {I : aI} {J : aJ} {R : aR} (h : v = v2) (k : AW X cells slots pc L (.int v2 :: st) T I J R) : AW X cells slots pc L (.int v :: st) T I J R := by rw [h]; exact k
abbrev mkE (m : aI) (mj : aJ) (x k : Nat) : Nat → Int32 := fun j => if j < k then mkV m mj x j else 0
abbrev mkC (I m : aI) (mj : aJ) (x r k : Nat) : Nat → Int32 := fun j => if 3 * r ≤ j ∧ j < 3 * r + k then mkV m mj x (j - 3 * r) else I 23 j
theorem mkE_p {m : aI} {mj : aJ} {x k : Nat} (j : Nat) : (if j = k then mkV m mj x k else mkE m mj x k j) = mkE m mj x (k + 1) j := by
  simp only [mkE]
  by_cases e : j = k
  · rw [if_pos e, if_pos (by omega), e]
  · rw [if_neg e]
    by_cases c : j < k
    · rw [if_pos c, if_pos (by omega)]
    · rw [if_neg c, if_neg (by omega)]
theorem mkC_p {I m : aI} {mj : aJ} {x r k : Nat} (j : Nat) : (if j = (r * 3) + k then mkV m mj x k else mkC I m mj x r k j) = mkC I m mj x r (k + 1) j := by
  simp only [mkC]
  by_cases e : j = r * 3 + k
  · rw [if_pos e, if_pos (by omega), show j - 3 * r = k by omega]
  · rw [if_neg e]
    by_cases c : 3 * r ≤ j ∧ j < 3 * r + k
    · rw [if_pos c, if_pos (by omega)]
    · rw [if_neg c, if_neg (by omega)]
set_option maxRecDepth 100000 in
theorem m_X0_makeResource {T : List aT} {I : aI} {J : aJ} {R : aR} (hT : aPT T) (hR : aPR R) {m : aI} {g : Nat} {gq : Nat → Nat} (hG : CGn T I R m g gq) (hg : GW m g) (hY : CTy I m) {eq : Nat → Nat} (hE : CEn T I R m eq) {x : Nat} (hx : x < 16 * g) {mj : aJ} {r : Nat} (hRs : CRs I m r) (hr59 : r < 60) {md : Nat} (hmd : I 26 x = nI md) (hmd9 : md < 300) (hmd2 : iN m 74 x = md) {hw : Nat} (hhw : hw < 3) (hGv : ∀ a, a < 3 → I 34 (3 * x + a) = sGives m mj x a) (h40 : I 40 x = -1) : MX0_makeResource 3 11 [.ref 38, .int (nI x), .int (nI hw)] T I J R (aRelT (fun v T2 I2 J2 R2 => v = none ∧ T2 = T ++ [.inr 3, .inl (.int, 3), .inl (.int, 3)] ∧ I2 = (if hw = 2 then (a_ur (a_ur (a_u (a_u (a_u (a_u (a_u I 22 r (nI (iN m 62 (x / 16)))) 19 6 (nI (r + 1))) 26 x (nI (md + 1))) T.length 0 (nI r)) T.length 2 (bI (decide (hw = 1)))) (T.length + 1) (mkE m mj x 3)) 23 (mkC I m mj x r 3)) else a_u (a_ur (a_ur (a_u (a_u (a_u (a_u (a_u I 22 r (nI (iN m 62 (x / 16)))) 19 6 (nI (r + 1))) 26 x (nI (md + 1))) T.length 0 (nI r)) T.length 2 (bI (decide (hw = 1)))) (T.length + 1) (mkE m mj x 3)) 23 (mkC I m mj x r 3)) 40 x (m 69 x - 1)) ∧ J2 = J ∧ R2 = (if hw = 2 then (a_u (a_u R T.length 1 (some (T.length + 1))) T.length 4 (some (T.length + 2))) else a_u (a_u (a_u R T.length 1 (some (T.length + 1))) T.length 4 (some (T.length + 2))) 25 x (some T.length)) ∧ aPR R2)) := by
  refine a_met (by decide +kernel) a_le (fun X hC hq => ?_)
  show AW X 0 0 0 [some (.ref 38), some (.int (nI x)), some (.int (nI hw)), none, none, none, none, none, none] [] T I J R
  have hg4 := hg.g4
  have hty := hg.ty (x / 16) (by omega)
  have h95 := hT.len
  have hmd9 := hmd
  refine aw_ok (fun hz => ?_)
  refine aw_aload_n hC dX0_makeResource_0 rfl ?_
  refine aw_getR hC dX0_makeResource_1 aF_X0_19 rfl (tg_38 hT) (pr_38_1 hR) ?_
  refine aw_iload_n hC dX0_makeResource_4 rfl ?_
  refine kX0_99 hC rfl (m_X4_typeOf (I := I) hT hR hG hg (x := x) (by omega)) dX0_makeResource_5 (tg_19 hT) rfl a_le a_le a_le a_le a_le rfl aPure_x (aPure_k ?_)
  show AW X 0 0 8 [some (.ref 38), some (.int (nI x)), some (.int (nI hw)), none, none, none, none, none, none] [.ref (27 + 2 * (iN m 62 (x / 16)))] T I J R
  refine aw_astore_n (L2 := [some (.ref 38), some (.int (nI x)), some (.int (nI hw)), some (.ref (27 + 2 * (iN m 62 (x / 16)))), none, none, none, none, none]) hC dX0_makeResource_8 rfl (by decide) rfl ?_
  refine aw_aload_n hC dX0_makeResource_9 rfl ?_
  refine aw_getR hC dX0_makeResource_10 aF_X0_19 rfl (tg_38 hT) (pr_38_1 hR) ?_
  refine aw_aload_n hC dX0_makeResource_13 rfl ?_
  refine aw_getR hC dX0_makeResource_14 aF_X0_19 rfl (tg_38 hT) (pr_38_1 hR) ?_
  refine aw_iload_n hC dX0_makeResource_17 rfl ?_
  refine kX0_103 hC rfl (m_X4_typeNumberOf (I := I) hT hR hG hg (x := x) (by omega)) dX0_makeResource_18 (tg_19 hT) rfl a_le a_le a_le a_le a_le rfl aPure_x (aPure_k ?_)
  show AW X 0 0 21 [some (.ref 38), some (.int (nI x)), some (.int (nI hw)), some (.ref (27 + 2 * (iN m 62 (x / 16)))), none, none, none, none, none] [.int (nI (iN m 62 (x / 16))), .ref 19] T I J R
  refine kX0_107 hC rfl (m_X4_addResource (I := I) hT hR (r := r) hRs.cnt hr59 (nI (iN m 62 (x / 16)))) dX0_makeResource_21 (tg_19 hT) rfl a_le a_le a_le a_le a_le rfl aPure_x (aPure_k ?_)
  have hG1 : CGn T (a_u (a_u I 22 r (nI (iN m 62 (x / 16)))) 19 6 (nI (r + 1))) R m g gq := hG.fr hT (fun o ho => by rw [a_u_row (by omega), a_u_row (by omega)]) (by rw [a_u_ne (by decide), a_u_row (by decide)])
  have hY1 : CTy (a_u (a_u I 22 r (nI (iN m 62 (x / 16)))) 19 6 (nI (r + 1))) m := hY.fr (fun o h1 h2 => by rw [a_u_row (by omega), a_u_row (by omega)])
  show AW X 0 0 24 [some (.ref 38), some (.int (nI x)), some (.int (nI hw)), some (.ref (27 + 2 * (iN m 62 (x / 16)))), none, none, none, none, none] [.int (nI r)] T (a_u (a_u I 22 r (nI (iN m 62 (x / 16)))) 19 6 (nI (r + 1))) J R
  refine aw_istore (L2 := [some (.ref 38), some (.int (nI x)), some (.int (nI hw)), some (.ref (27 + 2 * (iN m 62 (x / 16)))), some (.int (nI r)), none, none, none, none]) hC dX0_makeResource_24 (by decide) rfl ?_
  refine aw_aload_n hC dX0_makeResource_26 rfl ?_
  refine aw_getR hC dX0_makeResource_27 aF_X0_19 rfl (tg_38 hT) (pr_38_1 hR) ?_
  refine aw_iload_n hC dX0_makeResource_30 rfl ?_
  refine kX0_110 hC rfl (m_X4_takeComputedValue (I := a_u (a_u I 22 r (nI (iN m 62 (x / 16)))) 19 6 (nI (r + 1))) hT hR hG1 hg hY1 (x := x) (k := md) (by omega) (by rw [a_u_row (by decide), a_u_row (by decide)]; exact hmd) (by omega)) dX0_makeResource_31 (tg_19 hT) rfl a_le a_le a_le a_le a_le rfl aPure_x (aPure_k ?_)
  show AW X 0 0 34 [some (.ref 38), some (.int (nI x)), some (.int (nI hw)), some (.ref (27 + 2 * (iN m 62 (x / 16)))), some (.int (nI r)), none, none, none, none] [.int (nI ((x + 7 * md) % 64) <<< (nI (iN m 61 (iN m 62 (x / 16))) &&& 31))] T (a_u (a_u (a_u I 22 r (nI (iN m 62 (x / 16)))) 19 6 (nI (r + 1))) 26 x (nI (md + 1))) J R
  refine aw_istore (L2 := [some (.ref 38), some (.int (nI x)), some (.int (nI hw)), some (.ref (27 + 2 * (iN m 62 (x / 16)))), some (.int (nI r)), some (.int (nI ((x + 7 * md) % 64) <<< (nI (iN m 61 (iN m 62 (x / 16))) &&& 31))), none, none, none]) hC dX0_makeResource_34 (by decide) rfl ?_
  refine aw_new hC dX0_makeResource_36 aK_X3 gW_X0_113 gB_X3 gN_X3 a_le a_le ?_
  obtain ⟨q0, hq0⟩ : ∃ q0, T.length = q0 := ⟨_, rfl⟩
  rw [hq0]
  obtain ⟨T1, hTT1⟩ : ∃ T1, T1 = T ++ [.inr 3] := ⟨_, rfl⟩
  rw [← hTT1]
  have hA1 := T_ap1 hq0 hTT1
  have hp1 : T <+: T1 := hA1.1
  show AW X (0 + 1) (0 + a_nf 3) 39 [some (.ref 38), some (.int (nI x)), some (.int (nI hw)), some (.ref (27 + 2 * (iN m 62 (x / 16)))), some (.int (nI r)), some (.int (nI ((x + 7 * md) % 64) <<< (nI (iN m 61 (iN m 62 (x / 16))) &&& 31))), none, none, none] [.ref q0] T1 (a_u (a_u (a_u I 22 r (nI (iN m 62 (x / 16)))) 19 6 (nI (r + 1))) 26 x (nI (md + 1))) J R
  refine aw_dup hC dX0_makeResource_39 rfl ?_
  refine aw_iload hC dX0_makeResource_40 rfl ?_
  refine kX0_115 hC rfl (m_X3_init (I := a_u (a_u (a_u I 22 r (nI (iN m 62 (x / 16)))) 19 6 (nI (r + 1))) 26 x (nI (md + 1))) (J := J) hA1.2.1 hA1.2.2 hR (by omega) (r := nI r)) dX0_makeResource_42 rfl a_le a_le a_le a_le a_le rfl aPure_x (aPure_k ?_)
  obtain ⟨T2, hTT2⟩ : ∃ T2, T2 = T1 ++ [.inl (.int, 3), .inl (.int, 3)] := ⟨_, rfl⟩
  have hA2 := T_ap2 hA1.2.1 hTT2
  have hp2 : T1 <+: T2 := hA2.1
  rw [← hTT2]
  have hR1 : aPR (a_u (a_u R q0 1 (some (q0 + 1))) q0 4 (some (q0 + 2))) := ((hR).putD (by omega)).putD (by omega)
  show AW X ((0 + 1) + 2) ((0 + a_nf 3) + 6) 45 [some (.ref 38), some (.int (nI x)), some (.int (nI hw)), some (.ref (27 + 2 * (iN m 62 (x / 16)))), some (.int (nI r)), some (.int (nI ((x + 7 * md) % 64) <<< (nI (iN m 61 (iN m 62 (x / 16))) &&& 31))), none, none, none] [.ref q0] T2 (a_u (a_u (a_u (a_u I 22 r (nI (iN m 62 (x / 16)))) 19 6 (nI (r + 1))) 26 x (nI (md + 1))) q0 0 (nI r)) J (a_u (a_u R q0 1 (some (q0 + 1))) q0 4 (some (q0 + 2)))
  refine aw_astore (L2 := [some (.ref 38), some (.int (nI x)), some (.int (nI hw)), some (.ref (27 + 2 * (iN m 62 (x / 16)))), some (.int (nI r)), some (.int (nI ((x + 7 * md) % 64) <<< (nI (iN m 61 (iN m 62 (x / 16))) &&& 31))), some (.ref q0), none, none]) hC dX0_makeResource_45 (by decide) rfl ?_
  refine aw_aload hC dX0_makeResource_47 rfl ?_
  refine aw_iload_n hC dX0_makeResource_49 rfl ?_
  refine aw_iconst (v := 1) hC dX0_makeResource_50 (by decide) ?_
  have join59 : AW X ((0 + 1) + 2) ((0 + a_nf 3) + 6) 59 [some (.ref 38), some (.int (nI x)), some (.int (nI hw)), some (.ref (27 + 2 * (iN m 62 (x / 16)))), some (.int (nI r)), some (.int (nI ((x + 7 * md) % 64) <<< (nI (iN m 61 (iN m 62 (x / 16))) &&& 31))), some (.ref q0), none, none] [.int (bI (decide (hw = 1))), .ref q0] T2 (a_u (a_u (a_u (a_u I 22 r (nI (iN m 62 (x / 16)))) 19 6 (nI (r + 1))) 26 x (nI (md + 1))) q0 0 (nI r)) J (a_u (a_u R q0 1 (some (q0 + 1))) q0 4 (some (q0 + 2))) := by
    refine aw_putZ hC dX0_makeResource_59 aF_X0_118 rfl rfl (a_pfx hp2 hA1.2.2) (bI_01 _) ?_
    refine aw_iconst (v := 0) hC dX0_makeResource_62 (by decide) ?_
    refine aw_istore (L2 := [some (.ref 38), some (.int (nI x)), some (.int (nI hw)), some (.ref (27 + 2 * (iN m 62 (x / 16)))), some (.int (nI r)), some (.int (nI ((x + 7 * md) % 64) <<< (nI (iN m 61 (iN m 62 (x / 16))) &&& 31))), some (.ref q0), some (.int 0), none]) hC dX0_makeResource_63 (by decide) rfl ?_
    have hz1 : ∀ j, (a_u (a_u (a_u (a_u (a_u I 22 r (nI (iN m 62 (x / 16)))) 19 6 (nI (r + 1))) 26 x (nI (md + 1))) q0 0 (nI r)) q0 2 (bI (decide (hw = 1)))) (q0 + 1) j = 0 := fun j => by rw [a_u_row (by omega), a_u_row (by omega), a_u_row (by omega), a_u_row (by omega), a_u_row (by omega), (hz (q0 + 1) (by omega)).1]
    have h230 : ∀ j, (a_u (a_u (a_u (a_u (a_u I 22 r (nI (iN m 62 (x / 16)))) 19 6 (nI (r + 1))) 26 x (nI (md + 1))) q0 0 (nI r)) q0 2 (bI (decide (hw = 1)))) 23 j = I 23 j := fun j => by rw [a_u_row (by omega), a_u_row (by omega), a_u_row (by omega), a_u_row (by omega), a_u_row (by omega)]
    refine aw_setI (I2 := a_ur (a_ur (a_u (a_u (a_u (a_u (a_u I 22 r (nI (iN m 62 (x / 16)))) 19 6 (nI (r + 1))) 26 x (nI (md + 1))) q0 0 (nI r)) q0 2 (bI (decide (hw = 1)))) (q0 + 1) (mkE m mj x 0)) 23 (mkC I m mj x r 0)) (by rw [a_ur_id (f := a_u (a_u (a_u (a_u (a_u I 22 r (nI (iN m 62 (x / 16)))) 19 6 (nI (r + 1))) 26 x (nI (md + 1))) q0 0 (nI r)) q0 2 (bI (decide (hw = 1)))) (o := q0 + 1) (fun j => by rw [hz1]; exact if_neg (by omega)), a_ur_id (fun j => by rw [h230]; exact if_neg (by omega))]) ?_
    have loop : ∀ k, k ≤ 3 → AW X ((0 + 1) + 2) ((0 + a_nf 3) + 6) 65 [some (.ref 38), some (.int (nI x)), some (.int (nI hw)), some (.ref (27 + 2 * (iN m 62 (x / 16)))), some (.int (nI r)), some (.int (nI ((x + 7 * md) % 64) <<< (nI (iN m 61 (iN m 62 (x / 16))) &&& 31))), some (.ref q0), some (.int (nI k)), none] [] T2 (a_ur (a_ur (a_u (a_u (a_u (a_u (a_u I 22 r (nI (iN m 62 (x / 16)))) 19 6 (nI (r + 1))) 26 x (nI (md + 1))) q0 0 (nI r)) q0 2 (bI (decide (hw = 1)))) (q0 + 1) (mkE m mj x k)) 23 (mkC I m mj x r k)) J (a_u (a_u R q0 1 (some (q0 + 1))) q0 4 (some (q0 + 2))) := by
      refine a_down 3 (fun k hk_k ih_k => ?_)
      have hY2 : CTy (a_ur (a_ur (a_u (a_u (a_u (a_u (a_u I 22 r (nI (iN m 62 (x / 16)))) 19 6 (nI (r + 1))) 26 x (nI (md + 1))) q0 0 (nI r)) q0 2 (bI (decide (hw = 1)))) (q0 + 1) (mkE m mj x k)) 23 (mkC I m mj x r k)) m := hY.fr (fun o h1 h2 => by rw [a_ur_ne (by omega), a_ur_ne (by omega), a_u_row (by omega), a_u_row (by omega), a_u_row (by omega), a_u_row (by omega), a_u_row (by omega)])
      refine aw_iload hC dX0_makeResource_65 rfl ?_
      refine aw_iconst (v := 3) hC dX0_makeResource_67 (by decide) ?_
      refine aw_icmp_ge (tgt := 141) hC dX0_makeResource_68 (by decide) (fun h2 => ?_) (fun h2 => ?_)
      · show AW X ((0 + 1) + 2) ((0 + a_nf 3) + 6) 141 [some (.ref 38), some (.int (nI x)), some (.int (nI hw)), some (.ref (27 + 2 * (iN m 62 (x / 16)))), some (.int (nI r)), some (.int (nI ((x + 7 * md) % 64) <<< (nI (iN m 61 (iN m 62 (x / 16))) &&& 31))), some (.ref q0), some (.int (nI k)), none] [] T2 (a_ur (a_ur (a_u (a_u (a_u (a_u (a_u I 22 r (nI (iN m 62 (x / 16)))) 19 6 (nI (r + 1))) 26 x (nI (md + 1))) q0 0 (nI r)) q0 2 (bI (decide (hw = 1)))) (q0 + 1) (mkE m mj x k)) 23 (mkC I m mj x r k)) J (a_u (a_u R q0 1 (some (q0 + 1))) q0 4 (some (q0 + 2)))
        have h2n : 3 ≤ k := (nI_leI (a := 3) (b := k) (by omega) (by omega)).mp h2
        have e9 : k = 3 := by omega
        subst e9
        show AW X ((0 + 1) + 2) ((0 + a_nf 3) + 6) 141 [some (.ref 38), some (.int (nI x)), some (.int (nI hw)), some (.ref (27 + 2 * (iN m 62 (x / 16)))), some (.int (nI r)), some (.int (nI ((x + 7 * md) % 64) <<< (nI (iN m 61 (iN m 62 (x / 16))) &&& 31))), some (.ref q0), some (.int (nI 3)), none] [] T2 (a_ur (a_ur (a_u (a_u (a_u (a_u (a_u I 22 r (nI (iN m 62 (x / 16)))) 19 6 (nI (r + 1))) 26 x (nI (md + 1))) q0 0 (nI r)) q0 2 (bI (decide (hw = 1)))) (q0 + 1) (mkE m mj x 3)) 23 (mkC I m mj x r 3)) J (a_u (a_u R q0 1 (some (q0 + 1))) q0 4 (some (q0 + 2)))
        refine aw_iload_n hC dX0_makeResource_141 rfl ?_
        refine aw_iconst (v := 2) hC dX0_makeResource_142 (by decide) ?_
        refine aw_icmp_ne (tgt := 147) hC dX0_makeResource_143 (by decide) (fun h3 => ?_) (fun h3 => ?_)
        · show AW X ((0 + 1) + 2) ((0 + a_nf 3) + 6) 147 [some (.ref 38), some (.int (nI x)), some (.int (nI hw)), some (.ref (27 + 2 * (iN m 62 (x / 16)))), some (.int (nI r)), some (.int (nI ((x + 7 * md) % 64) <<< (nI (iN m 61 (iN m 62 (x / 16))) &&& 31))), some (.ref q0), some (.int (nI 3)), none] [] T2 (a_ur (a_ur (a_u (a_u (a_u (a_u (a_u I 22 r (nI (iN m 62 (x / 16)))) 19 6 (nI (r + 1))) 26 x (nI (md + 1))) q0 0 (nI r)) q0 2 (bI (decide (hw = 1)))) (q0 + 1) (mkE m mj x 3)) 23 (mkC I m mj x r 3)) J (a_u (a_u R q0 1 (some (q0 + 1))) q0 4 (some (q0 + 2)))
          have h3n : ¬ hw = 2 := fun q9 => h3 ((nI_eq (a := hw) (b := 2) (by omega) (by omega)).mpr q9)
          refine aw_aload_n hC dX0_makeResource_147 rfl ?_
          refine aw_getR hC dX0_makeResource_148 aF_X0_19 rfl (tg_38 ((hT.next hp1).next hp2)) (pr_38_1 hR1) ?_
          refine aw_getR hC dX0_makeResource_151 aF_X0_132 rfl (tg_19 ((hT.next hp1).next hp2)) (pr_19_7 hR1) ?_
          refine aw_iload_n hC dX0_makeResource_154 rfl ?_
          by_cases h69 : m 69 x = 0
          · refine aw_aaloadN_k (j := x) hC dX0_makeResource_155 (tg_25 ((hT.next hp1).next hp2)) (nI_clamp (by omega)) (vp_in_nI (by omega) (by decide)) (by rw [a_u_row (by omega), a_u_row (by omega)]; exact hE.no (by omega) h69) ?_
            refine aw_ifnullN (tgt := 177) hC dX0_makeResource_156 (by decide) ?_
            refine aw_aload_n hC dX0_makeResource_177 rfl ?_
            refine aw_getR hC dX0_makeResource_178 aF_X0_19 rfl (tg_38 ((hT.next hp1).next hp2)) (pr_38_1 hR1) ?_
            refine aw_getR hC dX0_makeResource_181 aF_X0_132 rfl (tg_19 ((hT.next hp1).next hp2)) (pr_19_7 hR1) ?_
            refine aw_iload_n hC dX0_makeResource_184 rfl ?_
            refine aw_aload hC dX0_makeResource_185 rfl ?_
            refine aw_aastoreR_k (j := x) hC dX0_makeResource_187 (tg_25 ((hT.next hp1).next hp2)) (nI_clamp (by omega)) (vp_in_nI (by omega) (by decide)) (a_pfx hp2 hA1.2.2) rfl ?_
            have hR4 : aPR (a_u (a_u (a_u R q0 1 (some (q0 + 1))) q0 4 (some (q0 + 2))) 25 x (some q0)) := hR1.put (fun q9 h9 e9 => by have := a_refs_no25 q9 h9; omega)
            exact aw_return hC hq rfl dX0_makeResource_188 a_le a_le ⟨_, rfl, rfl, by rw [hTT2, hTT1, List.append_assoc]; rfl, by rw [hq0, if_neg (show ¬ hw = 2 by omega)]; exact (a_u_same (by rw [a_ur_ne (by decide), a_ur_ne (by omega), a_u_row (by omega), a_u_row (by omega), a_u_row (by decide), a_u_row (by decide), a_u_row (by decide), h40, h69]; rfl)).symm, rfl, by rw [hq0, if_neg (show ¬ hw = 2 by omega)], by assumption⟩
          · have hel := a_rel_lt (hE.tg (show x < 64 by omega) h69)
            have heg := hE.ge hT (show x < 64 by omega) h69
            refine aw_aaloadR_k (j := x) hC dX0_makeResource_155 (tg_25 ((hT.next hp1).next hp2)) (nI_clamp (by omega)) (vp_in_nI (by omega) (by decide)) (by rw [a_u_row (by omega), a_u_row (by omega)]; exact hE.rf (by omega) h69) ?_
            refine aw_ifnull hC dX0_makeResource_156 ?_
            refine aw_aload_n hC dX0_makeResource_159 rfl ?_
            refine aw_getR hC dX0_makeResource_160 aF_X0_15 rfl (tg_38 ((hT.next hp1).next hp2)) (pr_38_7 hR1) ?_
            refine aw_iload_n hC dX0_makeResource_163 rfl ?_
            refine aw_aload_n hC dX0_makeResource_164 rfl ?_
            refine aw_getR hC dX0_makeResource_165 aF_X0_19 rfl (tg_38 ((hT.next hp1).next hp2)) (pr_38_1 hR1) ?_
            refine aw_getR hC dX0_makeResource_168 aF_X0_132 rfl (tg_19 ((hT.next hp1).next hp2)) (pr_19_7 hR1) ?_
            refine aw_iload_n hC dX0_makeResource_171 rfl ?_
            refine aw_aaloadR_k (j := x) hC dX0_makeResource_172 (tg_25 ((hT.next hp1).next hp2)) (nI_clamp (by omega)) (vp_in_nI (by omega) (by decide)) (by rw [a_u_row (by omega), a_u_row (by omega)]; exact hE.rf (by omega) h69) ?_
            refine aw_getI hC dX0_makeResource_173 aF_X0_136 rfl (a_pfx hp2 (a_pfx hp1 (hE.tg (by omega) h69))) ?_
            rw [a_ur_ne (f := a_ur (a_u (a_u (a_u (a_u (a_u I 22 r (nI (iN m 62 (x / 16)))) 19 6 (nI (r + 1))) 26 x (nI (md + 1))) q0 0 (nI r)) q0 2 (bI (decide (hw = 1)))) (q0 + 1) (mkE m mj x 3)) (o := 23) (a := (eq x)) (g := mkC I m mj x r 3) (show eq x ≠ 23 by omega)]
            rw [a_ur_ne (f := a_u (a_u (a_u (a_u (a_u I 22 r (nI (iN m 62 (x / 16)))) 19 6 (nI (r + 1))) 26 x (nI (md + 1))) q0 0 (nI r)) q0 2 (bI (decide (hw = 1)))) (o := (q0 + 1)) (a := (eq x)) (g := mkE m mj x 3) (show eq x ≠ (q0 + 1) by omega)]
            rw [a_u_ne (f := a_u (a_u (a_u (a_u I 22 r (nI (iN m 62 (x / 16)))) 19 6 (nI (r + 1))) 26 x (nI (md + 1))) q0 0 (nI r)) (o := q0) (k := 2) (a := (eq x)) (b := 0) (v := bI (decide (hw = 1))) (fun q => absurd q.2 (by decide))]
            rw [a_u_ne (f := a_u (a_u (a_u I 22 r (nI (iN m 62 (x / 16)))) 19 6 (nI (r + 1))) 26 x (nI (md + 1))) (o := q0) (k := 0) (a := (eq x)) (b := 0) (v := nI r) (fun q9 => absurd q9.1 (show eq x ≠ q0 by omega))]
            rw [a_u_ne (f := a_u (a_u I 22 r (nI (iN m 62 (x / 16)))) 19 6 (nI (r + 1))) (o := 26) (k := x) (a := (eq x)) (b := 0) (v := nI (md + 1)) (fun q9 => absurd q9.1 (show eq x ≠ 26 by omega))]
            rw [a_u_ne (f := a_u I 22 r (nI (iN m 62 (x / 16)))) (o := 19) (k := 6) (a := (eq x)) (b := 0) (v := nI (r + 1)) (fun q => absurd q.2 (by decide))]
            rw [a_u_ne (f := I) (o := 22) (k := r) (a := (eq x)) (b := 0) (v := nI (iN m 62 (x / 16))) (fun q9 => absurd q9.1 (show eq x ≠ 22 by omega))]
            rw [(hE.rs (by omega) h69)]
            refine aw_iastore_k (j := x) hC dX0_makeResource_176 (tg_40 ((hT.next hp1).next hp2)) (nI_clamp (by omega)) (vp_in_nI (by omega) (by decide)) ?_
            rw [show a_u (a_ur (a_ur (a_u (a_u (a_u (a_u (a_u I 22 r (nI (iN m 62 (x / 16)))) 19 6 (nI (r + 1))) 26 x (nI (md + 1))) q0 0 (nI r)) q0 2 (bI (decide (hw = 1)))) (q0 + 1) (mkE m mj x 3)) 23 (mkC I m mj x r 3)) 40 x (m 69 x - 1) = a_ur (a_ur (a_u (a_u (a_u (a_u (a_u (a_u I 22 r (nI (iN m 62 (x / 16)))) 19 6 (nI (r + 1))) 26 x (nI (md + 1))) q0 0 (nI r)) q0 2 (bI (decide (hw = 1)))) 40 x (m 69 x - 1)) (q0 + 1) (mkE m mj x 3)) 23 (mkC I m mj x r 3) from by rw [a_u_swap (by first | decide | omega), a_u_swap (by first | decide | omega)]]
            refine aw_aload_n hC dX0_makeResource_177 rfl ?_
            refine aw_getR hC dX0_makeResource_178 aF_X0_19 rfl (tg_38 ((hT.next hp1).next hp2)) (pr_38_1 hR1) ?_
            refine aw_getR hC dX0_makeResource_181 aF_X0_132 rfl (tg_19 ((hT.next hp1).next hp2)) (pr_19_7 hR1) ?_
            refine aw_iload_n hC dX0_makeResource_184 rfl ?_
            refine aw_aload hC dX0_makeResource_185 rfl ?_
            refine aw_aastoreR_k (j := x) hC dX0_makeResource_187 (tg_25 ((hT.next hp1).next hp2)) (nI_clamp (by omega)) (vp_in_nI (by omega) (by decide)) (a_pfx hp2 hA1.2.2) rfl ?_
            have hR5 : aPR (a_u (a_u (a_u R q0 1 (some (q0 + 1))) q0 4 (some (q0 + 2))) 25 x (some q0)) := hR1.put (fun q9 h9 e9 => by have := a_refs_no25 q9 h9; omega)
            exact aw_return hC hq rfl dX0_makeResource_188 a_le a_le ⟨_, rfl, rfl, by rw [hTT2, hTT1, List.append_assoc]; rfl, by rw [hq0, if_neg (show ¬ hw = 2 by omega), a_u_swap (by decide), a_u_swap (by omega)], rfl, by rw [hq0, if_neg (show ¬ hw = 2 by omega)], by assumption⟩
        · show AW X ((0 + 1) + 2) ((0 + a_nf 3) + 6) 146 [some (.ref 38), some (.int (nI x)), some (.int (nI hw)), some (.ref (27 + 2 * (iN m 62 (x / 16)))), some (.int (nI r)), some (.int (nI ((x + 7 * md) % 64) <<< (nI (iN m 61 (iN m 62 (x / 16))) &&& 31))), some (.ref q0), some (.int (nI 3)), none] [] T2 (a_ur (a_ur (a_u (a_u (a_u (a_u (a_u I 22 r (nI (iN m 62 (x / 16)))) 19 6 (nI (r + 1))) 26 x (nI (md + 1))) q0 0 (nI r)) q0 2 (bI (decide (hw = 1)))) (q0 + 1) (mkE m mj x 3)) 23 (mkC I m mj x r 3)) J (a_u (a_u R q0 1 (some (q0 + 1))) q0 4 (some (q0 + 2)))
          have h3n : hw = 2 := (nI_eq (a := hw) (b := 2) (by omega) (by omega)).mp h3
          exact aw_return hC hq rfl dX0_makeResource_146 a_le a_le ⟨_, rfl, rfl, by rw [hTT2, hTT1, List.append_assoc]; rfl, by rw [hq0, if_pos (show hw = 2 by omega)], rfl, by rw [hq0, if_pos (show hw = 2 by omega)], by assumption⟩
      · show AW X ((0 + 1) + 2) ((0 + a_nf 3) + 6) 71 [some (.ref 38), some (.int (nI x)), some (.int (nI hw)), some (.ref (27 + 2 * (iN m 62 (x / 16)))), some (.int (nI r)), some (.int (nI ((x + 7 * md) % 64) <<< (nI (iN m 61 (iN m 62 (x / 16))) &&& 31))), some (.ref q0), some (.int (nI k)), none] [] T2 (a_ur (a_ur (a_u (a_u (a_u (a_u (a_u I 22 r (nI (iN m 62 (x / 16)))) 19 6 (nI (r + 1))) 26 x (nI (md + 1))) q0 0 (nI r)) q0 2 (bI (decide (hw = 1)))) (q0 + 1) (mkE m mj x k)) 23 (mkC I m mj x r k)) J (a_u (a_u R q0 1 (some (q0 + 1))) q0 4 (some (q0 + 2)))
        have h2n : ¬ 3 ≤ k := fun q9 => h2 ((nI_leI (a := 3) (b := k) (by omega) (by omega)).mpr q9)
        refine aw_iload_n hC dX0_makeResource_71 rfl ?_
        refine aw_iconst (v := 3) hC dX0_makeResource_72 (by decide) ?_
        refine aw_imul hC dX0_makeResource_73 ?_
        rw [show (nI x) * 3 = nI (x * 3) from pk_mul x 3]
        refine aw_iload hC dX0_makeResource_74 rfl ?_
        refine aw_iadd hC dX0_makeResource_76 ?_
        rw [show (nI (x * 3)) + (nI k) = nI ((x * 3) + k) from nI_add (x * 3) k]
        refine aw_istore (L2 := [some (.ref 38), some (.int (nI x)), some (.int (nI hw)), some (.ref (27 + 2 * (iN m 62 (x / 16)))), some (.int (nI r)), some (.int (nI ((x + 7 * md) % 64) <<< (nI (iN m 61 (iN m 62 (x / 16))) &&& 31))), some (.ref q0), some (.int (nI k)), some (.int (nI ((x * 3) + k)))]) hC dX0_makeResource_77 (by decide) rfl ?_
        refine aw_aload hC dX0_makeResource_79 rfl ?_
        refine aw_getR hC dX0_makeResource_81 aF_X0_121 rfl (a_pfx hp2 hA1.2.2) (by rw [a_u_ne (by omega), a_u_self]) ?_
        refine aw_iload hC dX0_makeResource_84 rfl ?_
        refine aw_aload_n hC dX0_makeResource_86 rfl ?_
        refine aw_iload hC dX0_makeResource_87 rfl ?_
        refine aw_iconst (v := 2) hC dX0_makeResource_89 (by decide) ?_
        refine kX0_124 hC rfl (m_X9_is (I := a_ur (a_ur (a_u (a_u (a_u (a_u (a_u I 22 r (nI (iN m 62 (x / 16)))) 19 6 (nI (r + 1))) 26 x (nI (md + 1))) q0 0 (nI r)) q0 2 (bI (decide (hw = 1)))) (q0 + 1) (mkE m mj x k)) 23 (mkC I m mj x r k)) ((hT.next hp1).next hp2) hR1 hY2 (t := (iN m 62 (x / 16))) (a := k) (by omega) (by omega) (2 : Int32)) dX0_makeResource_90 (a_pfx hp2 (a_pfx hp1 (ty_tg hT (by omega)))) rfl a_le a_le a_le a_le a_le rfl aPure_x (aPure_k ?_)
        show AW X ((0 + 1) + 2) ((0 + a_nf 3) + 6) 93 [some (.ref 38), some (.int (nI x)), some (.int (nI hw)), some (.ref (27 + 2 * (iN m 62 (x / 16)))), some (.int (nI r)), some (.int (nI ((x + 7 * md) % 64) <<< (nI (iN m 61 (iN m 62 (x / 16))) &&& 31))), some (.ref q0), some (.int (nI k)), some (.int (nI ((x * 3) + k)))] [.int (bI (decide (m 58 (3 * (iN m 62 (x / 16)) + k) &&& (2 : Int32) ≠ 0))), .int (nI k), .ref (q0 + 1)] T2 (a_ur (a_ur (a_u (a_u (a_u (a_u (a_u I 22 r (nI (iN m 62 (x / 16)))) 19 6 (nI (r + 1))) 26 x (nI (md + 1))) q0 0 (nI r)) q0 2 (bI (decide (hw = 1)))) (q0 + 1) (mkE m mj x k)) 23 (mkC I m mj x r k)) J (a_u (a_u R q0 1 (some (q0 + 1))) q0 4 (some (q0 + 2)))
        refine aw_if_eq (tgt := 101) hC dX0_makeResource_93 (by decide) (fun h6 => ?_) (fun h6 => ?_)
        · show AW X ((0 + 1) + 2) ((0 + a_nf 3) + 6) 101 [some (.ref 38), some (.int (nI x)), some (.int (nI hw)), some (.ref (27 + 2 * (iN m 62 (x / 16)))), some (.int (nI r)), some (.int (nI ((x + 7 * md) % 64) <<< (nI (iN m 61 (iN m 62 (x / 16))) &&& 31))), some (.ref q0), some (.int (nI k)), some (.int (nI ((x * 3) + k)))] [.int (nI k), .ref (q0 + 1)] T2 (a_ur (a_ur (a_u (a_u (a_u (a_u (a_u I 22 r (nI (iN m 62 (x / 16)))) 19 6 (nI (r + 1))) 26 x (nI (md + 1))) q0 0 (nI r)) q0 2 (bI (decide (hw = 1)))) (q0 + 1) (mkE m mj x k)) 23 (mkC I m mj x r k)) J (a_u (a_u R q0 1 (some (q0 + 1))) q0 4 (some (q0 + 2)))
          refine aw_aload_n hC dX0_makeResource_101 rfl ?_
          refine aw_getR hC dX0_makeResource_102 aF_X0_23 rfl (tg_38 ((hT.next hp1).next hp2)) (pr_38_2 hR1) ?_
          refine aw_getR hC dX0_makeResource_105 aF_X0_83 rfl (tg_33 ((hT.next hp1).next hp2)) (pr_33_0 hR1) ?_
          refine aw_iload hC dX0_makeResource_108 rfl ?_
          refine aw_iaload_k (j := ((x * 3) + k)) hC dX0_makeResource_110 (tg_34 ((hT.next hp1).next hp2)) (nI_clamp (by omega)) (vp_in_nI (by omega) (by decide)) ?_
          rw [a_ur_ne (f := a_ur (a_u (a_u (a_u (a_u (a_u I 22 r (nI (iN m 62 (x / 16)))) 19 6 (nI (r + 1))) 26 x (nI (md + 1))) q0 0 (nI r)) q0 2 (bI (decide (hw = 1)))) (q0 + 1) (mkE m mj x k)) (o := 23) (a := 34) (g := mkC I m mj x r k) (by decide)]
          rw [a_ur_ne (f := a_u (a_u (a_u (a_u (a_u I 22 r (nI (iN m 62 (x / 16)))) 19 6 (nI (r + 1))) 26 x (nI (md + 1))) q0 0 (nI r)) q0 2 (bI (decide (hw = 1)))) (o := (q0 + 1)) (a := 34) (g := mkE m mj x k) (show 34 ≠ (q0 + 1) by omega)]
          rw [a_u_ne (f := a_u (a_u (a_u (a_u I 22 r (nI (iN m 62 (x / 16)))) 19 6 (nI (r + 1))) 26 x (nI (md + 1))) q0 0 (nI r)) (o := q0) (k := 2) (a := 34) (b := ((x * 3) + k)) (v := bI (decide (hw = 1))) (fun q9 => absurd q9.1 (show 34 ≠ q0 by omega))]
          rw [a_u_ne (f := a_u (a_u (a_u I 22 r (nI (iN m 62 (x / 16)))) 19 6 (nI (r + 1))) 26 x (nI (md + 1))) (o := q0) (k := 0) (a := 34) (b := ((x * 3) + k)) (v := nI r) (fun q9 => absurd q9.1 (show 34 ≠ q0 by omega))]
          rw [a_u_ne (f := a_u (a_u I 22 r (nI (iN m 62 (x / 16)))) 19 6 (nI (r + 1))) (o := 26) (k := x) (a := 34) (b := ((x * 3) + k)) (v := nI (md + 1)) (fun q => absurd q.1 (by decide))]
          rw [a_u_ne (f := a_u I 22 r (nI (iN m 62 (x / 16)))) (o := 19) (k := 6) (a := 34) (b := ((x * 3) + k)) (v := nI (r + 1)) (fun q => absurd q.1 (by decide))]
          rw [a_u_ne (f := I) (o := 22) (k := r) (a := 34) (b := ((x * 3) + k)) (v := nI (iN m 62 (x / 16))) (fun q => absurd q.1 (by decide))]
          refine aw_top (v2 := mkV m mj x k) (by unfold mkV; rw [if_neg (bI_d0.mp (by assumption)), Nat.mul_comm]; exact hGv k (by omega)) ?_
          refine aw_iastore_k (j := k) hC dX0_makeResource_111 hA2.2.2.1 (nI_clamp (by omega)) (vp_in_nI (by omega) (by decide)) ?_
          rw [show a_u (a_ur (a_ur (a_u (a_u (a_u (a_u (a_u I 22 r (nI (iN m 62 (x / 16)))) 19 6 (nI (r + 1))) 26 x (nI (md + 1))) q0 0 (nI r)) q0 2 (bI (decide (hw = 1)))) (q0 + 1) (mkE m mj x k)) 23 (mkC I m mj x r k)) (q0 + 1) k (mkV m mj x k) = a_ur (a_ur (a_u (a_u (a_u (a_u (a_u I 22 r (nI (iN m 62 (x / 16)))) 19 6 (nI (r + 1))) 26 x (nI (md + 1))) q0 0 (nI r)) q0 2 (bI (decide (hw = 1)))) (q0 + 1) (fun j => if j = k then mkV m mj x k else (mkE m mj x k) j)) 23 (mkC I m mj x r k) from by rw [a_u_swap (by first | decide | omega), a_ur_put]]
          refine aw_aload_n hC dX0_makeResource_112 rfl ?_
          refine aw_getR hC dX0_makeResource_113 aF_X0_19 rfl (tg_38 ((hT.next hp1).next hp2)) (pr_38_1 hR1) ?_
          refine aw_getR hC dX0_makeResource_116 aF_X0_129 rfl (tg_19 ((hT.next hp1).next hp2)) (pr_19_4 hR1) ?_
          refine aw_iload hC dX0_makeResource_119 rfl ?_
          refine aw_iconst (v := 3) hC dX0_makeResource_121 (by decide) ?_
          refine aw_imul hC dX0_makeResource_122 ?_
          rw [show (nI r) * 3 = nI (r * 3) from pk_mul r 3]
          refine aw_iload hC dX0_makeResource_123 rfl ?_
          refine aw_iadd hC dX0_makeResource_125 ?_
          rw [show (nI (r * 3)) + (nI k) = nI ((r * 3) + k) from nI_add (r * 3) k]
          refine aw_aload hC dX0_makeResource_126 rfl ?_
          refine aw_getR hC dX0_makeResource_128 aF_X0_121 rfl (a_pfx hp2 hA1.2.2) (by rw [a_u_ne (by omega), a_u_self]) ?_
          refine aw_iload hC dX0_makeResource_131 rfl ?_
          refine aw_iaload_k (j := k) hC dX0_makeResource_133 hA2.2.2.1 (nI_clamp (by omega)) (vp_in_nI (by omega) (by decide)) ?_
          rw [a_ur_ne (f := a_ur (a_u (a_u (a_u (a_u (a_u I 22 r (nI (iN m 62 (x / 16)))) 19 6 (nI (r + 1))) 26 x (nI (md + 1))) q0 0 (nI r)) q0 2 (bI (decide (hw = 1)))) (q0 + 1) (fun j => if j = k then mkV m mj x k else (mkE m mj x k) j)) (o := 23) (a := (q0 + 1)) (g := mkC I m mj x r k) (show q0 + 1 ≠ 23 by omega)]
          rw [a_ur_self (f := a_u (a_u (a_u (a_u (a_u I 22 r (nI (iN m 62 (x / 16)))) 19 6 (nI (r + 1))) 26 x (nI (md + 1))) q0 0 (nI r)) q0 2 (bI (decide (hw = 1)))) (o := (q0 + 1)) (g := fun j => if j = k then mkV m mj x k else (mkE m mj x k) j)]
          refine aw_top (v2 := mkV m mj x k) (if_pos rfl) ?_
          refine aw_iastore_k (j := ((r * 3) + k)) hC dX0_makeResource_134 (tg_23 ((hT.next hp1).next hp2)) (nI_clamp (by omega)) (vp_in_nI (by omega) (by decide)) ?_
          rw [show a_u (a_ur (a_ur (a_u (a_u (a_u (a_u (a_u I 22 r (nI (iN m 62 (x / 16)))) 19 6 (nI (r + 1))) 26 x (nI (md + 1))) q0 0 (nI r)) q0 2 (bI (decide (hw = 1)))) (q0 + 1) (fun j => if j = k then mkV m mj x k else (mkE m mj x k) j)) 23 (mkC I m mj x r k)) 23 ((r * 3) + k) (mkV m mj x k) = a_ur (a_ur (a_u (a_u (a_u (a_u (a_u I 22 r (nI (iN m 62 (x / 16)))) 19 6 (nI (r + 1))) 26 x (nI (md + 1))) q0 0 (nI r)) q0 2 (bI (decide (hw = 1)))) (q0 + 1) (fun j => if j = k then mkV m mj x k else (mkE m mj x k) j)) 23 (fun j => if j = ((r * 3) + k) then mkV m mj x k else (mkC I m mj x r k) j) from by rw [a_ur_put]]
          refine aw_iinc (v := nI (k + 1)) (L2 := [some (.ref 38), some (.int (nI x)), some (.int (nI hw)), some (.ref (27 + 2 * (iN m 62 (x / 16)))), some (.int (nI r)), some (.int (nI ((x + 7 * md) % 64) <<< (nI (iN m 61 (iN m 62 (x / 16))) &&& 31))), some (.ref q0), some (.int (nI (k + 1))), some (.int (nI ((x * 3) + k)))]) hC dX0_makeResource_135 rfl (nI_inc _) (by decide) rfl ?_
          refine aw_goto (tgt := 65) hC dX0_makeResource_138 (by decide) ?_
          refine aw_forget 8 (L2 := [some (.ref 38), some (.int (nI x)), some (.int (nI hw)), some (.ref (27 + 2 * (iN m 62 (x / 16)))), some (.int (nI r)), some (.int (nI ((x + 7 * md) % 64) <<< (nI (iN m 61 (iN m 62 (x / 16))) &&& 31))), some (.ref q0), some (.int (nI (k + 1))), none]) rfl ?_
          rw [show a_ur (a_ur (a_u (a_u (a_u (a_u (a_u I 22 r (nI (iN m 62 (x / 16)))) 19 6 (nI (r + 1))) 26 x (nI (md + 1))) q0 0 (nI r)) q0 2 (bI (decide (hw = 1)))) (q0 + 1) (fun j => if j = k then mkV m mj x k else (mkE m mj x k) j)) 23 (fun j => if j = ((r * 3) + k) then mkV m mj x k else (mkC I m mj x r k) j) = a_ur (a_ur (a_u (a_u (a_u (a_u (a_u I 22 r (nI (iN m 62 (x / 16)))) 19 6 (nI (r + 1))) 26 x (nI (md + 1))) q0 0 (nI r)) q0 2 (bI (decide (hw = 1)))) (q0 + 1) (mkE m mj x (k + 1))) 23 (mkC I m mj x r (k + 1)) from a_ur_cg (a_ur_ext mkE_p) mkC_p]
          exact ih_k (by omega)
        · show AW X ((0 + 1) + 2) ((0 + a_nf 3) + 6) 96 [some (.ref 38), some (.int (nI x)), some (.int (nI hw)), some (.ref (27 + 2 * (iN m 62 (x / 16)))), some (.int (nI r)), some (.int (nI ((x + 7 * md) % 64) <<< (nI (iN m 61 (iN m 62 (x / 16))) &&& 31))), some (.ref q0), some (.int (nI k)), some (.int (nI ((x * 3) + k)))] [.int (nI k), .ref (q0 + 1)] T2 (a_ur (a_ur (a_u (a_u (a_u (a_u (a_u I 22 r (nI (iN m 62 (x / 16)))) 19 6 (nI (r + 1))) 26 x (nI (md + 1))) q0 0 (nI r)) q0 2 (bI (decide (hw = 1)))) (q0 + 1) (mkE m mj x k)) 23 (mkC I m mj x r k)) J (a_u (a_u R q0 1 (some (q0 + 1))) q0 4 (some (q0 + 2)))
          refine aw_iload hC dX0_makeResource_96 rfl ?_
          refine aw_goto (tgt := 111) hC dX0_makeResource_98 (by decide) ?_
          refine aw_top (v2 := mkV m mj x k) (by unfold mkV; rw [if_pos (bI_dn.mp (by assumption)), hmd2]) ?_
          refine aw_iastore_k (j := k) hC dX0_makeResource_111 hA2.2.2.1 (nI_clamp (by omega)) (vp_in_nI (by omega) (by decide)) ?_
          rw [show a_u (a_ur (a_ur (a_u (a_u (a_u (a_u (a_u I 22 r (nI (iN m 62 (x / 16)))) 19 6 (nI (r + 1))) 26 x (nI (md + 1))) q0 0 (nI r)) q0 2 (bI (decide (hw = 1)))) (q0 + 1) (mkE m mj x k)) 23 (mkC I m mj x r k)) (q0 + 1) k (mkV m mj x k) = a_ur (a_ur (a_u (a_u (a_u (a_u (a_u I 22 r (nI (iN m 62 (x / 16)))) 19 6 (nI (r + 1))) 26 x (nI (md + 1))) q0 0 (nI r)) q0 2 (bI (decide (hw = 1)))) (q0 + 1) (fun j => if j = k then mkV m mj x k else (mkE m mj x k) j)) 23 (mkC I m mj x r k) from by rw [a_u_swap (by first | decide | omega), a_ur_put]]
          refine aw_aload_n hC dX0_makeResource_112 rfl ?_
          refine aw_getR hC dX0_makeResource_113 aF_X0_19 rfl (tg_38 ((hT.next hp1).next hp2)) (pr_38_1 hR1) ?_
          refine aw_getR hC dX0_makeResource_116 aF_X0_129 rfl (tg_19 ((hT.next hp1).next hp2)) (pr_19_4 hR1) ?_
          refine aw_iload hC dX0_makeResource_119 rfl ?_
          refine aw_iconst (v := 3) hC dX0_makeResource_121 (by decide) ?_
          refine aw_imul hC dX0_makeResource_122 ?_
          rw [show (nI r) * 3 = nI (r * 3) from pk_mul r 3]
          refine aw_iload hC dX0_makeResource_123 rfl ?_
          refine aw_iadd hC dX0_makeResource_125 ?_
          rw [show (nI (r * 3)) + (nI k) = nI ((r * 3) + k) from nI_add (r * 3) k]
          refine aw_aload hC dX0_makeResource_126 rfl ?_
          refine aw_getR hC dX0_makeResource_128 aF_X0_121 rfl (a_pfx hp2 hA1.2.2) (by rw [a_u_ne (by omega), a_u_self]) ?_
          refine aw_iload hC dX0_makeResource_131 rfl ?_
          refine aw_iaload_k (j := k) hC dX0_makeResource_133 hA2.2.2.1 (nI_clamp (by omega)) (vp_in_nI (by omega) (by decide)) ?_
          rw [a_ur_ne (f := a_ur (a_u (a_u (a_u (a_u (a_u I 22 r (nI (iN m 62 (x / 16)))) 19 6 (nI (r + 1))) 26 x (nI (md + 1))) q0 0 (nI r)) q0 2 (bI (decide (hw = 1)))) (q0 + 1) (fun j => if j = k then mkV m mj x k else (mkE m mj x k) j)) (o := 23) (a := (q0 + 1)) (g := mkC I m mj x r k) (show q0 + 1 ≠ 23 by omega)]
          rw [a_ur_self (f := a_u (a_u (a_u (a_u (a_u I 22 r (nI (iN m 62 (x / 16)))) 19 6 (nI (r + 1))) 26 x (nI (md + 1))) q0 0 (nI r)) q0 2 (bI (decide (hw = 1)))) (o := (q0 + 1)) (g := fun j => if j = k then mkV m mj x k else (mkE m mj x k) j)]
          refine aw_top (v2 := mkV m mj x k) (if_pos rfl) ?_
          refine aw_iastore_k (j := ((r * 3) + k)) hC dX0_makeResource_134 (tg_23 ((hT.next hp1).next hp2)) (nI_clamp (by omega)) (vp_in_nI (by omega) (by decide)) ?_
          rw [show a_u (a_ur (a_ur (a_u (a_u (a_u (a_u (a_u I 22 r (nI (iN m 62 (x / 16)))) 19 6 (nI (r + 1))) 26 x (nI (md + 1))) q0 0 (nI r)) q0 2 (bI (decide (hw = 1)))) (q0 + 1) (fun j => if j = k then mkV m mj x k else (mkE m mj x k) j)) 23 (mkC I m mj x r k)) 23 ((r * 3) + k) (mkV m mj x k) = a_ur (a_ur (a_u (a_u (a_u (a_u (a_u I 22 r (nI (iN m 62 (x / 16)))) 19 6 (nI (r + 1))) 26 x (nI (md + 1))) q0 0 (nI r)) q0 2 (bI (decide (hw = 1)))) (q0 + 1) (fun j => if j = k then mkV m mj x k else (mkE m mj x k) j)) 23 (fun j => if j = ((r * 3) + k) then mkV m mj x k else (mkC I m mj x r k) j) from by rw [a_ur_put]]
          refine aw_iinc (v := nI (k + 1)) (L2 := [some (.ref 38), some (.int (nI x)), some (.int (nI hw)), some (.ref (27 + 2 * (iN m 62 (x / 16)))), some (.int (nI r)), some (.int (nI ((x + 7 * md) % 64) <<< (nI (iN m 61 (iN m 62 (x / 16))) &&& 31))), some (.ref q0), some (.int (nI (k + 1))), some (.int (nI ((x * 3) + k)))]) hC dX0_makeResource_135 rfl (nI_inc _) (by decide) rfl ?_
          refine aw_goto (tgt := 65) hC dX0_makeResource_138 (by decide) ?_
          refine aw_forget 8 (L2 := [some (.ref 38), some (.int (nI x)), some (.int (nI hw)), some (.ref (27 + 2 * (iN m 62 (x / 16)))), some (.int (nI r)), some (.int (nI ((x + 7 * md) % 64) <<< (nI (iN m 61 (iN m 62 (x / 16))) &&& 31))), some (.ref q0), some (.int (nI (k + 1))), none]) rfl ?_
          rw [show a_ur (a_ur (a_u (a_u (a_u (a_u (a_u I 22 r (nI (iN m 62 (x / 16)))) 19 6 (nI (r + 1))) 26 x (nI (md + 1))) q0 0 (nI r)) q0 2 (bI (decide (hw = 1)))) (q0 + 1) (fun j => if j = k then mkV m mj x k else (mkE m mj x k) j)) 23 (fun j => if j = ((r * 3) + k) then mkV m mj x k else (mkC I m mj x r k) j) = a_ur (a_ur (a_u (a_u (a_u (a_u (a_u I 22 r (nI (iN m 62 (x / 16)))) 19 6 (nI (r + 1))) 26 x (nI (md + 1))) q0 0 (nI r)) q0 2 (bI (decide (hw = 1)))) (q0 + 1) (mkE m mj x (k + 1))) 23 (mkC I m mj x r (k + 1)) from a_ur_cg (a_ur_ext mkE_p) mkC_p]
          exact ih_k (by omega)
    exact loop 0 (Nat.zero_le _)
  refine aw_icmp_ne (tgt := 58) hC dX0_makeResource_51 (by decide) (fun h => ?_) (fun h => ?_)
  · show AW X ((0 + 1) + 2) ((0 + a_nf 3) + 6) 58 [some (.ref 38), some (.int (nI x)), some (.int (nI hw)), some (.ref (27 + 2 * (iN m 62 (x / 16)))), some (.int (nI r)), some (.int (nI ((x + 7 * md) % 64) <<< (nI (iN m 61 (iN m 62 (x / 16))) &&& 31))), some (.ref q0), none, none] [.ref q0] T2 (a_u (a_u (a_u (a_u I 22 r (nI (iN m 62 (x / 16)))) 19 6 (nI (r + 1))) 26 x (nI (md + 1))) q0 0 (nI r)) J (a_u (a_u R q0 1 (some (q0 + 1))) q0 4 (some (q0 + 2)))
    refine aw_iconst (v := 0) hC dX0_makeResource_58 (by decide) ?_
    rw [show (0 : Int32) = bI (decide (hw = 1)) from by rw [decide_eq_false (fun q9 => h (by rw [q9]; rfl))]; rfl]
    exact join59
  · show AW X ((0 + 1) + 2) ((0 + a_nf 3) + 6) 54 [some (.ref 38), some (.int (nI x)), some (.int (nI hw)), some (.ref (27 + 2 * (iN m 62 (x / 16)))), some (.int (nI r)), some (.int (nI ((x + 7 * md) % 64) <<< (nI (iN m 61 (iN m 62 (x / 16))) &&& 31))), some (.ref q0), none, none] [.ref q0] T2 (a_u (a_u (a_u (a_u I 22 r (nI (iN m 62 (x / 16)))) 19 6 (nI (r + 1))) 26 x (nI (md + 1))) q0 0 (nI r)) J (a_u (a_u R q0 1 (some (q0 + 1))) q0 4 (some (q0 + 2)))
    refine aw_iconst (v := 1) hC dX0_makeResource_54 (by decide) ?_
    refine aw_goto (tgt := 59) hC dX0_makeResource_55 (by decide) ?_
    rw [show (1 : Int32) = bI (decide (hw = 1)) from by rw [decide_eq_true ((nI_eq (a := hw) (b := 1) (by omega) (by omega)).mp h)]; rfl]
    exact join59
