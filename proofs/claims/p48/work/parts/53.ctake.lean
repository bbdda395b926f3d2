set_option maxRecDepth 100000 in
theorem m_X10_takeDefaults {T : List aT} {I : aI} {J : aJ} {R : aR} (hT : aPT T) (hR : aPR R) {m : aI} {n : Nat} {sq : Nat → Nat} (hSt : CSt T I R m n sq) (hD : CDr I R m n sq) (hS : SW m n) (h53 : m 44 53 = 0) (hL : NR m 54 6 4) (hLy : ∀ q, q < 6 → I 3 q = m 54 q) (hPz : ∀ j, 10 ≤ j → J 13 j = 0) (hKz0 : ∀ j, 10 ≤ j → J 15 j = 0) : MX10_takeDefaults 0 0 [.ref 8] T I J R (aRelV (fun v I2 J2 => v = none ∧ I2 = I ∧ ∃ S K, Ch m n (J 13) 10 S ∧ (∀ j, 10 ≤ j → K j = 0) ∧ J2 = a_ur (a_ur J 13 S) 15 K) T R) := by
  refine a_met (by decide +kernel) a_le (fun X hC hq => ?_)
  show AW X 0 0 0 [some (.ref 8), none, none, none, none, none] [] T I J R
  refine aw_iconst (v := 0) hC dX10_takeDefaults_0 (by decide) ?_
  refine aw_istore_n (L2 := [some (.ref 8), some (.int 0), none, none, none, none]) hC dX10_takeDefaults_1 rfl (by decide) rfl ?_
  have hb12 : HSet T R 12 13 := ⟨tg_12 hT, pr_12_0 hR, tg_13 hT⟩
  have hb15 : HSet T R 14 15 := ⟨tg_14 hT, pr_14_0 hR, tg_15 hT⟩
  have loop : ∀ f, f ≤ 10 → ∀ S K : Nat → Int64, Ch m n (J 13) f S → (∀ j, 10 ≤ j → K j = 0) → AW X 0 0 2 [some (.ref 8), some (.int (nI f)), none, none, none, none] [] T I (a_ur (a_ur J 13 S) 15 K) R := by
    refine a_down 10 (fun f hfl ih => ?_)
    intro S K hCh hKz
    have hSz := Ch_z hPz f S (by omega) hCh
    refine aw_iload_n hC dX10_takeDefaults_2 rfl ?_
    refine aw_bipush (v := 10) hC dX10_takeDefaults_3 (by decide) ?_
    refine aw_icmp_ge (tgt := 101) hC dX10_takeDefaults_5 (by decide) (fun h1 => ?_) (fun h1 => ?_)
    · show AW X 0 0 101 [some (.ref 8), some (.int (nI f)), none, none, none, none] [] T I (a_ur (a_ur J 13 S) 15 K) R
      have h1n : 10 ≤ f := (nI_leI (a := 10) (b := f) (by omega) (by omega)).mp h1
      exact aw_return hC hq rfl dX10_takeDefaults_101 a_le a_le ⟨_, rfl, rfl, rfl, rfl, rfl, S, K, by have e7 : f = 10 := (by omega); rw [e7] at hCh; exact hCh, hKz, rfl⟩
    · show AW X 0 0 8 [some (.ref 8), some (.int (nI f)), none, none, none, none] [] T I (a_ur (a_ur J 13 S) 15 K) R
      have h1n : ¬ 10 ≤ f := fun q9 => h1 ((nI_leI (a := 10) (b := f) (by omega) (by omega)).mpr q9)
      refine aw_aload_n hC dX10_takeDefaults_8 rfl ?_
      refine aw_getR hC dX10_takeDefaults_9 aF_X10_22 rfl (tg_8 hT) (pr_8_5 hR) ?_
      refine aw_getR hC dX10_takeDefaults_12 aF_X10_97 rfl (tg_12 hT) (pr_12_0 hR) ?_
      refine aw_iload_n hC dX10_takeDefaults_15 rfl ?_
      refine aw_laload_k (j := f) hC dX10_takeDefaults_16 (tg_13 hT) (nI_clamp (by omega)) (vp_in_nI (by omega) (by decide)) ?_
      rw [a_ur_ne (f := a_ur J 13 S) (o := 15) (a := 13) (g := K) (by decide)]
      rw [a_ur_self (f := J) (o := 13) (g := S)]
      refine aw_lstore_n (L2 := [some (.ref 8), some (.int (nI f)), some (.long (S f)), none, none, none]) hC dX10_takeDefaults_17 rfl (by decide) rfl ?_
      refine aw_lload_n hC dX10_takeDefaults_18 rfl ?_
      refine aw_aload_n hC dX10_takeDefaults_19 rfl ?_
      refine aw_iload_n hC dX10_takeDefaults_20 rfl ?_
      refine kX10_144 hC rfl (m_X10_defaultsOf (J := a_ur (a_ur J 13 S) 15 K) hT hR hSt hD hS h53 hL hLy (f := f) (by omega)) dX10_takeDefaults_21 (tg_8 hT) rfl a_le a_le a_le a_le a_le rfl aPure_x (aPure_k ?_)
      show AW X 0 0 24 [some (.ref 8), some (.int (nI f)), some (.long (S f)), none, none, none] [.long (mDef m ((a_ur (a_ur J 13 S) 15 K) 13) f (mTop m ((a_ur (a_ur J 13 S) 15 K) 13) f n) n), .long (S f)] T I (a_ur (a_ur J 13 S) 15 K) R
      rw [show (a_ur (a_ur J 13 S) 15 K) 13 = S from by rw [a_ur_ne (by decide), a_ur_self]]
      refine aw_land hC dX10_takeDefaults_24 ?_
      rw [show (S f) &&& (mDef m S f (mTop m S f n) n) = dSet m n S f from Int64.and_comm ..]
      have hcb := sCount_le (S f)
      have hcb2 := sCount_le (dSet m n S f)
      refine aw_lstore (L2 := [some (.ref 8), some (.int (nI f)), some (.long (S f)), none, some (.long (dSet m n S f)), none]) hC dX10_takeDefaults_25 (by decide) rfl ?_
      refine aw_lload_n hC dX10_takeDefaults_27 rfl ?_
      refine kX10_101 hC rfl (m_J13_bitCount_95d88 (S f)) dX10_takeDefaults_28 rfl a_le a_le a_le a_le a_le rfl aPure_x (aPure_k ?_)
      show AW X 0 0 31 [some (.ref 8), some (.int (nI f)), some (.long (S f)), none, some (.long (dSet m n S f)), none] [.int (nI (sCount (S f)))] T I (a_ur (a_ur J 13 S) 15 K) R
      refine aw_iconst (v := 1) hC dX10_takeDefaults_31 (by decide) ?_
      refine aw_icmp_le (tgt := 95) hC dX10_takeDefaults_32 (by decide) (fun h2 => ?_) (fun h2 => ?_)
      · show AW X 0 0 95 [some (.ref 8), some (.int (nI f)), some (.long (S f)), none, some (.long (dSet m n S f)), none] [] T I (a_ur (a_ur J 13 S) 15 K) R
        have h2n : (sCount (S f)) ≤ 1 := (nI_leI (a := (sCount (S f))) (b := 1) (by omega) (by omega)).mp h2
        refine aw_iinc (v := nI (f + 1)) (L2 := [some (.ref 8), some (.int (nI (f + 1))), some (.long (S f)), none, some (.long (dSet m n S f)), none]) hC dX10_takeDefaults_95 rfl (nI_inc _) (by decide) rfl ?_
        refine aw_goto (tgt := 2) hC dX10_takeDefaults_98 (by decide) ?_
        refine aw_forget 2 (L2 := [some (.ref 8), some (.int (nI (f + 1))), none, none, some (.long (dSet m n S f)), none]) rfl ?_
        refine aw_forget 4 (L2 := [some (.ref 8), some (.int (nI (f + 1))), none, none, none, none]) rfl ?_
        exact ih (by omega) S K ⟨S, hCh, by first | rw [if_neg (by omega)] | (rw [if_pos (by omega), DefR, if_neg (by assumption)])⟩ hKz
      · show AW X 0 0 35 [some (.ref 8), some (.int (nI f)), some (.long (S f)), none, some (.long (dSet m n S f)), none] [] T I (a_ur (a_ur J 13 S) 15 K) R
        have h2n : ¬ (sCount (S f)) ≤ 1 := fun q9 => h2 ((nI_leI (a := (sCount (S f))) (b := 1) (by omega) (by omega)).mpr q9)
        refine aw_lload hC dX10_takeDefaults_35 rfl ?_
        refine kX10_101 hC rfl (m_J13_bitCount_95d88 (dSet m n S f)) dX10_takeDefaults_37 rfl a_le a_le a_le a_le a_le rfl aPure_x (aPure_k ?_)
        show AW X 0 0 40 [some (.ref 8), some (.int (nI f)), some (.long (S f)), none, some (.long (dSet m n S f)), none] [.int (nI (sCount (dSet m n S f)))] T I (a_ur (a_ur J 13 S) 15 K) R
        refine aw_iconst (v := 1) hC dX10_takeDefaults_40 (by decide) ?_
        refine aw_icmp_ne (tgt := 95) hC dX10_takeDefaults_41 (by decide) (fun h3 => ?_) (fun h3 => ?_)
        · show AW X 0 0 95 [some (.ref 8), some (.int (nI f)), some (.long (S f)), none, some (.long (dSet m n S f)), none] [] T I (a_ur (a_ur J 13 S) 15 K) R
          have h3n : ¬ (sCount (dSet m n S f)) = 1 := fun q9 => h3 ((nI_eq (a := (sCount (dSet m n S f))) (b := 1) (by omega) (by omega)).mpr q9)
          refine aw_iinc (v := nI (f + 1)) (L2 := [some (.ref 8), some (.int (nI (f + 1))), some (.long (S f)), none, some (.long (dSet m n S f)), none]) hC dX10_takeDefaults_95 rfl (nI_inc _) (by decide) rfl ?_
          refine aw_goto (tgt := 2) hC dX10_takeDefaults_98 (by decide) ?_
          refine aw_forget 2 (L2 := [some (.ref 8), some (.int (nI (f + 1))), none, none, some (.long (dSet m n S f)), none]) rfl ?_
          refine aw_forget 4 (L2 := [some (.ref 8), some (.int (nI (f + 1))), none, none, none, none]) rfl ?_
          exact ih (by omega) S K ⟨S, hCh, by first | rw [if_neg (by omega)] | (rw [if_pos (by omega), DefR, if_neg (by assumption)])⟩ hKz
        · show AW X 0 0 44 [some (.ref 8), some (.int (nI f)), some (.long (S f)), none, some (.long (dSet m n S f)), none] [] T I (a_ur (a_ur J 13 S) 15 K) R
          have h3n : (sCount (dSet m n S f)) = 1 := (nI_eq (a := (sCount (dSet m n S f))) (b := 1) (by omega) (by omega)).mp h3
          have hch1 : sCount (dSet m n S f) = 1 := by assumption
          refine aw_aload_n hC dX10_takeDefaults_44 rfl ?_
          refine aw_getR hC dX10_takeDefaults_45 aF_X10_25 rfl (tg_8 hT) (pr_8_6 hR) ?_
          refine aw_aload_n hC dX10_takeDefaults_48 rfl ?_
          refine aw_getR hC dX10_takeDefaults_49 aF_X10_22 rfl (tg_8 hT) (pr_8_5 hR) ?_
          refine kX10_81 hC rfl (m_X7_copy (J := a_ur (a_ur J 13 S) 15 K) hb15 hb12 (fun j hj => by rw [a_ur_self, a_ur_ne (by decide), a_ur_self, hKz j hj, hSz j hj])) dX10_takeDefaults_52 (tg_14 hT) rfl a_le a_le a_le a_le a_le rfl aPure_x (aPure_k ?_)
          rw [show a_ur (a_ur (a_ur J 13 S) 15 K) 15 ((a_ur (a_ur J 13 S) 15 K) 13) = a_ur (a_ur J 13 S) 15 S from by rw [show (a_ur (a_ur J 13 S) 15 K) 13 = S from by rw [a_ur_ne (by decide), a_ur_self], a_ur_2]]
          show AW X 0 0 55 [some (.ref 8), some (.int (nI f)), some (.long (S f)), none, some (.long (dSet m n S f)), none] [] T I (a_ur (a_ur J 13 S) 15 S) R
          refine aw_aload_n hC dX10_takeDefaults_55 rfl ?_
          refine aw_getR hC dX10_takeDefaults_56 aF_X10_22 rfl (tg_8 hT) (pr_8_5 hR) ?_
          refine aw_getR hC dX10_takeDefaults_59 aF_X10_97 rfl (tg_12 hT) (pr_12_0 hR) ?_
          refine aw_iload_n hC dX10_takeDefaults_62 rfl ?_
          refine aw_lload hC dX10_takeDefaults_63 rfl ?_
          refine aw_lastore_k (j := f) hC dX10_takeDefaults_65 (tg_13 hT) (nI_clamp (by omega)) (vp_in_nI (by omega) (by decide)) ?_
          rw [show a_u (a_ur (a_ur J 13 S) 15 S) 13 f (dSet m n S f) = a_ur (a_ur J 13 (fun j => if j = f then dSet m n S f else S j)) 15 S from by rw [a_u_swap (by first | decide | omega), a_ur_put]]
          refine aw_aload_n hC dX10_takeDefaults_66 rfl ?_
          refine aw_aload_n hC dX10_takeDefaults_67 rfl ?_
          refine aw_getR hC dX10_takeDefaults_68 aF_X10_22 rfl (tg_8 hT) (pr_8_5 hR) ?_
          refine kX10_56 hC rfl (m_X10_narrowAll (J := a_ur (a_ur J 13 (fun j => if j = f then dSet m n S f else S j)) 15 S) hT hR hSt hD hS h53 hb12) dX10_takeDefaults_71 (tg_8 hT) rfl a_le a_le a_le a_le a_le rfl aRelV_x (aRelV_k (fun v9 I9 J9 hQ => ?_))
          obtain ⟨ev9, e9, S3, hF, e8⟩ := hQ
          rw [ev9, e9, e8]
          rw [show (a_ur (a_ur J 13 (fun j => if j = f then dSet m n S f else S j)) 15 S) 13 = fun j => if j = f then dSet m n S f else S j from by rw [a_ur_ne (by decide), a_ur_self]] at hF
          rw [show a_ur (a_ur (a_ur J 13 (fun j => if j = f then dSet m n S f else S j)) 15 S) 13 S3 = a_ur (a_ur J 13 S3) 15 S from by rw [a_ur_swap (by decide), a_ur_2]]
          show AW X 0 0 74 [some (.ref 8), some (.int (nI f)), some (.long (S f)), none, some (.long (dSet m n S f)), none] [] T I (a_ur (a_ur J 13 S3) 15 S) R
          refine aw_aload_n hC dX10_takeDefaults_74 rfl ?_
          refine aw_getR hC dX10_takeDefaults_75 aF_X10_22 rfl (tg_8 hT) (pr_8_5 hR) ?_
          refine kX10_74 hC rfl (m_X7_hasEmpty (J := a_ur (a_ur J 13 S3) 15 S) hb12) dX10_takeDefaults_78 (tg_12 hT) rfl a_le a_le a_le a_le a_le rfl aPure_x (aPure_k ?_)
          show AW X 0 0 81 [some (.ref 8), some (.int (nI f)), some (.long (S f)), none, some (.long (dSet m n S f)), none] [.int (bI (anyB (fun j => decide ((a_ur (a_ur J 13 S3) 15 S) 13 j = 0)) 10))] T I (a_ur (a_ur J 13 S3) 15 S) R
          rw [show (a_ur (a_ur J 13 S3) 15 S) 13 = S3 from by rw [a_ur_ne (by decide), a_ur_self]]
          refine aw_if_eq (tgt := 95) hC dX10_takeDefaults_81 (by decide) (fun h4 => ?_) (fun h4 => ?_)
          · show AW X 0 0 95 [some (.ref 8), some (.int (nI f)), some (.long (S f)), none, some (.long (dSet m n S f)), none] [] T I (a_ur (a_ur J 13 S3) 15 S) R
            refine aw_iinc (v := nI (f + 1)) (L2 := [some (.ref 8), some (.int (nI (f + 1))), some (.long (S f)), none, some (.long (dSet m n S f)), none]) hC dX10_takeDefaults_95 rfl (nI_inc _) (by decide) rfl ?_
            refine aw_goto (tgt := 2) hC dX10_takeDefaults_98 (by decide) ?_
            refine aw_forget 2 (L2 := [some (.ref 8), some (.int (nI (f + 1))), none, none, some (.long (dSet m n S f)), none]) rfl ?_
            refine aw_forget 4 (L2 := [some (.ref 8), some (.int (nI (f + 1))), none, none, none, none]) rfl ?_
            exact ih (by omega) S3 S ⟨S, hCh, by rw [if_pos (by omega), DefR, if_pos hch1]; exact ⟨S3, hF, by rw [if_neg (by rw [show anyB (fun j => decide (S3 j = 0)) 10 = false from bI_e0.mp (by assumption)]; simp)]⟩⟩ hSz
          · show AW X 0 0 84 [some (.ref 8), some (.int (nI f)), some (.long (S f)), none, some (.long (dSet m n S f)), none] [] T I (a_ur (a_ur J 13 S3) 15 S) R
            have hS3z := Fix_z hF (fun j hj => by rw [if_neg (by omega)]; exact hSz j hj)
            refine aw_aload_n hC dX10_takeDefaults_84 rfl ?_
            refine aw_getR hC dX10_takeDefaults_85 aF_X10_22 rfl (tg_8 hT) (pr_8_5 hR) ?_
            refine aw_aload_n hC dX10_takeDefaults_88 rfl ?_
            refine aw_getR hC dX10_takeDefaults_89 aF_X10_25 rfl (tg_8 hT) (pr_8_6 hR) ?_
            refine kX10_81 hC rfl (m_X7_copy (J := a_ur (a_ur J 13 S3) 15 S) hb12 hb15 (fun j hj => by rw [a_ur_self, a_ur_ne (by decide), a_ur_self, hS3z j hj, hSz j hj])) dX10_takeDefaults_92 (tg_12 hT) rfl a_le a_le a_le a_le a_le rfl aPure_x (aPure_k ?_)
            rw [show a_ur (a_ur (a_ur J 13 S3) 15 S) 13 ((a_ur (a_ur J 13 S3) 15 S) 15) = a_ur (a_ur J 13 S) 15 S from by rw [show (a_ur (a_ur J 13 S3) 15 S) 15 = S from by rw [a_ur_self], a_ur_swap (by decide), a_ur_2]]
            show AW X 0 0 95 [some (.ref 8), some (.int (nI f)), some (.long (S f)), none, some (.long (dSet m n S f)), none] [] T I (a_ur (a_ur J 13 S) 15 S) R
            refine aw_iinc (v := nI (f + 1)) (L2 := [some (.ref 8), some (.int (nI (f + 1))), some (.long (S f)), none, some (.long (dSet m n S f)), none]) hC dX10_takeDefaults_95 rfl (nI_inc _) (by decide) rfl ?_
            refine aw_goto (tgt := 2) hC dX10_takeDefaults_98 (by decide) ?_
            refine aw_forget 2 (L2 := [some (.ref 8), some (.int (nI (f + 1))), none, none, some (.long (dSet m n S f)), none]) rfl ?_
            refine aw_forget 4 (L2 := [some (.ref 8), some (.int (nI (f + 1))), none, none, none, none]) rfl ?_
            exact ih (by omega) S S ⟨S, hCh, by rw [if_pos (by omega), DefR, if_pos hch1]; exact ⟨S3, hF, by rw [if_pos (bI_n0.mp (by assumption))]⟩⟩ hSz
  rw [show J = a_ur (a_ur J 13 (J 13)) 15 (J 15) from by rw [a_ur_id (f := J) (o := 13) (fun _ => rfl), a_ur_id (fun _ => rfl)]]
  exact loop 0 (Nat.zero_le _) (J 13) (J 15) rfl hKz0
