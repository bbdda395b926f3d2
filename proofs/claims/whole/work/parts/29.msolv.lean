theorem sCount_le (x : Int64) : sCount x ≤ 64 := cntN_le x 64
abbrev dOn (I : aI) (S : Nat → Int64) (f s : Nat) : Prop := I 45 s = 4 ∧ I 46 s = nI f ∧ cOn I S s
abbrev lay (I : aI) (s : Nat) : Int32 := if I 49 s < 0 then 0 else I 54 (I 49 s).toNatClampNeg + 1
def mTop (I : aI) (S : Nat → Int64) (f : Nat) : Nat → Int32
  | 0 => -1
  | k + 1 => if dOn I S f k then (if mTop I S f k < lay I k then lay I k else mTop I S f k) else mTop I S f k
def mDef (I : aI) (S : Nat → Int64) (f : Nat) (top : Int32) : Nat → Int64
  | 0 => 0
  | k + 1 => if dOn I S f k ∧ lay I k = top then mDef I S f top k ||| sBit (iN I 47 k) else mDef I S f top k
theorem mTop_no {I : aI} {S : Nat → Int64} {f k : Nat} {m : Int32} (h : ¬ dOn I S f k) (e : m = mTop I S f k) : m = mTop I S f (k + 1) := by rw [mTop, if_neg h]; exact e
theorem mTop_yes {I : aI} {S : Nat → Int64} {f k : Nat} {m l : Int32} (h : dOn I S f k) (hl : lay I k = l) (e : m = mTop I S f k) : (m < l → l = mTop I S f (k + 1)) ∧ (¬ m < l → m = mTop I S f (k + 1)) := by
  rw [mTop, if_pos h, hl, ← e]
  exact ⟨fun q => (if_pos q).symm, fun q => (if_neg q).symm⟩
theorem mDef_no {I : aI} {S : Nat → Int64} {f k : Nat} {t : Int32} {m : Int64} (h : ¬ (dOn I S f k ∧ lay I k = t)) (e : m = mDef I S f t k) : m ||| 0 = mDef I S f t (k + 1) := by rw [mDef, if_neg h, Int64.or_zero]; exact e
theorem mDef_yes {I : aI} {S : Nat → Int64} {f k : Nat} {t : Int32} {m : Int64} (h : dOn I S f k ∧ lay I k = t) (e : m = mDef I S f t k) : m ||| sBit (iN I 47 k) = mDef I S f t (k + 1) := by rw [mDef, if_pos h, e]
theorem lay_a {I : aI} {k : Nat} (h : I 49 k < 0) : lay I k = 0 := if_pos h
theorem lay_b {I : aI} {k : Nat} (h : 0 ≤ I 49 k) : lay I k = I 54 (I 49 k).toNatClampNeg + 1 := if_neg (Int32.not_lt.mpr h)
abbrev dSet (I : aI) (n : Nat) (S : Nat → Int64) (f : Nat) : Int64 := mDef I S f (mTop I S f n) n &&& S f
/-- what the defaults of a field make of the sets -/
def DefR (I : aI) (n f : Nat) (S S2 : Nat → Int64) : Prop :=
  if sCount (dSet I n S f) = 1 then ∃ S3, Fix I n (fun j => if j = f then dSet I n S f else S j) S3 ∧ S2 = (if anyB (fun j => decide (S3 j = 0)) 10 = true then S else S3) else S2 = S
theorem Fix_z {I : aI} {n : Nat} {S0 S : Nat → Int64} (h : Fix I n S0 S) (z : ∀ j, 10 ≤ j → S0 j = 0) : ∀ j, 10 ≤ j → S j = 0 := fun j hj => sLe_z (by have q := h.1 j; rwa [z j hj] at q)
theorem keep_lem {J : aJ} {f : Nat} {X : Int64} {K S2 : Nat → Int64} : a_ur (a_ur (a_u J 88 f X) 90 K) 88 S2 = a_ur (a_ur J 90 K) 88 S2 := by
  rw [a_u_ur, a_ur_swap (o := 88) (by decide), a_ur_2, a_ur_swap (o := 90) (by decide)]
theorem keep_row {J : aJ} {f : Nat} {X : Int64} {K : Nat → Int64} : (a_ur (a_u J 88 f X) 90 K) 88 = fun j => if j = f then X else J 88 j := by
  rw [a_ur_ne (by decide), a_u_ur, a_ur_self]
theorem def_a {I : aI} {J : aJ} {n f : Nat} {X : Int64} {K S2 : Nat → Int64} (hds : X = dSet I n (J 88) f) (h1 : sCount X = 1) (hF : Fix I n ((a_ur (a_u J 88 f X) 90 K) 88) S2) (he : bI (anyB (fun j => decide (S2 j = 0)) 10) = 0) : DefR I n f (J 88) S2 := by
  rw [keep_row] at hF
  rw [DefR, ← hds, if_pos h1]
  exact ⟨S2, hF, by rw [if_neg (by rw [bI_e0.mp he]; simp)]⟩
theorem def_b {I : aI} {J : aJ} {n f : Nat} {X : Int64} {K S2 : Nat → Int64} (hds : X = dSet I n (J 88) f) (h1 : sCount X = 1) (hF : Fix I n ((a_ur (a_u J 88 f X) 90 K) 88) S2) (he : ¬ bI (anyB (fun j => decide (S2 j = 0)) 10) = 0) : DefR I n f (J 88) (J 88) := by
  rw [keep_row] at hF
  rw [DefR, ← hds, if_pos h1]
  exact ⟨S2, hF, by rw [if_pos (bI_n0.mp he)]⟩
theorem back_lem {I : aI} {J : aJ} {n f k : Nat} {X : Int64} {K S2 : Nat → Int64} (hf : f < 10) (hZ : ∀ j, 10 ≤ j → J 88 j = 0) (hF : Fix I n ((a_ur (a_u J 88 f X) 90 K) 88) S2) (hk : k = 10) : (fun j => if j < k then J 88 j else S2 j) = J 88 := funext fun j => by
  rw [keep_row] at hF
  by_cases c : j < k
  · rw [if_pos c]
  · rw [if_neg c, hZ j (by omega)]
    exact Fix_z hF (fun i hi => by rw [if_neg (by omega)]; exact hZ i hi) j (by omega)
set_option maxRecDepth 100000 in
theorem m_X12_defaults {T : List aT} {I : aI} {J : aJ} {R : aR} (hT : aPT T) (hR : aPR R) {n f : Nat} (hf : f < 10) (hS : SW I n) (hg : GOK I n) (hA : AOK I n) (hZ : ∀ j, 10 ≤ j → J 88 j = 0) : MX12_defaults 0 0 [.ref 44, .int (nI f)] T I J R (aRel (fun _ _ => none) (fun I2 J2 => I2 = I ∧ ∃ K S2, J2 = a_ur (a_ur J 90 K) 88 S2 ∧ DefR I n f (J 88) S2) T R) := by
  refine a_met (by decide +kernel) a_le (fun X hC hq => ?_)
  show AW X 0 0 0 [some (.ref 44), some (.int (nI f)), none, none, none, none, none] [] T I J R
  refine aw_iconst (v := (-1)) hC dX12_defaults_0 (by decide) ?_
  refine aw_istore_n (L2 := [some (.ref 44), some (.int (nI f)), some (.int (-1)), none, none, none, none]) hC dX12_defaults_1 rfl (by decide) rfl ?_
  refine aw_iconst (v := 0) hC dX12_defaults_2 (by decide) ?_
  refine aw_istore_n (L2 := [some (.ref 44), some (.int (nI f)), some (.int (-1)), some (.int 0), none, none, none]) hC dX12_defaults_3 rfl (by decide) rfl ?_
  have loop1 : ∀ k, k ≤ n → ∀ most : Int32, most = mTop I (J 88) f k → AW X 0 0 4 [some (.ref 44), some (.int (nI f)), some (.int most), some (.int (nI k)), none, none, none] [] T I J R := by
    refine a_down n (fun k hk1 ih1 => ?_)
    intro most hmost
    refine aw_iload_n hC dX12_defaults_4 rfl ?_
    refine aw_aload_n hC dX12_defaults_5 rfl ?_
    refine aw_getI hC dX12_defaults_6 aF_X12_183 rfl (tg_44 hT) ?_
    rw [hS.cnt]
    refine aw_icmp_ge (tgt := 87) hC dX12_defaults_9 (by decide) (fun h1 => ?_) (fun h1 => ?_)
    · show AW X 0 0 87 [some (.ref 44), some (.int (nI f)), some (.int most), some (.int (nI k)), none, none, none] [] T I J R
      have h1n : n ≤ k := (nI_leI (a := n) (b := k) (by omega) (by omega)).mp h1
      refine aw_lconst (v := 0) hC dX12_defaults_87 (by decide) ?_
      refine aw_lstore_n (L2 := [some (.ref 44), some (.int (nI f)), some (.int most), some (.long 0), none, none, none]) hC dX12_defaults_88 rfl (by decide) rfl ?_
      refine aw_iconst (v := 0) hC dX12_defaults_89 (by decide) ?_
      refine aw_istore (L2 := [some (.ref 44), some (.int (nI f)), some (.int most), some (.long 0), none, some (.int 0), none]) hC dX12_defaults_90 (by decide) rfl ?_
      have hmt : most = mTop I (J 88) f n := by rw [hmost, show k = n from by omega]
      have loop2 : ∀ k, k ≤ n → ∀ its : Int64, its = mDef I (J 88) f most k → AW X 0 0 92 [some (.ref 44), some (.int (nI f)), some (.int most), some (.long its), none, some (.int (nI k)), none] [] T I J R := by
        refine a_down n (fun k hk2 ih2 => ?_)
        intro its hits
        refine aw_iload hC dX12_defaults_92 rfl ?_
        refine aw_aload_n hC dX12_defaults_94 rfl ?_
        refine aw_getI hC dX12_defaults_95 aF_X12_183 rfl (tg_44 hT) ?_
        rw [hS.cnt]
        refine aw_icmp_ge (tgt := 198) hC dX12_defaults_98 (by decide) (fun h2 => ?_) (fun h2 => ?_)
        · show AW X 0 0 198 [some (.ref 44), some (.int (nI f)), some (.int most), some (.long its), none, some (.int (nI k)), none] [] T I J R
          have h2n : n ≤ k := (nI_leI (a := n) (b := k) (by omega) (by omega)).mp h2
          refine aw_lload_n hC dX12_defaults_198 rfl ?_
          refine aw_aload_n hC dX12_defaults_199 rfl ?_
          refine aw_getR hC dX12_defaults_200 aF_X12_147 rfl (tg_44 hT) (pr_44_54 hR) ?_
          refine aw_iload_n hC dX12_defaults_203 rfl ?_
          refine aw_laload_k (j := f) hC dX12_defaults_204 (tg_88 hT) (nI_clamp (by omega)) (vp_in_nI (by omega) (by decide)) ?_
          refine aw_land hC dX12_defaults_205 ?_
          refine aw_lstore_n (L2 := [some (.ref 44), some (.int (nI f)), some (.int most), some (.long (its &&& (J 88 f))), none, some (.int (nI k)), none]) hC dX12_defaults_206 rfl (by decide) rfl ?_
          refine aw_lload_n hC dX12_defaults_207 rfl ?_
          refine kX12_270 hC rfl (m_X12_count (its &&& (J 88 f))) dX12_defaults_208 rfl a_le a_le a_le a_le a_le rfl aPure_x (aPure_k ?_)
          show AW X 0 0 211 [some (.ref 44), some (.int (nI f)), some (.int most), some (.long (its &&& (J 88 f))), none, some (.int (nI k)), none] [.int (nI (sCount (its &&& (J 88 f))))] T I J R
          have hcb := sCount_le (its &&& (J 88 f))
          have hds : (its &&& (J 88 f)) = dSet I n (J 88) f := by rw [hits, hmt, show k = n from by omega]
          refine aw_iconst (v := 1) hC dX12_defaults_211 (by decide) ?_
          refine aw_icmp_ne (tgt := 293) hC dX12_defaults_212 (by decide) (fun h3 => ?_) (fun h3 => ?_)
          · show AW X 0 0 293 [some (.ref 44), some (.int (nI f)), some (.int most), some (.long (its &&& (J 88 f))), none, some (.int (nI k)), none] [] T I J R
            have h3n : ¬ (sCount (its &&& (J 88 f))) = 1 := fun q9 => h3 ((nI_eq (a := (sCount (its &&& (J 88 f)))) (b := 1) (by omega) (by omega)).mpr q9)
            exact aw_return hC hq rfl dX12_defaults_293 a_le a_le ⟨rfl, rfl, rfl, rfl, J 90, J 88, by rw [a_ur_id (fun _ => rfl), a_ur_id (fun _ => rfl)], by rw [DefR, ← hds, if_neg (by assumption)]⟩
          · show AW X 0 0 215 [some (.ref 44), some (.int (nI f)), some (.int most), some (.long (its &&& (J 88 f))), none, some (.int (nI k)), none] [] T I J R
            have h3n : (sCount (its &&& (J 88 f))) = 1 := (nI_eq (a := (sCount (its &&& (J 88 f)))) (b := 1) (by omega) (by omega)).mp h3
            refine aw_iconst (v := 0) hC dX12_defaults_215 (by decide) ?_
            refine aw_istore (L2 := [some (.ref 44), some (.int (nI f)), some (.int most), some (.long (its &&& (J 88 f))), none, some (.int 0), none]) hC dX12_defaults_216 (by decide) rfl ?_
            rw [show J = a_ur J 90 (fun j => if j < 0 then J 88 j else J 90 j) from (a_ur_id (fun j => by rw [if_neg (by omega)])).symm]
            have loop3 : ∀ k3, k3 ≤ 10 → AW X 0 0 218 [some (.ref 44), some (.int (nI f)), some (.int most), some (.long (its &&& (J 88 f))), none, some (.int (nI k3)), none] [] T I (a_ur J 90 (fun j => if j < k3 then J 88 j else J 90 j)) R := by
              refine a_down 10 (fun k3 hk3 ih3 => ?_)
              refine aw_iload hC dX12_defaults_218 rfl ?_
              refine aw_bipush (v := 10) hC dX12_defaults_220 (by decide) ?_
              refine aw_icmp_ge (tgt := 245) hC dX12_defaults_222 (by decide) (fun h4 => ?_) (fun h4 => ?_)
              · show AW X 0 0 245 [some (.ref 44), some (.int (nI f)), some (.int most), some (.long (its &&& (J 88 f))), none, some (.int (nI k3)), none] [] T I (a_ur J 90 (fun j => if j < k3 then J 88 j else J 90 j)) R
                have h4n : 10 ≤ k3 := (nI_leI (a := 10) (b := k3) (by omega) (by omega)).mp h4
                refine aw_aload_n hC dX12_defaults_245 rfl ?_
                refine aw_getR hC dX12_defaults_246 aF_X12_147 rfl (tg_44 hT) (pr_44_54 hR) ?_
                refine aw_iload_n hC dX12_defaults_249 rfl ?_
                refine aw_lload_n hC dX12_defaults_250 rfl ?_
                refine aw_lastore_k (j := f) hC dX12_defaults_251 (tg_88 hT) (nI_clamp (by omega)) (vp_in_nI (by omega) (by decide)) ?_
                rw [show a_u (a_ur J 90 (fun j => if j < k3 then J 88 j else J 90 j)) 88 f (its &&& (J 88 f)) = a_ur (a_u J 88 f (its &&& (J 88 f))) 90 (fun j => if j < k3 then J 88 j else J 90 j) from by rw [a_u_swap (by first | decide | omega)]]
                refine aw_aload_n hC dX12_defaults_252 rfl ?_
                refine kX12_260 hC rfl (m_X12_narrows (I := I) (J := a_ur (a_u J 88 f (its &&& (J 88 f))) 90 (fun j => if j < k3 then J 88 j else J 90 j)) hT hR (n := n) hS hg hA) dX12_defaults_253 (tg_44 hT) rfl a_le a_le a_le a_le a_le rfl aRel_x (aRel_k (fun I2 J2 hQ => ?_))
                obtain ⟨e9, S2, hS2, e8⟩ := hQ
                rw [e9, e8]
                show AW X 0 0 256 [some (.ref 44), some (.int (nI f)), some (.int most), some (.long (its &&& (J 88 f))), none, some (.int (nI k3)), none] [] T I (a_ur (a_ur (a_u J 88 f (its &&& (J 88 f))) 90 (fun j => if j < k3 then J 88 j else J 90 j)) 88 S2) R
                refine aw_aload_n hC dX12_defaults_256 rfl ?_
                refine kX12_263 hC rfl (m_X12_isEmpty (I := I) (J := a_ur (a_ur (a_u J 88 f (its &&& (J 88 f))) 90 (fun j => if j < k3 then J 88 j else J 90 j)) 88 S2) hT hR) dX12_defaults_257 (tg_44 hT) rfl a_le a_le a_le a_le a_le rfl aPure_x (aPure_k ?_)
                show AW X 0 0 260 [some (.ref 44), some (.int (nI f)), some (.int most), some (.long (its &&& (J 88 f))), none, some (.int (nI k3)), none] [.int (bI (anyB (fun j => decide ((a_ur (a_ur (a_u J 88 f (its &&& (J 88 f))) 90 (fun j => if j < k3 then J 88 j else J 90 j)) 88 S2) 88 j = 0)) 10))] T I (a_ur (a_ur (a_u J 88 f (its &&& (J 88 f))) 90 (fun j => if j < k3 then J 88 j else J 90 j)) 88 S2) R
                rw [show (a_ur (a_ur (a_u J 88 f (its &&& (J 88 f))) 90 (fun j => if j < k3 then J 88 j else J 90 j)) 88 S2) 88 = S2 from a_ur_self]
                refine aw_if_eq (tgt := 293) hC dX12_defaults_260 (by decide) (fun h5 => ?_) (fun h5 => ?_)
                · show AW X 0 0 293 [some (.ref 44), some (.int (nI f)), some (.int most), some (.long (its &&& (J 88 f))), none, some (.int (nI k3)), none] [] T I (a_ur (a_ur (a_u J 88 f (its &&& (J 88 f))) 90 (fun j => if j < k3 then J 88 j else J 90 j)) 88 S2) R
                  exact aw_return hC hq rfl dX12_defaults_293 a_le a_le ⟨rfl, rfl, rfl, rfl, _, S2, keep_lem, def_a hds (by assumption) hS2 (by assumption)⟩
                · show AW X 0 0 263 [some (.ref 44), some (.int (nI f)), some (.int most), some (.long (its &&& (J 88 f))), none, some (.int (nI k3)), none] [] T I (a_ur (a_ur (a_u J 88 f (its &&& (J 88 f))) 90 (fun j => if j < k3 then J 88 j else J 90 j)) 88 S2) R
                  refine aw_iconst (v := 0) hC dX12_defaults_263 (by decide) ?_
                  refine aw_istore (L2 := [some (.ref 44), some (.int (nI f)), some (.int most), some (.long (its &&& (J 88 f))), none, some (.int 0), none]) hC dX12_defaults_264 (by decide) rfl ?_
                  rw [show a_ur (a_ur (a_u J 88 f (its &&& (J 88 f))) 90 (fun j => if j < k3 then J 88 j else J 90 j)) 88 S2 = a_ur (a_ur (a_u J 88 f (its &&& (J 88 f))) 90 (fun j => if j < k3 then J 88 j else J 90 j)) 88 (fun j => if j < 0 then J 88 j else S2 j) from a_ur_ext (fun j => by rw [if_neg (by omega)])]
                  have loop4 : ∀ k4, k4 ≤ 10 → AW X 0 0 266 [some (.ref 44), some (.int (nI f)), some (.int most), some (.long (its &&& (J 88 f))), none, some (.int (nI k4)), none] [] T I (a_ur (a_ur (a_u J 88 f (its &&& (J 88 f))) 90 (fun j => if j < k3 then J 88 j else J 90 j)) 88 (fun j => if j < k4 then J 88 j else S2 j)) R := by
                    refine a_down 10 (fun k4 hk4 ih4 => ?_)
                    refine aw_iload hC dX12_defaults_266 rfl ?_
                    refine aw_bipush (v := 10) hC dX12_defaults_268 (by decide) ?_
                    refine aw_icmp_ge (tgt := 293) hC dX12_defaults_270 (by decide) (fun h6 => ?_) (fun h6 => ?_)
                    · show AW X 0 0 293 [some (.ref 44), some (.int (nI f)), some (.int most), some (.long (its &&& (J 88 f))), none, some (.int (nI k4)), none] [] T I (a_ur (a_ur (a_u J 88 f (its &&& (J 88 f))) 90 (fun j => if j < k3 then J 88 j else J 90 j)) 88 (fun j => if j < k4 then J 88 j else S2 j)) R
                      have h6n : 10 ≤ k4 := (nI_leI (a := 10) (b := k4) (by omega) (by omega)).mp h6
                      exact aw_return hC hq rfl dX12_defaults_293 a_le a_le ⟨rfl, rfl, rfl, rfl, _, J 88, by rw [back_lem hf hZ hS2 (by omega)]; exact keep_lem, def_b hds (by assumption) hS2 (by assumption)⟩
                    · show AW X 0 0 273 [some (.ref 44), some (.int (nI f)), some (.int most), some (.long (its &&& (J 88 f))), none, some (.int (nI k4)), none] [] T I (a_ur (a_ur (a_u J 88 f (its &&& (J 88 f))) 90 (fun j => if j < k3 then J 88 j else J 90 j)) 88 (fun j => if j < k4 then J 88 j else S2 j)) R
                      have h6n : ¬ 10 ≤ k4 := fun q9 => h6 ((nI_leI (a := 10) (b := k4) (by omega) (by omega)).mpr q9)
                      refine aw_aload_n hC dX12_defaults_273 rfl ?_
                      refine aw_getR hC dX12_defaults_274 aF_X12_147 rfl (tg_44 hT) (pr_44_54 hR) ?_
                      refine aw_iload hC dX12_defaults_277 rfl ?_
                      refine aw_aload_n hC dX12_defaults_279 rfl ?_
                      refine aw_getR hC dX12_defaults_280 aF_X12_154 rfl (tg_44 hT) (pr_44_56 hR) ?_
                      refine aw_iload hC dX12_defaults_283 rfl ?_
                      refine aw_laload_k (j := k4) hC dX12_defaults_285 (tg_90 hT) (nI_clamp (by omega)) (vp_in_nI (by omega) (by decide)) ?_
                      refine aw_lastore_k (j := k4) hC dX12_defaults_286 (tg_88 hT) (nI_clamp (by omega)) (vp_in_nI (by omega) (by decide)) ?_
                      refine aw_iinc (v := nI (k4 + 1)) (L2 := [some (.ref 44), some (.int (nI f)), some (.int most), some (.long (its &&& (J 88 f))), none, some (.int (nI (k4 + 1))), none]) hC dX12_defaults_287 rfl (nI_inc _) (by decide) rfl ?_
                      refine aw_goto (tgt := 266) hC dX12_defaults_290 (by decide) ?_
                      rw [show a_u (a_ur (a_ur (a_u J 88 f (its &&& (J 88 f))) 90 (fun j => if j < k3 then J 88 j else J 90 j)) 88 (fun j => if j < k4 then J 88 j else S2 j)) 88 k4 ((a_ur (a_ur (a_u J 88 f (its &&& (J 88 f))) 90 (fun j => if j < k3 then J 88 j else J 90 j)) 88 (fun j => if j < k4 then J 88 j else S2 j)) 90 k4) = a_ur (a_ur (a_u J 88 f (its &&& (J 88 f))) 90 (fun j => if j < k3 then J 88 j else J 90 j)) 88 (fun j => if j < (k4 + 1) then J 88 j else S2 j) from by rw [a_ur_put]; exact a_ur_ext (fun j => by rw [a_ur_ne (by decide), a_ur_self]; clear hC hq ih4 hg hA hS; (try dsimp only); grind)]
                      exact ih4 (by omega)
                  exact loop4 0 (Nat.zero_le _)
              · show AW X 0 0 225 [some (.ref 44), some (.int (nI f)), some (.int most), some (.long (its &&& (J 88 f))), none, some (.int (nI k3)), none] [] T I (a_ur J 90 (fun j => if j < k3 then J 88 j else J 90 j)) R
                have h4n : ¬ 10 ≤ k3 := fun q9 => h4 ((nI_leI (a := 10) (b := k3) (by omega) (by omega)).mpr q9)
                refine aw_aload_n hC dX12_defaults_225 rfl ?_
                refine aw_getR hC dX12_defaults_226 aF_X12_154 rfl (tg_44 hT) (pr_44_56 hR) ?_
                refine aw_iload hC dX12_defaults_229 rfl ?_
                refine aw_aload_n hC dX12_defaults_231 rfl ?_
                refine aw_getR hC dX12_defaults_232 aF_X12_147 rfl (tg_44 hT) (pr_44_54 hR) ?_
                refine aw_iload hC dX12_defaults_235 rfl ?_
                refine aw_laload_k (j := k3) hC dX12_defaults_237 (tg_88 hT) (nI_clamp (by omega)) (vp_in_nI (by omega) (by decide)) ?_
                rw [a_ur_ne (f := J) (o := 90) (a := 88) (g := fun j => if j < k3 then J 88 j else J 90 j) (by decide)]
                refine aw_lastore_k (j := k3) hC dX12_defaults_238 (tg_90 hT) (nI_clamp (by omega)) (vp_in_nI (by omega) (by decide)) ?_
                rw [show a_u (a_ur J 90 (fun j => if j < k3 then J 88 j else J 90 j)) 90 k3 (J 88 k3) = a_ur J 90 (fun j => if j = k3 then J 88 k3 else (fun j => if j < k3 then J 88 j else J 90 j) j) from by rw [a_ur_put]]
                refine aw_iinc (v := nI (k3 + 1)) (L2 := [some (.ref 44), some (.int (nI f)), some (.int most), some (.long (its &&& (J 88 f))), none, some (.int (nI (k3 + 1))), none]) hC dX12_defaults_239 rfl (nI_inc _) (by decide) rfl ?_
                refine aw_goto (tgt := 218) hC dX12_defaults_242 (by decide) ?_
                rw [show a_ur J 90 (fun j => if j = k3 then J 88 k3 else (fun j => if j < k3 then J 88 j else J 90 j) j) = a_ur J 90 (fun j => if j < (k3 + 1) then J 88 j else J 90 j) from a_ur_ext (fun j => by clear hC hq ih3 hg hA hS; (try dsimp only); grind)]
                exact ih3 (by omega)
            exact loop3 0 (Nat.zero_le _)
        · show AW X 0 0 101 [some (.ref 44), some (.int (nI f)), some (.int most), some (.long its), none, some (.int (nI k)), none] [] T I J R
          have h2n : ¬ n ≤ k := fun q9 => h2 ((nI_leI (a := n) (b := k) (by omega) (by omega)).mpr q9)
          refine aw_aload_n hC dX12_defaults_101 rfl ?_
          refine aw_getR hC dX12_defaults_102 aF_X12_7 rfl (tg_44 hT) (pr_44_1 hR) ?_
          refine aw_iload hC dX12_defaults_105 rfl ?_
          refine aw_iaload_k (j := k) hC dX12_defaults_107 (tg_45 hT) (nI_clamp (by omega)) (vp_in_nI (by omega) (by decide)) ?_
          refine aw_iconst (v := 4) hC dX12_defaults_108 (by decide) ?_
          refine aw_icmp_ne (tgt := 168) hC dX12_defaults_109 (by decide) (fun h7 => ?_) (fun h7 => ?_)
          · show AW X 0 0 168 [some (.ref 44), some (.int (nI f)), some (.int most), some (.long its), none, some (.int (nI k)), none] [] T I J R
            refine aw_iconst (v := 0) hC dX12_defaults_168 (by decide) ?_
            refine aw_istore (L2 := [some (.ref 44), some (.int (nI f)), some (.int most), some (.long its), none, some (.int (nI k)), some (.int 0)]) hC dX12_defaults_169 (by decide) rfl ?_
            refine aw_lload_n hC dX12_defaults_171 rfl ?_
            refine aw_iload hC dX12_defaults_172 rfl ?_
            refine aw_if_eq (tgt := 189) hC dX12_defaults_174 (by decide) (fun _ => ?_) (fun h8 => absurd h8 (by decide))
            show AW X 0 0 189 [some (.ref 44), some (.int (nI f)), some (.int most), some (.long its), none, some (.int (nI k)), some (.int 0)] [.long its] T I J R
            refine aw_lconst (v := 0) hC dX12_defaults_189 (by decide) ?_
            refine aw_lor hC dX12_defaults_190 ?_
            refine aw_lstore_n (L2 := [some (.ref 44), some (.int (nI f)), some (.int most), some (.long (its ||| 0)), none, some (.int (nI k)), some (.int 0)]) hC dX12_defaults_191 rfl (by decide) rfl ?_
            refine aw_iinc (v := nI (k + 1)) (L2 := [some (.ref 44), some (.int (nI f)), some (.int most), some (.long (its ||| 0)), none, some (.int (nI (k + 1))), some (.int 0)]) hC dX12_defaults_192 rfl (nI_inc _) (by decide) rfl ?_
            refine aw_goto (tgt := 92) hC dX12_defaults_195 (by decide) ?_
            refine aw_forget 6 (L2 := [some (.ref 44), some (.int (nI f)), some (.int most), some (.long (its ||| 0)), none, some (.int (nI (k + 1))), none]) rfl ?_
            exact ih2 (by omega) (its ||| 0) (by first | exact mDef_no (fun q => absurd q.1.1 (by assumption)) hits | exact mDef_no (fun q => absurd q.1.2.1 (by assumption)) hits | exact mDef_no (fun q => absurd q.1.2.2 (bI_d0.mp (by assumption))) hits)
          · show AW X 0 0 112 [some (.ref 44), some (.int (nI f)), some (.int most), some (.long its), none, some (.int (nI k)), none] [] T I J R
            refine aw_aload_n hC dX12_defaults_112 rfl ?_
            refine aw_getR hC dX12_defaults_113 aF_X12_13 rfl (tg_44 hT) (pr_44_2 hR) ?_
            refine aw_iload hC dX12_defaults_116 rfl ?_
            refine aw_iaload_k (j := k) hC dX12_defaults_118 (tg_46 hT) (nI_clamp (by omega)) (vp_in_nI (by omega) (by decide)) ?_
            refine aw_iload_n hC dX12_defaults_119 rfl ?_
            refine aw_icmp_ne (tgt := 168) hC dX12_defaults_120 (by decide) (fun h9 => ?_) (fun h9 => ?_)
            · show AW X 0 0 168 [some (.ref 44), some (.int (nI f)), some (.int most), some (.long its), none, some (.int (nI k)), none] [] T I J R
              refine aw_iconst (v := 0) hC dX12_defaults_168 (by decide) ?_
              refine aw_istore (L2 := [some (.ref 44), some (.int (nI f)), some (.int most), some (.long its), none, some (.int (nI k)), some (.int 0)]) hC dX12_defaults_169 (by decide) rfl ?_
              refine aw_lload_n hC dX12_defaults_171 rfl ?_
              refine aw_iload hC dX12_defaults_172 rfl ?_
              refine aw_if_eq (tgt := 189) hC dX12_defaults_174 (by decide) (fun _ => ?_) (fun h10 => absurd h10 (by decide))
              show AW X 0 0 189 [some (.ref 44), some (.int (nI f)), some (.int most), some (.long its), none, some (.int (nI k)), some (.int 0)] [.long its] T I J R
              refine aw_lconst (v := 0) hC dX12_defaults_189 (by decide) ?_
              refine aw_lor hC dX12_defaults_190 ?_
              refine aw_lstore_n (L2 := [some (.ref 44), some (.int (nI f)), some (.int most), some (.long (its ||| 0)), none, some (.int (nI k)), some (.int 0)]) hC dX12_defaults_191 rfl (by decide) rfl ?_
              refine aw_iinc (v := nI (k + 1)) (L2 := [some (.ref 44), some (.int (nI f)), some (.int most), some (.long (its ||| 0)), none, some (.int (nI (k + 1))), some (.int 0)]) hC dX12_defaults_192 rfl (nI_inc _) (by decide) rfl ?_
              refine aw_goto (tgt := 92) hC dX12_defaults_195 (by decide) ?_
              refine aw_forget 6 (L2 := [some (.ref 44), some (.int (nI f)), some (.int most), some (.long (its ||| 0)), none, some (.int (nI (k + 1))), none]) rfl ?_
              exact ih2 (by omega) (its ||| 0) (by first | exact mDef_no (fun q => absurd q.1.1 (by assumption)) hits | exact mDef_no (fun q => absurd q.1.2.1 (by assumption)) hits | exact mDef_no (fun q => absurd q.1.2.2 (bI_d0.mp (by assumption))) hits)
            · show AW X 0 0 123 [some (.ref 44), some (.int (nI f)), some (.int most), some (.long its), none, some (.int (nI k)), none] [] T I J R
              refine aw_aload_n hC dX12_defaults_123 rfl ?_
              refine aw_iload hC dX12_defaults_124 rfl ?_
              refine kX12_250 hC rfl (m_X12_countsU hT hR (n := n) (s := k) (by omega) hS.n30 hg hA) dX12_defaults_126 (tg_44 hT) rfl a_le a_le a_le a_le a_le rfl aPure_x (aPure_k ?_)
              show AW X 0 0 129 [some (.ref 44), some (.int (nI f)), some (.int most), some (.long its), none, some (.int (nI k)), none] [.int (bI (decide (cOn I (J 88) k)))] T I J R
              refine aw_if_eq (tgt := 168) hC dX12_defaults_129 (by decide) (fun h11 => ?_) (fun h11 => ?_)
              · show AW X 0 0 168 [some (.ref 44), some (.int (nI f)), some (.int most), some (.long its), none, some (.int (nI k)), none] [] T I J R
                refine aw_iconst (v := 0) hC dX12_defaults_168 (by decide) ?_
                refine aw_istore (L2 := [some (.ref 44), some (.int (nI f)), some (.int most), some (.long its), none, some (.int (nI k)), some (.int 0)]) hC dX12_defaults_169 (by decide) rfl ?_
                refine aw_lload_n hC dX12_defaults_171 rfl ?_
                refine aw_iload hC dX12_defaults_172 rfl ?_
                refine aw_if_eq (tgt := 189) hC dX12_defaults_174 (by decide) (fun _ => ?_) (fun h12 => absurd h12 (by decide))
                show AW X 0 0 189 [some (.ref 44), some (.int (nI f)), some (.int most), some (.long its), none, some (.int (nI k)), some (.int 0)] [.long its] T I J R
                refine aw_lconst (v := 0) hC dX12_defaults_189 (by decide) ?_
                refine aw_lor hC dX12_defaults_190 ?_
                refine aw_lstore_n (L2 := [some (.ref 44), some (.int (nI f)), some (.int most), some (.long (its ||| 0)), none, some (.int (nI k)), some (.int 0)]) hC dX12_defaults_191 rfl (by decide) rfl ?_
                refine aw_iinc (v := nI (k + 1)) (L2 := [some (.ref 44), some (.int (nI f)), some (.int most), some (.long (its ||| 0)), none, some (.int (nI (k + 1))), some (.int 0)]) hC dX12_defaults_192 rfl (nI_inc _) (by decide) rfl ?_
                refine aw_goto (tgt := 92) hC dX12_defaults_195 (by decide) ?_
                refine aw_forget 6 (L2 := [some (.ref 44), some (.int (nI f)), some (.int most), some (.long (its ||| 0)), none, some (.int (nI (k + 1))), none]) rfl ?_
                exact ih2 (by omega) (its ||| 0) (by first | exact mDef_no (fun q => absurd q.1.1 (by assumption)) hits | exact mDef_no (fun q => absurd q.1.2.1 (by assumption)) hits | exact mDef_no (fun q => absurd q.1.2.2 (bI_d0.mp (by assumption))) hits)
              · show AW X 0 0 132 [some (.ref 44), some (.int (nI f)), some (.int most), some (.long its), none, some (.int (nI k)), none] [] T I J R
                refine aw_aload_n hC dX12_defaults_132 rfl ?_
                refine aw_getR hC dX12_defaults_133 aF_X12_22 rfl (tg_44 hT) (pr_44_5 hR) ?_
                refine aw_iload hC dX12_defaults_136 rfl ?_
                refine aw_iaload_k (j := k) hC dX12_defaults_138 (tg_49 hT) (nI_clamp (by omega)) (vp_in_nI (by omega) (by decide)) ?_
                refine aw_if_ge (tgt := 146) hC dX12_defaults_139 (by decide) (fun h13 => ?_) (fun h13 => ?_)
                · show AW X 0 0 146 [some (.ref 44), some (.int (nI f)), some (.int most), some (.long its), none, some (.int (nI k)), none] [] T I J R
                  refine aw_aload_n hC dX12_defaults_146 rfl ?_
                  refine aw_getR hC dX12_defaults_147 aF_X12_38 rfl (tg_44 hT) (pr_44_10 hR) ?_
                  refine aw_aload_n hC dX12_defaults_150 rfl ?_
                  refine aw_getR hC dX12_defaults_151 aF_X12_22 rfl (tg_44 hT) (pr_44_5 hR) ?_
                  refine aw_iload hC dX12_defaults_154 rfl ?_
                  refine aw_iaload_k (j := k) hC dX12_defaults_156 (tg_49 hT) (nI_clamp (by omega)) (vp_in_nI (by omega) (by decide)) ?_
                  refine aw_iaload_k (j := (I 49 k).toNatClampNeg) hC dX12_defaults_157 (tg_54 hT) rfl (hS.fl6 (by omega) (by first | assumption | exact Int32.not_lt.mp (by assumption))).1 ?_
                  refine aw_iconst (v := 1) hC dX12_defaults_158 (by decide) ?_
                  refine aw_iadd hC dX12_defaults_159 ?_
                  refine aw_iload_n hC dX12_defaults_160 rfl ?_
                  refine aw_icmp_ne (tgt := 168) hC dX12_defaults_161 (by decide) (fun h14 => ?_) (fun h14 => ?_)
                  · show AW X 0 0 168 [some (.ref 44), some (.int (nI f)), some (.int most), some (.long its), none, some (.int (nI k)), none] [] T I J R
                    refine aw_iconst (v := 0) hC dX12_defaults_168 (by decide) ?_
                    refine aw_istore (L2 := [some (.ref 44), some (.int (nI f)), some (.int most), some (.long its), none, some (.int (nI k)), some (.int 0)]) hC dX12_defaults_169 (by decide) rfl ?_
                    refine aw_lload_n hC dX12_defaults_171 rfl ?_
                    refine aw_iload hC dX12_defaults_172 rfl ?_
                    refine aw_if_eq (tgt := 189) hC dX12_defaults_174 (by decide) (fun _ => ?_) (fun h15 => absurd h15 (by decide))
                    show AW X 0 0 189 [some (.ref 44), some (.int (nI f)), some (.int most), some (.long its), none, some (.int (nI k)), some (.int 0)] [.long its] T I J R
                    refine aw_lconst (v := 0) hC dX12_defaults_189 (by decide) ?_
                    refine aw_lor hC dX12_defaults_190 ?_
                    refine aw_lstore_n (L2 := [some (.ref 44), some (.int (nI f)), some (.int most), some (.long (its ||| 0)), none, some (.int (nI k)), some (.int 0)]) hC dX12_defaults_191 rfl (by decide) rfl ?_
                    refine aw_iinc (v := nI (k + 1)) (L2 := [some (.ref 44), some (.int (nI f)), some (.int most), some (.long (its ||| 0)), none, some (.int (nI (k + 1))), some (.int 0)]) hC dX12_defaults_192 rfl (nI_inc _) (by decide) rfl ?_
                    refine aw_goto (tgt := 92) hC dX12_defaults_195 (by decide) ?_
                    refine aw_forget 6 (L2 := [some (.ref 44), some (.int (nI f)), some (.int most), some (.long (its ||| 0)), none, some (.int (nI (k + 1))), none]) rfl ?_
                    exact ih2 (by omega) (its ||| 0) (mDef_no (fun q => absurd q.2 (by rw [show lay I k = _ from (by first | exact lay_a (I := I) (k := k) (by assumption) | exact lay_a (I := I) (k := k) (Int32.not_le.mp (by assumption)) | exact lay_b (I := I) (k := k) (by assumption) | exact lay_b (I := I) (k := k) (Int32.not_lt.mp (by assumption)))]; assumption)) hits)
                  · show AW X 0 0 164 [some (.ref 44), some (.int (nI f)), some (.int most), some (.long its), none, some (.int (nI k)), none] [] T I J R
                    refine aw_iconst (v := 1) hC dX12_defaults_164 (by decide) ?_
                    refine aw_goto (tgt := 169) hC dX12_defaults_165 (by decide) ?_
                    refine aw_istore (L2 := [some (.ref 44), some (.int (nI f)), some (.int most), some (.long its), none, some (.int (nI k)), some (.int 1)]) hC dX12_defaults_169 (by decide) rfl ?_
                    refine aw_lload_n hC dX12_defaults_171 rfl ?_
                    refine aw_iload hC dX12_defaults_172 rfl ?_
                    refine aw_if_eq (tgt := 189) hC dX12_defaults_174 (by decide) (fun h16 => absurd h16 (by decide)) (fun _ => ?_)
                    show AW X 0 0 177 [some (.ref 44), some (.int (nI f)), some (.int most), some (.long its), none, some (.int (nI k)), some (.int 1)] [.long its] T I J R
                    refine aw_lconst (v := 1) hC dX12_defaults_177 (by decide) ?_
                    refine aw_aload_n hC dX12_defaults_178 rfl ?_
                    refine aw_getR hC dX12_defaults_179 aF_X12_16 rfl (tg_44 hT) (pr_44_3 hR) ?_
                    refine aw_iload hC dX12_defaults_182 rfl ?_
                    refine aw_iaload_k (j := k) hC dX12_defaults_184 (tg_47 hT) (nI_clamp (by omega)) (vp_in_nI (by omega) (by decide)) ?_
                    have hb17 := hS.on k (by omega)
                    rw [hb17.1]
                    refine aw_lshl hC dX12_defaults_185 ?_
                    rw [show 1 <<< ((nI (iN I 47 k)).toInt64 &&& 63) = sBit (iN I 47 k) from sBit_shl (by omega)]
                    refine aw_goto (tgt := 190) hC dX12_defaults_186 (by decide) ?_
                    refine aw_lor hC dX12_defaults_190 ?_
                    refine aw_lstore_n (L2 := [some (.ref 44), some (.int (nI f)), some (.int most), some (.long (its ||| (sBit (iN I 47 k)))), none, some (.int (nI k)), some (.int 1)]) hC dX12_defaults_191 rfl (by decide) rfl ?_
                    refine aw_iinc (v := nI (k + 1)) (L2 := [some (.ref 44), some (.int (nI f)), some (.int most), some (.long (its ||| (sBit (iN I 47 k)))), none, some (.int (nI (k + 1))), some (.int 1)]) hC dX12_defaults_192 rfl (nI_inc _) (by decide) rfl ?_
                    refine aw_goto (tgt := 92) hC dX12_defaults_195 (by decide) ?_
                    refine aw_forget 6 (L2 := [some (.ref 44), some (.int (nI f)), some (.int most), some (.long (its ||| (sBit (iN I 47 k)))), none, some (.int (nI (k + 1))), none]) rfl ?_
                    exact ih2 (by omega) (its ||| (sBit (iN I 47 k))) (mDef_yes ⟨⟨by assumption, by assumption, bI_dn.mp (by assumption)⟩, by rw [show lay I k = _ from (by first | exact lay_a (I := I) (k := k) (by assumption) | exact lay_a (I := I) (k := k) (Int32.not_le.mp (by assumption)) | exact lay_b (I := I) (k := k) (by assumption) | exact lay_b (I := I) (k := k) (Int32.not_lt.mp (by assumption)))]; assumption⟩ hits)
                · show AW X 0 0 142 [some (.ref 44), some (.int (nI f)), some (.int most), some (.long its), none, some (.int (nI k)), none] [] T I J R
                  refine aw_iconst (v := 0) hC dX12_defaults_142 (by decide) ?_
                  refine aw_goto (tgt := 160) hC dX12_defaults_143 (by decide) ?_
                  refine aw_iload_n hC dX12_defaults_160 rfl ?_
                  refine aw_icmp_ne (tgt := 168) hC dX12_defaults_161 (by decide) (fun h18 => ?_) (fun h18 => ?_)
                  · show AW X 0 0 168 [some (.ref 44), some (.int (nI f)), some (.int most), some (.long its), none, some (.int (nI k)), none] [] T I J R
                    refine aw_iconst (v := 0) hC dX12_defaults_168 (by decide) ?_
                    refine aw_istore (L2 := [some (.ref 44), some (.int (nI f)), some (.int most), some (.long its), none, some (.int (nI k)), some (.int 0)]) hC dX12_defaults_169 (by decide) rfl ?_
                    refine aw_lload_n hC dX12_defaults_171 rfl ?_
                    refine aw_iload hC dX12_defaults_172 rfl ?_
                    refine aw_if_eq (tgt := 189) hC dX12_defaults_174 (by decide) (fun _ => ?_) (fun h19 => absurd h19 (by decide))
                    show AW X 0 0 189 [some (.ref 44), some (.int (nI f)), some (.int most), some (.long its), none, some (.int (nI k)), some (.int 0)] [.long its] T I J R
                    refine aw_lconst (v := 0) hC dX12_defaults_189 (by decide) ?_
                    refine aw_lor hC dX12_defaults_190 ?_
                    refine aw_lstore_n (L2 := [some (.ref 44), some (.int (nI f)), some (.int most), some (.long (its ||| 0)), none, some (.int (nI k)), some (.int 0)]) hC dX12_defaults_191 rfl (by decide) rfl ?_
                    refine aw_iinc (v := nI (k + 1)) (L2 := [some (.ref 44), some (.int (nI f)), some (.int most), some (.long (its ||| 0)), none, some (.int (nI (k + 1))), some (.int 0)]) hC dX12_defaults_192 rfl (nI_inc _) (by decide) rfl ?_
                    refine aw_goto (tgt := 92) hC dX12_defaults_195 (by decide) ?_
                    refine aw_forget 6 (L2 := [some (.ref 44), some (.int (nI f)), some (.int most), some (.long (its ||| 0)), none, some (.int (nI (k + 1))), none]) rfl ?_
                    exact ih2 (by omega) (its ||| 0) (mDef_no (fun q => absurd q.2 (by rw [show lay I k = _ from (by first | exact lay_a (I := I) (k := k) (by assumption) | exact lay_a (I := I) (k := k) (Int32.not_le.mp (by assumption)) | exact lay_b (I := I) (k := k) (by assumption) | exact lay_b (I := I) (k := k) (Int32.not_lt.mp (by assumption)))]; assumption)) hits)
                  · show AW X 0 0 164 [some (.ref 44), some (.int (nI f)), some (.int most), some (.long its), none, some (.int (nI k)), none] [] T I J R
                    refine aw_iconst (v := 1) hC dX12_defaults_164 (by decide) ?_
                    refine aw_goto (tgt := 169) hC dX12_defaults_165 (by decide) ?_
                    refine aw_istore (L2 := [some (.ref 44), some (.int (nI f)), some (.int most), some (.long its), none, some (.int (nI k)), some (.int 1)]) hC dX12_defaults_169 (by decide) rfl ?_
                    refine aw_lload_n hC dX12_defaults_171 rfl ?_
                    refine aw_iload hC dX12_defaults_172 rfl ?_
                    refine aw_if_eq (tgt := 189) hC dX12_defaults_174 (by decide) (fun h20 => absurd h20 (by decide)) (fun _ => ?_)
                    show AW X 0 0 177 [some (.ref 44), some (.int (nI f)), some (.int most), some (.long its), none, some (.int (nI k)), some (.int 1)] [.long its] T I J R
                    refine aw_lconst (v := 1) hC dX12_defaults_177 (by decide) ?_
                    refine aw_aload_n hC dX12_defaults_178 rfl ?_
                    refine aw_getR hC dX12_defaults_179 aF_X12_16 rfl (tg_44 hT) (pr_44_3 hR) ?_
                    refine aw_iload hC dX12_defaults_182 rfl ?_
                    refine aw_iaload_k (j := k) hC dX12_defaults_184 (tg_47 hT) (nI_clamp (by omega)) (vp_in_nI (by omega) (by decide)) ?_
                    have hb21 := hS.on k (by omega)
                    rw [hb21.1]
                    refine aw_lshl hC dX12_defaults_185 ?_
                    rw [show 1 <<< ((nI (iN I 47 k)).toInt64 &&& 63) = sBit (iN I 47 k) from sBit_shl (by omega)]
                    refine aw_goto (tgt := 190) hC dX12_defaults_186 (by decide) ?_
                    refine aw_lor hC dX12_defaults_190 ?_
                    refine aw_lstore_n (L2 := [some (.ref 44), some (.int (nI f)), some (.int most), some (.long (its ||| (sBit (iN I 47 k)))), none, some (.int (nI k)), some (.int 1)]) hC dX12_defaults_191 rfl (by decide) rfl ?_
                    refine aw_iinc (v := nI (k + 1)) (L2 := [some (.ref 44), some (.int (nI f)), some (.int most), some (.long (its ||| (sBit (iN I 47 k)))), none, some (.int (nI (k + 1))), some (.int 1)]) hC dX12_defaults_192 rfl (nI_inc _) (by decide) rfl ?_
                    refine aw_goto (tgt := 92) hC dX12_defaults_195 (by decide) ?_
                    refine aw_forget 6 (L2 := [some (.ref 44), some (.int (nI f)), some (.int most), some (.long (its ||| (sBit (iN I 47 k)))), none, some (.int (nI (k + 1))), none]) rfl ?_
                    exact ih2 (by omega) (its ||| (sBit (iN I 47 k))) (mDef_yes ⟨⟨by assumption, by assumption, bI_dn.mp (by assumption)⟩, by rw [show lay I k = _ from (by first | exact lay_a (I := I) (k := k) (by assumption) | exact lay_a (I := I) (k := k) (Int32.not_le.mp (by assumption)) | exact lay_b (I := I) (k := k) (by assumption) | exact lay_b (I := I) (k := k) (Int32.not_lt.mp (by assumption)))]; assumption⟩ hits)
      exact loop2 0 (Nat.zero_le _) 0 rfl
    · show AW X 0 0 12 [some (.ref 44), some (.int (nI f)), some (.int most), some (.int (nI k)), none, none, none] [] T I J R
      have h1n : ¬ n ≤ k := fun q9 => h1 ((nI_leI (a := n) (b := k) (by omega) (by omega)).mpr q9)
      refine aw_aload_n hC dX12_defaults_12 rfl ?_
      refine aw_getR hC dX12_defaults_13 aF_X12_7 rfl (tg_44 hT) (pr_44_1 hR) ?_
      refine aw_iload_n hC dX12_defaults_16 rfl ?_
      refine aw_iaload_k (j := k) hC dX12_defaults_17 (tg_45 hT) (nI_clamp (by omega)) (vp_in_nI (by omega) (by decide)) ?_
      refine aw_iconst (v := 4) hC dX12_defaults_18 (by decide) ?_
      refine aw_icmp_ne (tgt := 81) hC dX12_defaults_19 (by decide) (fun h22 => ?_) (fun h22 => ?_)
      · show AW X 0 0 81 [some (.ref 44), some (.int (nI f)), some (.int most), some (.int (nI k)), none, none, none] [] T I J R
        refine aw_iinc (v := nI (k + 1)) (L2 := [some (.ref 44), some (.int (nI f)), some (.int most), some (.int (nI (k + 1))), none, none, none]) hC dX12_defaults_81 rfl (nI_inc _) (by decide) rfl ?_
        refine aw_goto (tgt := 4) hC dX12_defaults_84 (by decide) ?_
        exact ih1 (by omega) most (by first | exact mTop_no (fun q => absurd q.1 (by assumption)) hmost | exact mTop_no (fun q => absurd q.2.1 (by assumption)) hmost | exact mTop_no (fun q => absurd q.2.2 (bI_d0.mp (by assumption))) hmost)
      · show AW X 0 0 22 [some (.ref 44), some (.int (nI f)), some (.int most), some (.int (nI k)), none, none, none] [] T I J R
        refine aw_aload_n hC dX12_defaults_22 rfl ?_
        refine aw_getR hC dX12_defaults_23 aF_X12_13 rfl (tg_44 hT) (pr_44_2 hR) ?_
        refine aw_iload_n hC dX12_defaults_26 rfl ?_
        refine aw_iaload_k (j := k) hC dX12_defaults_27 (tg_46 hT) (nI_clamp (by omega)) (vp_in_nI (by omega) (by decide)) ?_
        refine aw_iload_n hC dX12_defaults_28 rfl ?_
        refine aw_icmp_ne (tgt := 81) hC dX12_defaults_29 (by decide) (fun h23 => ?_) (fun h23 => ?_)
        · show AW X 0 0 81 [some (.ref 44), some (.int (nI f)), some (.int most), some (.int (nI k)), none, none, none] [] T I J R
          refine aw_iinc (v := nI (k + 1)) (L2 := [some (.ref 44), some (.int (nI f)), some (.int most), some (.int (nI (k + 1))), none, none, none]) hC dX12_defaults_81 rfl (nI_inc _) (by decide) rfl ?_
          refine aw_goto (tgt := 4) hC dX12_defaults_84 (by decide) ?_
          exact ih1 (by omega) most (by first | exact mTop_no (fun q => absurd q.1 (by assumption)) hmost | exact mTop_no (fun q => absurd q.2.1 (by assumption)) hmost | exact mTop_no (fun q => absurd q.2.2 (bI_d0.mp (by assumption))) hmost)
        · show AW X 0 0 32 [some (.ref 44), some (.int (nI f)), some (.int most), some (.int (nI k)), none, none, none] [] T I J R
          refine aw_aload_n hC dX12_defaults_32 rfl ?_
          refine aw_iload_n hC dX12_defaults_33 rfl ?_
          refine kX12_250 hC rfl (m_X12_countsU hT hR (n := n) (s := k) (by omega) hS.n30 hg hA) dX12_defaults_34 (tg_44 hT) rfl a_le a_le a_le a_le a_le rfl aPure_x (aPure_k ?_)
          show AW X 0 0 37 [some (.ref 44), some (.int (nI f)), some (.int most), some (.int (nI k)), none, none, none] [.int (bI (decide (cOn I (J 88) k)))] T I J R
          refine aw_if_eq (tgt := 81) hC dX12_defaults_37 (by decide) (fun h24 => ?_) (fun h24 => ?_)
          · show AW X 0 0 81 [some (.ref 44), some (.int (nI f)), some (.int most), some (.int (nI k)), none, none, none] [] T I J R
            refine aw_iinc (v := nI (k + 1)) (L2 := [some (.ref 44), some (.int (nI f)), some (.int most), some (.int (nI (k + 1))), none, none, none]) hC dX12_defaults_81 rfl (nI_inc _) (by decide) rfl ?_
            refine aw_goto (tgt := 4) hC dX12_defaults_84 (by decide) ?_
            exact ih1 (by omega) most (by first | exact mTop_no (fun q => absurd q.1 (by assumption)) hmost | exact mTop_no (fun q => absurd q.2.1 (by assumption)) hmost | exact mTop_no (fun q => absurd q.2.2 (bI_d0.mp (by assumption))) hmost)
          · show AW X 0 0 40 [some (.ref 44), some (.int (nI f)), some (.int most), some (.int (nI k)), none, none, none] [] T I J R
            refine aw_aload_n hC dX12_defaults_40 rfl ?_
            refine aw_getR hC dX12_defaults_41 aF_X12_22 rfl (tg_44 hT) (pr_44_5 hR) ?_
            refine aw_iload_n hC dX12_defaults_44 rfl ?_
            refine aw_iaload_k (j := k) hC dX12_defaults_45 (tg_49 hT) (nI_clamp (by omega)) (vp_in_nI (by omega) (by decide)) ?_
            refine aw_if_ge (tgt := 53) hC dX12_defaults_46 (by decide) (fun h25 => ?_) (fun h25 => ?_)
            · show AW X 0 0 53 [some (.ref 44), some (.int (nI f)), some (.int most), some (.int (nI k)), none, none, none] [] T I J R
              refine aw_aload_n hC dX12_defaults_53 rfl ?_
              refine aw_getR hC dX12_defaults_54 aF_X12_38 rfl (tg_44 hT) (pr_44_10 hR) ?_
              refine aw_aload_n hC dX12_defaults_57 rfl ?_
              refine aw_getR hC dX12_defaults_58 aF_X12_22 rfl (tg_44 hT) (pr_44_5 hR) ?_
              refine aw_iload_n hC dX12_defaults_61 rfl ?_
              refine aw_iaload_k (j := k) hC dX12_defaults_62 (tg_49 hT) (nI_clamp (by omega)) (vp_in_nI (by omega) (by decide)) ?_
              refine aw_iaload_k (j := (I 49 k).toNatClampNeg) hC dX12_defaults_63 (tg_54 hT) rfl (hS.fl6 (by omega) (by first | assumption | exact Int32.not_lt.mp (by assumption))).1 ?_
              refine aw_iconst (v := 1) hC dX12_defaults_64 (by decide) ?_
              refine aw_iadd hC dX12_defaults_65 ?_
              refine aw_istore (L2 := [some (.ref 44), some (.int (nI f)), some (.int most), some (.int (nI k)), some (.int ((I 54 ((I 49 k).toNatClampNeg)) + 1)), none, none]) hC dX12_defaults_66 (by decide) rfl ?_
              refine aw_iload hC dX12_defaults_68 rfl ?_
              refine aw_iload_n hC dX12_defaults_70 rfl ?_
              refine aw_icmp_le (tgt := 79) hC dX12_defaults_71 (by decide) (fun h26 => ?_) (fun h26 => ?_)
              · show AW X 0 0 79 [some (.ref 44), some (.int (nI f)), some (.int most), some (.int (nI k)), some (.int ((I 54 ((I 49 k).toNatClampNeg)) + 1)), none, none] [] T I J R
                refine aw_iload_n hC dX12_defaults_79 rfl ?_
                refine aw_istore_n (L2 := [some (.ref 44), some (.int (nI f)), some (.int most), some (.int (nI k)), some (.int ((I 54 ((I 49 k).toNatClampNeg)) + 1)), none, none]) hC dX12_defaults_80 rfl (by decide) rfl ?_
                refine aw_iinc (v := nI (k + 1)) (L2 := [some (.ref 44), some (.int (nI f)), some (.int most), some (.int (nI (k + 1))), some (.int ((I 54 ((I 49 k).toNatClampNeg)) + 1)), none, none]) hC dX12_defaults_81 rfl (nI_inc _) (by decide) rfl ?_
                refine aw_goto (tgt := 4) hC dX12_defaults_84 (by decide) ?_
                refine aw_forget 4 (L2 := [some (.ref 44), some (.int (nI f)), some (.int most), some (.int (nI (k + 1))), none, none, none]) rfl ?_
                exact ih1 (by omega) most ((mTop_yes (I := I) (k := k) ⟨by assumption, by assumption, bI_dn.mp (by assumption)⟩ (by first | exact lay_a (I := I) (k := k) (by assumption) | exact lay_a (I := I) (k := k) (Int32.not_le.mp (by assumption)) | exact lay_b (I := I) (k := k) (by assumption) | exact lay_b (I := I) (k := k) (Int32.not_lt.mp (by assumption))) hmost).2 (Int32.not_lt.mpr (by assumption)))
              · show AW X 0 0 74 [some (.ref 44), some (.int (nI f)), some (.int most), some (.int (nI k)), some (.int ((I 54 ((I 49 k).toNatClampNeg)) + 1)), none, none] [] T I J R
                refine aw_iload hC dX12_defaults_74 rfl ?_
                refine aw_goto (tgt := 80) hC dX12_defaults_76 (by decide) ?_
                refine aw_istore_n (L2 := [some (.ref 44), some (.int (nI f)), some (.int ((I 54 ((I 49 k).toNatClampNeg)) + 1)), some (.int (nI k)), some (.int ((I 54 ((I 49 k).toNatClampNeg)) + 1)), none, none]) hC dX12_defaults_80 rfl (by decide) rfl ?_
                refine aw_iinc (v := nI (k + 1)) (L2 := [some (.ref 44), some (.int (nI f)), some (.int ((I 54 ((I 49 k).toNatClampNeg)) + 1)), some (.int (nI (k + 1))), some (.int ((I 54 ((I 49 k).toNatClampNeg)) + 1)), none, none]) hC dX12_defaults_81 rfl (nI_inc _) (by decide) rfl ?_
                refine aw_goto (tgt := 4) hC dX12_defaults_84 (by decide) ?_
                refine aw_forget 4 (L2 := [some (.ref 44), some (.int (nI f)), some (.int ((I 54 ((I 49 k).toNatClampNeg)) + 1)), some (.int (nI (k + 1))), none, none, none]) rfl ?_
                exact ih1 (by omega) ((I 54 ((I 49 k).toNatClampNeg)) + 1) ((mTop_yes (I := I) (k := k) ⟨by assumption, by assumption, bI_dn.mp (by assumption)⟩ (by first | exact lay_a (I := I) (k := k) (by assumption) | exact lay_a (I := I) (k := k) (Int32.not_le.mp (by assumption)) | exact lay_b (I := I) (k := k) (by assumption) | exact lay_b (I := I) (k := k) (Int32.not_lt.mp (by assumption))) hmost).1 (Int32.not_le.mp (by assumption)))
            · show AW X 0 0 49 [some (.ref 44), some (.int (nI f)), some (.int most), some (.int (nI k)), none, none, none] [] T I J R
              refine aw_iconst (v := 0) hC dX12_defaults_49 (by decide) ?_
              refine aw_goto (tgt := 66) hC dX12_defaults_50 (by decide) ?_
              refine aw_istore (L2 := [some (.ref 44), some (.int (nI f)), some (.int most), some (.int (nI k)), some (.int 0), none, none]) hC dX12_defaults_66 (by decide) rfl ?_
              refine aw_iload hC dX12_defaults_68 rfl ?_
              refine aw_iload_n hC dX12_defaults_70 rfl ?_
              refine aw_icmp_le (tgt := 79) hC dX12_defaults_71 (by decide) (fun h27 => ?_) (fun h27 => ?_)
              · show AW X 0 0 79 [some (.ref 44), some (.int (nI f)), some (.int most), some (.int (nI k)), some (.int 0), none, none] [] T I J R
                refine aw_iload_n hC dX12_defaults_79 rfl ?_
                refine aw_istore_n (L2 := [some (.ref 44), some (.int (nI f)), some (.int most), some (.int (nI k)), some (.int 0), none, none]) hC dX12_defaults_80 rfl (by decide) rfl ?_
                refine aw_iinc (v := nI (k + 1)) (L2 := [some (.ref 44), some (.int (nI f)), some (.int most), some (.int (nI (k + 1))), some (.int 0), none, none]) hC dX12_defaults_81 rfl (nI_inc _) (by decide) rfl ?_
                refine aw_goto (tgt := 4) hC dX12_defaults_84 (by decide) ?_
                refine aw_forget 4 (L2 := [some (.ref 44), some (.int (nI f)), some (.int most), some (.int (nI (k + 1))), none, none, none]) rfl ?_
                exact ih1 (by omega) most ((mTop_yes (I := I) (k := k) ⟨by assumption, by assumption, bI_dn.mp (by assumption)⟩ (by first | exact lay_a (I := I) (k := k) (by assumption) | exact lay_a (I := I) (k := k) (Int32.not_le.mp (by assumption)) | exact lay_b (I := I) (k := k) (by assumption) | exact lay_b (I := I) (k := k) (Int32.not_lt.mp (by assumption))) hmost).2 (Int32.not_lt.mpr (by assumption)))
              · show AW X 0 0 74 [some (.ref 44), some (.int (nI f)), some (.int most), some (.int (nI k)), some (.int 0), none, none] [] T I J R
                refine aw_iload hC dX12_defaults_74 rfl ?_
                refine aw_goto (tgt := 80) hC dX12_defaults_76 (by decide) ?_
                refine aw_istore_n (L2 := [some (.ref 44), some (.int (nI f)), some (.int 0), some (.int (nI k)), some (.int 0), none, none]) hC dX12_defaults_80 rfl (by decide) rfl ?_
                refine aw_iinc (v := nI (k + 1)) (L2 := [some (.ref 44), some (.int (nI f)), some (.int 0), some (.int (nI (k + 1))), some (.int 0), none, none]) hC dX12_defaults_81 rfl (nI_inc _) (by decide) rfl ?_
                refine aw_goto (tgt := 4) hC dX12_defaults_84 (by decide) ?_
                refine aw_forget 4 (L2 := [some (.ref 44), some (.int (nI f)), some (.int 0), some (.int (nI (k + 1))), none, none, none]) rfl ?_
                exact ih1 (by omega) 0 ((mTop_yes (I := I) (k := k) ⟨by assumption, by assumption, bI_dn.mp (by assumption)⟩ (by first | exact lay_a (I := I) (k := k) (by assumption) | exact lay_a (I := I) (k := k) (Int32.not_le.mp (by assumption)) | exact lay_b (I := I) (k := k) (by assumption) | exact lay_b (I := I) (k := k) (Int32.not_lt.mp (by assumption))) hmost).1 (Int32.not_le.mp (by assumption)))
  exact loop1 0 (Nat.zero_le _) (-1) rfl
