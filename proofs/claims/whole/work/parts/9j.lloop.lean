/-! THE LAW'S LOOP -/
theorem lk_63 (x : Int32) : ∃ k, k < 64 ∧ x &&& 63 = nI k := by
  refine ⟨(x &&& 63).toBitVec.toNat, ?_, ?_⟩
  · rw [Int32.toBitVec_and]
    show (x.toBitVec &&& 63#32).toNat < 64
    rw [BitVec.toNat_and]
    exact Nat.lt_of_le_of_lt Nat.and_le_right (by decide)
  · apply Int32.toBitVec_inj.mp
    rw [nI, Int32.toBitVec_ofNat', BitVec.ofNat_toNat, BitVec.setWidth_eq]
theorem lk_7 {N c : Nat} (hN : N ≤ 3584) (hc : 7 * c ≤ N) (h : ¬ (nI N - 7 < nI (7 * c))) : 7 * c + 7 ≤ N := by
  have e1 : (nI N).toInt = N := by rw [nI]; exact Int32.toInt_ofNat_of_lt (by omega)
  have e2 : (nI (7 * c)).toInt = (7 * c : Nat) := by rw [nI]; exact Int32.toInt_ofNat_of_lt (by omega)
  rw [Int32.lt_iff_toInt_lt, Int32.toInt_sub, e1, e2] at h
  rw [show ((7 : Int32).toInt) = 7 from rfl] at h
  rw [Int.bmod_eq_of_le (by omega) (by omega)] at h
  omega
theorem lk_lt45 (k : Nat) (h : k < 45) : k = 0 ∨ k = 1 ∨ k = 2 ∨ k = 3 ∨ k = 4 ∨ k = 5 ∨ k = 6 ∨ k = 7 ∨ k = 8 ∨ k = 9 ∨ k = 10 ∨ k = 11 ∨ k = 12 ∨ k = 13 ∨ k = 14 ∨ k = 15 ∨ k = 16 ∨ k = 17 ∨ k = 18 ∨ k = 19 ∨ k = 20 ∨ k = 21 ∨ k = 22 ∨ k = 23 ∨ k = 24 ∨ k = 25 ∨ k = 26 ∨ k = 27 ∨ k = 28 ∨ k = 29 ∨ k = 30 ∨ k = 31 ∨ k = 32 ∨ k = 33 ∨ k = 34 ∨ k = 35 ∨ k = 36 ∨ k = 37 ∨ k = 38 ∨ k = 39 ∨ k = 40 ∨ k = 41 ∨ k = 42 ∨ k = 43 ∨ k = 44 := by omega
theorem lx_widen {sb : Nat} {X : aX} {cells slots c2 s2 pc : Nat} {L : List (Option Value)} {st : List Value} {T : List aT} {I : aI} {J : aJ} {R : aR} (h1 : cells ≤ c2) (h2 : slots ≤ s2) (k : YW sb X c2 s2 pc L st T I J R) : YW sb X cells slots pc L st T I J R := by
  obtain ⟨p, l, e, Rm, s, m, args, below, meth, c, Q, A, D, ad0, T0⟩ := X
  intro tys ad ws H locs ls g1 g2 g3 g4 g5 g6 hK hP hD hS hl
  exact W.widen h1 h2 (k tys ad ws H locs ls g1 g2 g3 g4 g5 g6 hK hP hD hS hl)
set_option maxRecDepth 16384 in
theorem lk_loop {sb N : Nat} {xs : Nat → Int32} {X : aX} (hC : YC yL_law cL_law 7 12 438 601024 7293034 sb N xs X) (hN : N ≤ 3584) (hEnd : ∀ (C S : Nat) (L : List (Option Value)) (T : List aT) (I : aI) (J : aJ) (R : aR), C ≤ 601024 → S ≤ 7293034 → YW sb X C S 2845 L [.int 1] T I J R) :
    ∀ (r c : Nat) (T : List aT) (I : aI) (J : aJ) (R : aR), N < 7 * c + r → 7 * c ≤ N → GI T I J R I c → Zr J → YW sb X (95 + 3 * c) (8766 + 200 * c) 23 [none, some (.ref 0), some (.ref 44), some (.ref 94), some (.int (nI (7 * c))), none, none] [] T I J R := by
  intro r
  induction r with
  | zero => intro c T I J R h1 h2; omega
  | succ r ih =>
    intro c T I J R h1 h2 hG hZ
    refine lx_iload hC dL_law_23 rfl ?_
    refine lx_slen (v := nI N) hC dL_law_25 dL_law_26 rfl ?_
    refine lx_bipush (v := 7) hC dL_law_27 (by decide) ?_
    refine lx_isub hC dL_law_29 ?_
    refine lx_icmp_gt (tgt := 2844) hC dL_law_30 (by decide) (fun _ => ?_) (fun h3 => ?_)
    · refine lx_iconst (v := 1) hC dL_law_2844 (by decide) ?_
      exact hEnd _ _ _ _ _ _ _ (by omega) (by omega)
    have hin := lk_7 hN h2 h3
    have kk : ∀ (a9 b9 : Option Value) (T2 : List aT) (I2 : aI) (J2 : aJ) (R2 : aR), GI T2 I2 J2 R2 I2 (c + 1) → Zr J2 → YW sb X (95 + 3 * c + 3) (8766 + 200 * c + 200) 2838 [none, some (.ref 0), some (.ref 44), some (.ref 94), some (.int (nI (7 * c))), a9, b9] [] T2 I2 J2 R2 := by
      intro a9 b9 T2 I2 J2 R2 hG2 hZ2
      refine lx_iinc (v := nI (7 * (c + 1))) (L2 := [none, some (.ref 0), some (.ref 44), some (.ref 94), some (.int (nI (7 * (c + 1)))), a9, b9]) hC dL_law_2838 rfl (by rw [show Int32.ofInt 7 = nI 7 from rfl, nI_add]; congr 1) (by decide) (by decide) rfl ?_
      refine lx_goto (tgt := 23) hC dL_law_2841 (by decide) ?_
      refine lx_forget 5 (L2 := [none, some (.ref 0), some (.ref 44), some (.ref 94), some (.int (nI (7 * (c + 1)))), none, b9]) rfl ?_
      refine lx_forget 6 (L2 := [none, some (.ref 0), some (.ref 44), some (.ref 94), some (.int (nI (7 * (c + 1)))), none, none]) rfl ?_
      exact ih (c + 1) T2 I2 J2 R2 (by omega) (by omega) hG2 hZ2
    have hc3 : 95 + 3 * c + 3 ≤ 601024 := by omega
    have hs3 : 8766 + 200 * c + 200 ≤ 7293034 := by omega
    refine lx_sld0 hC dL_law_33 dL_law_34 dL_law_36 rfl (lx_in0 hin hN) ?_
    refine lx_bipush (v := 63) hC dL_law_37 (by decide) ?_
    refine lx_iand hC dL_law_39 ?_
    obtain ⟨k, hk, e⟩ := lk_63 (xs (nI (7 * c)).toNatClampNeg)
    rw [e]
    rcases Nat.lt_or_ge k 45 with h45 | h45
    · rcases lk_lt45 k h45 with rfl | rfl | rfl | rfl | rfl | rfl | rfl | rfl | rfl | rfl | rfl | rfl | rfl | rfl | rfl | rfl | rfl | rfl | rfl | rfl | rfl | rfl | rfl | rfl | rfl | rfl | rfl | rfl | rfl | rfl | rfl | rfl | rfl | rfl | rfl | rfl | rfl | rfl | rfl | rfl | rfl | rfl | rfl | rfl | rfl
      · exact lx_tableIn (tgt := 236) (off := 196) hC dL_law_40 (by decide) (by decide) (by rfl) (by decide) (lk_tell hC hG hZ hin hN hc3 hs3 kk)
      · exact lx_tableIn (tgt := 340) (off := 300) hC dL_law_40 (by decide) (by decide) (by rfl) (by decide) (lk_draft hC hG hZ hin hN hc3 hs3 kk)
      · exact lx_tableIn (tgt := 444) (off := 404) hC dL_law_40 (by decide) (by decide) (by rfl) (by decide) (lk_publish hC hG hZ hin hN hc3 hs3 kk)
      · exact lx_tableIn (tgt := 500) (off := 460) hC dL_law_40 (by decide) (by decide) (by rfl) (by decide) (lk_remove hC hG hZ hin hN hc3 hs3 kk)
      · exact lx_tableIn (tgt := 556) (off := 516) hC dL_law_40 (by decide) (by decide) (by rfl) (by decide) (lk_setLayer hC hG hZ hin hN hc3 hs3 kk)
      · exact lx_tableIn (tgt := 624) (off := 584) hC dL_law_40 (by decide) (by decide) (by rfl) (by decide) (lk_lock hC hG hZ hin hN hc3 hs3 kk)
      · exact lx_tableIn (tgt := 692) (off := 652) hC dL_law_40 (by decide) (by decide) (by rfl) (by decide) (lk_except hC hG hZ hin hN hc3 hs3 kk)
      · exact lx_tableIn (tgt := 772) (off := 732) hC dL_law_40 (by decide) (by decide) (by rfl) (by decide) (lk_pass hC hG hZ hin hN hc3 hs3 kk)
      · exact lx_tableIn (tgt := 828) (off := 788) hC dL_law_40 (by decide) (by decide) (by rfl) (by decide) (lk_standing hC hG hZ hin hN hc3 hs3 kk)
      · exact lx_tableIn (tgt := 884) (off := 844) hC dL_law_40 (by decide) (by decide) (by rfl) (by decide) (lk_value hC hG hZ hin hN hc3 hs3 kk)
      · exact lx_tableIn (tgt := 940) (off := 900) hC dL_law_40 (by decide) (by decide) (by rfl) (by decide) (lk_set hC hG hZ hin hN hc3 hs3 kk)
      · exact lx_tableIn (tgt := 996) (off := 956) hC dL_law_40 (by decide) (by decide) (by rfl) (by decide) (lk_setAnew hC hG hZ hin hN hc3 hs3 kk)
      · exact lx_tableIn (tgt := 1052) (off := 1012) hC dL_law_40 (by decide) (by decide) (by rfl) (by decide) (lk_conflict hC hG hZ hin hN hc3 hs3 kk)
      · exact lx_tableIn (tgt := 1065) (off := 1025) hC dL_law_40 (by decide) (by decide) (by rfl) (by decide) (lk_policy hC hG hZ hin hN hc3 hs3 kk)
      · exact lx_tableIn (tgt := 1145) (off := 1105) hC dL_law_40 (by decide) (by decide) (by rfl) (by decide) (lk_proof hC hG hZ hin hN hc3 hs3 kk)
      · exact lx_tableIn (tgt := 1201) (off := 1161) hC dL_law_40 (by decide) (by decide) (by rfl) (by decide) (lk_tainted hC hG hZ hin hN hc3 hs3 kk)
      · exact lx_tableIn (tgt := 1214) (off := 1174) hC dL_law_40 (by decide) (by decide) (by rfl) (by decide) (lk_setType hC hG hZ hin hN hc3 hs3 kk)
      · exact lx_tableIn (tgt := 1344) (off := 1304) hC dL_law_40 (by decide) (by decide) (by rfl) (by decide) (lk_generator hC hG hZ hin hN hc3 hs3 kk)
      · exact lx_tableIn (tgt := 1400) (off := 1360) hC dL_law_40 (by decide) (by decide) (by rfl) (by decide) (lk_key hC hG hZ hin hN hc3 hs3 kk)
      · exact lx_tableIn (tgt := 1480) (off := 1440) hC dL_law_40 (by decide) (by decide) (by rfl) (by decide) (lk_unkey hC hG hZ hin hN hc3 hs3 kk)
      · exact lx_tableIn (tgt := 1548) (off := 1508) hC dL_law_40 (by decide) (by decide) (by rfl) (by decide) (lk_bind hC hG hZ hin hN hc3 hs3 kk)
      · exact lx_tableIn (tgt := 1628) (off := 1588) hC dL_law_40 (by decide) (by decide) (by rfl) (by decide) (lk_upgrade hC hG hZ hin hN hc3 hs3 kk)
      · exact lx_tableIn (tgt := 1684) (off := 1644) hC dL_law_40 (by decide) (by decide) (by rfl) (by decide) (lk_given hC hG hZ hin hN hc3 hs3 kk)
      · exact lx_tableIn (tgt := 1752) (off := 1712) hC dL_law_40 (by decide) (by decide) (by rfl) (by decide) (lk_pending hC hG hZ hin hN hc3 hs3 kk)
      · exact lx_tableIn (tgt := 1765) (off := 1725) hC dL_law_40 (by decide) (by decide) (by rfl) (by decide) (lk_differing hC hG hZ hin hN hc3 hs3 kk)
      · exact lx_tableIn (tgt := 1778) (off := 1738) hC dL_law_40 (by decide) (by decide) (by rfl) (by decide) (lk_plan hC hG hZ hin hN hc3 hs3 kk)
      · exact lx_tableIn (tgt := 1834) (off := 1794) hC dL_law_40 (by decide) (by decide) (by rfl) (by decide) (lk_action hC hG hZ hin hN hc3 hs3 kk)
      · exact lx_tableIn (tgt := 1902) (off := 1862) hC dL_law_40 (by decide) (by decide) (by rfl) (by decide) (lk_approve hC hG hZ hin hN hc3 hs3 kk)
      · exact lx_tableIn (tgt := 1977) (off := 1937) hC dL_law_40 (by decide) (by decide) (by rfl) (by decide) (lk_isStale hC hG hZ hin hN hc3 hs3 kk)
      · exact lx_tableIn (tgt := 2040) (off := 2000) hC dL_law_40 (by decide) (by decide) (by rfl) (by decide) (lk_rebase hC hG hZ hin hN hc3 hs3 kk)
      · exact lx_tableIn (tgt := 2103) (off := 2063) hC dL_law_40 (by decide) (by decide) (by rfl) (by decide) (lk_apply hC hG hZ hin hN hc3 hs3 kk)
      · exact lx_tableIn (tgt := 2159) (off := 2119) hC dL_law_40 (by decide) (by decide) (by rfl) (by decide) (lk_step hC hG hZ hin hN hc3 hs3 kk)
      · exact lx_tableIn (tgt := 2215) (off := 2175) hC dL_law_40 (by decide) (by decide) (by rfl) (by decide) (lk_isApplying hC hG hZ hin hN hc3 hs3 kk)
      · exact lx_tableIn (tgt := 2228) (off := 2188) hC dL_law_40 (by decide) (by decide) (by rfl) (by decide) (lk_isLocked hC hG hZ hin hN hc3 hs3 kk)
      · exact lx_tableIn (tgt := 2241) (off := 2201) hC dL_law_40 (by decide) (by decide) (by rfl) (by decide) (lk_serial hC hG hZ hin hN hc3 hs3 kk)
      · exact lx_tableIn (tgt := 2254) (off := 2214) hC dL_law_40 (by decide) (by decide) (by rfl) (by decide) (lk_entry hC hG hZ hin hN hc3 hs3 kk)
      · exact lx_tableIn (tgt := 2310) (off := 2270) hC dL_law_40 (by decide) (by decide) (by rfl) (by decide) (lk_stored hC hG hZ hin hN hc3 hs3 kk)
      · exact lx_tableIn (tgt := 2378) (off := 2338) hC dL_law_40 (by decide) (by decide) (by rfl) (by decide) (lk_real hC hG hZ hin hN hc3 hs3 kk)
      · exact lx_tableIn (tgt := 2446) (off := 2406) hC dL_law_40 (by decide) (by decide) (by rfl) (by decide) (lk_resources hC hG hZ hin hN hc3 hs3 kk)
      · exact lx_tableIn (tgt := 2459) (off := 2419) hC dL_law_40 (by decide) (by decide) (by rfl) (by decide) (lk_change hC hG hZ hin hN hc3 hs3 kk)
      · exact lx_tableIn (tgt := 2539) (off := 2499) hC dL_law_40 (by decide) (by decide) (by rfl) (by decide) (lk_destroy hC hG hZ hin hN hc3 hs3 kk)
      · exact lx_tableIn (tgt := 2602) (off := 2562) hC dL_law_40 (by decide) (by decide) (by rfl) (by decide) (lk_make hC hG hZ hin hN hc3 hs3 kk)
      · exact lx_tableIn (tgt := 2658) (off := 2618) hC dL_law_40 (by decide) (by decide) (by rfl) (by decide) (lk_read hC hG hZ hin hN hc3 hs3 kk)
      · exact lx_tableIn (tgt := 2702) (off := 2662) hC dL_law_40 (by decide) (by decide) (by rfl) (by decide) (lk_move hC hG hZ hin hN hc3 hs3 kk)
      · exact lx_tableIn (tgt := 2770) (off := 2730) hC dL_law_40 (by decide) (by decide) (by rfl) (by decide) (lk_take hC hG hZ hin hN hc3 hs3 kk)
    · refine lx_tableOut (tgt := 2838) hC dL_law_40 (Or.inr ?_) (by decide) (lx_widen (by omega) (by omega) (kk none none T I J R hG.next hZ))
      have e1 : (nI k).toInt = k := by rw [nI]; exact Int32.toInt_ofNat_of_lt (by omega)
      rw [e1]; omega
