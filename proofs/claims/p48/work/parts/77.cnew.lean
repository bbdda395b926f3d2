/-- what is not made yet is empty -/
theorem aw_ok {X : aX} {cells slots pc : Nat} {L : List (Option Value)} {st : List Value} {T : List aT} {I : aI} {J : aJ} {R : aR} (k : (∀ o, T.length ≤ o → I o = (fun _ => 0) ∧ J o = (fun _ => 0) ∧ R o = fun _ => none) → AW X cells slots pc L st T I J R) : AW X cells slots pc L st T I J R := by
  obtain ⟨p, l, e, Rm, s, m, args, below, meth, c, Q, A, D, ad0, T0⟩ := X
  intro tys ad ws H locs ls h1 h2 h3 h4 h5 h6 hK hP hD hS hl
  exact k h2.2 tys ad ws H locs ls h1 h2 h3 h4 h5 h6 hK hP hD hS hl
theorem T_ap1 {T T2 : List aT} {n : Nat} {a : aT} (h : T.length = n) (e : T2 = T ++ [a]) : T <+: T2 ∧ T2.length = n + 1 ∧ T2[n]? = some a := by
  subst e; subst h
  exact ⟨List.prefix_append _ _, by simp, by simp⟩
theorem T_ap2 {T T2 : List aT} {n : Nat} {a b : aT} (h : T.length = n) (e : T2 = T ++ [a, b]) : T <+: T2 ∧ T2.length = n + 2 ∧ T2[n]? = some a ∧ T2[n + 1]? = some b := by
  subst e; subst h
  exact ⟨List.prefix_append _ _, by simp, by simp, by simp⟩
theorem CSt.next {T T2 : List aT} {I : aI} {R : aR} {m : aI} {n : Nat} {sq : Nat → Nat} (h : CSt T I R m n sq) (hp : T <+: T2) : CSt T2 I R m n sq := ⟨h.1, fun s hs => ⟨h.rf hs, a_pfx hp (h.at hs).1, (h.at hs).2⟩, h.2.2⟩
theorem CGn.next {T T2 : List aT} {I : aI} {R : aR} {m : aI} {g : Nat} {gq : Nat → Nat} (h : CGn T I R m g gq) (hp : T <+: T2) : CGn T2 I R m g gq := ⟨h.1, fun i hi => ⟨h.rf hi, by
  have q := h.at hi
  exact ⟨a_pfx hp q.1, q.2.1, a_pfx hp q.2.2.1, q.2.2.2.1, a_pfx hp q.2.2.2.2.1, q.2.2.2.2.2⟩⟩, h.2.2⟩
theorem CEn.next {T T2 : List aT} {I : aI} {R : aR} {m : aI} {eq : Nat → Nat} (h : CEn T I R m eq) (hp : T <+: T2) : CEn T2 I R m eq := ⟨fun x hx => ⟨fun h0 => h.no hx h0, fun h0 => ⟨h.rf hx h0, by
  have q := h.at hx h0
  exact ⟨a_pfx hp q.1, q.2.1, a_pfx hp q.2.2.1, q.2.2.2.1, a_pfx hp q.2.2.2.2.1, q.2.2.2.2.2⟩⟩⟩, h.2⟩
set_option maxRecDepth 100000 in
theorem m_X3_init {T : List aT} {I : aI} {J : aJ} {R : aR} {q : Nat} (hq9 : T.length = q + 1) (hqt : T[q]? = some (.inr 3)) {r : Int32} (hR : aPR R) (h95 : 44 ≤ q) : MX3_init 2 6 [.ref q, .int r] T I J R (aPure none (T ++ [.inl (.int, 3), .inl (.int, 3)]) (a_u I q 0 r) J (a_u (a_u R q 1 (some (q + 1))) q 4 (some (q + 2)))) := by
  refine a_met (by decide +kernel) a_le (fun X hC hq => ?_)
  show AW X 0 0 0 [some (.ref q), some (.int r)] [] T I J R
  refine aw_aload_n hC dX3_init_0 rfl ?_
  refine aw_objInit hC dX3_init_1 gL_X3_3 gOI_i gOI_c (by decide) (by decide) ?_
  refine aw_aload_n hC dX3_init_4 rfl ?_
  refine aw_iconst (v := 3) hC dX3_init_5 (by decide) ?_
  refine aw_newarrayI (N := 3) hC dX3_init_6 gA_int rfl (by decide) a_le a_le ?_
  rw [hq9]
  obtain ⟨T1, hTT1⟩ : ∃ T1, T1 = T ++ [.inl (.int, 3)] := ⟨_, rfl⟩
  rw [← hTT1]
  have hA1 := T_ap1 hq9 hTT1
  have hp1 : T <+: T1 := hA1.1
  show AW X (0 + 1) (0 + 3) 8 [some (.ref q), some (.int r)] [.ref (q + 1), .ref q] T1 I J R
  refine aw_putRF hC dX3_init_8 aF_X3_9 rfl rfl rfl rfl (a_pfx hp1 hqt) ?_
  have hR1 : aPR (a_u R q 1 (some (q + 1))) := hR.putD (by omega)
  refine aw_aload_n hC dX3_init_11 rfl ?_
  refine aw_iconst (v := 3) hC dX3_init_12 (by decide) ?_
  refine aw_newarrayI (N := 3) hC dX3_init_13 gA_int rfl (by decide) a_le a_le ?_
  rw [hA1.2.1]
  obtain ⟨T2, hTT2⟩ : ∃ T2, T2 = T1 ++ [.inl (.int, 3)] := ⟨_, rfl⟩
  rw [← hTT2]
  have hA2 := T_ap1 hA1.2.1 hTT2
  have hp2 : T1 <+: T2 := hA2.1
  show AW X ((0 + 1) + 1) ((0 + 3) + 3) 15 [some (.ref q), some (.int r)] [.ref (q + 2), .ref q] T2 I J (a_u R q 1 (some (q + 1)))
  refine aw_putRF hC dX3_init_15 aF_X3_15 rfl rfl rfl rfl (a_pfx hp2 (a_pfx hp1 hqt)) ?_
  have hR2 : aPR (a_u (a_u R q 1 (some (q + 1))) q 4 (some (q + 2))) := hR1.putD (by omega)
  refine aw_aload_n hC dX3_init_18 rfl ?_
  refine aw_iload_n hC dX3_init_19 rfl ?_
  refine aw_putIF hC dX3_init_20 aF_X3_18 rfl rfl rfl rfl (a_pfx hp2 (a_pfx hp1 hqt)) ?_
  exact aw_return hC hq rfl dX3_init_23 a_le a_le ⟨rfl, by rw [hTT2, hTT1, List.append_assoc]; rfl, rfl, rfl, rfl⟩
set_option maxRecDepth 100000 in
theorem m_X5_init {T : List aT} {I : aI} {J : aJ} {R : aR} {q : Nat} (hq9 : T.length = q + 1) (hqt : T[q]? = some (.inr 5)) {r : Int32} (hR : aPR R) (h95 : 44 ≤ q) : MX5_init 2 11 [.ref q, .int r] T I J R (aPure none (T ++ [.inl (.int, 8), .inl (.int, 3)]) (a_fill (a_u I q 0 r) (q + 2) 3 (fun _ => (-1))) J (a_u (a_u R q 1 (some (q + 1))) q 3 (some (q + 2)))) := by
  refine a_met (by decide +kernel) a_le (fun X hC hq => ?_)
  show AW X 0 0 0 [some (.ref q), some (.int r)] [] T I J R
  refine aw_aload_n hC dX5_init_0 rfl ?_
  refine aw_objInit hC dX5_init_1 gL_X5_3 gOI_i gOI_c (by decide) (by decide) ?_
  refine aw_aload_n hC dX5_init_4 rfl ?_
  refine aw_bipush (v := 8) hC dX5_init_5 (by decide) ?_
  refine aw_newarrayI (N := 8) hC dX5_init_7 gA_int rfl (by decide) a_le a_le ?_
  rw [hq9]
  obtain ⟨T1, hTT1⟩ : ∃ T1, T1 = T ++ [.inl (.int, 8)] := ⟨_, rfl⟩
  rw [← hTT1]
  have hA1 := T_ap1 hq9 hTT1
  have hp1 : T <+: T1 := hA1.1
  show AW X (0 + 1) (0 + 8) 9 [some (.ref q), some (.int r)] [.ref (q + 1), .ref q] T1 I J R
  refine aw_putRF hC dX5_init_9 aF_X5_9 rfl rfl rfl rfl (a_pfx hp1 hqt) ?_
  have hR1 : aPR (a_u R q 1 (some (q + 1))) := hR.putD (by omega)
  refine aw_aload_n hC dX5_init_12 rfl ?_
  refine aw_iconst (v := 3) hC dX5_init_13 (by decide) ?_
  refine aw_newarrayI (N := 3) hC dX5_init_14 gA_int rfl (by decide) a_le a_le ?_
  rw [hA1.2.1]
  obtain ⟨T2, hTT2⟩ : ∃ T2, T2 = T1 ++ [.inl (.int, 3)] := ⟨_, rfl⟩
  rw [← hTT2]
  have hA2 := T_ap1 hA1.2.1 hTT2
  have hp2 : T1 <+: T2 := hA2.1
  show AW X ((0 + 1) + 1) ((0 + 8) + 3) 16 [some (.ref q), some (.int r)] [.ref (q + 2), .ref q] T2 I J (a_u R q 1 (some (q + 1)))
  refine aw_putRF hC dX5_init_16 aF_X5_15 rfl rfl rfl rfl (a_pfx hp2 (a_pfx hp1 hqt)) ?_
  have hR2 : aPR (a_u (a_u R q 1 (some (q + 1))) q 3 (some (q + 2))) := hR1.putD (by omega)
  refine aw_aload_n hC dX5_init_19 rfl ?_
  refine aw_iload_n hC dX5_init_20 rfl ?_
  refine aw_putIF hC dX5_init_21 aF_X5_18 rfl rfl rfl rfl (a_pfx hp2 (a_pfx hp1 hqt)) ?_
  refine aw_aload_n hC dX5_init_24 rfl ?_
  refine aw_getR hC dX5_init_25 aF_X5_15 rfl (a_pfx hp2 (a_pfx hp1 hqt)) (by rw [a_u_self]) ?_
  refine aw_iconst (v := (-1)) hC dX5_init_28 (by decide) ?_
  refine kX5_22 hC rfl (m_J7_fill_53178 (I := a_u I q 0 r) (n := 3) hA2.2.2 (by omega) ((-1) : Int32)) dX5_init_29 rfl a_le a_le a_le a_le a_le rfl aPure_x (aPure_k ?_)
  show AW X ((0 + 1) + 1) ((0 + 8) + 3) 32 [some (.ref q), some (.int r)] [] T2 (a_fill (a_u I q 0 r) (q + 2) 3 (fun _ => (-1))) J (a_u (a_u R q 1 (some (q + 1))) q 3 (some (q + 2)))
  exact aw_return hC hq rfl dX5_init_32 a_le a_le ⟨rfl, by rw [hTT2, hTT1, List.append_assoc]; rfl, rfl, rfl, rfl⟩
set_option maxRecDepth 100000 in
theorem m_X6_init {T : List aT} {I : aI} {J : aJ} {R : aR} {q a : Nat} (hqt : T[q]? = some (.inr 6)) (hR : aPR R) (h95 : 44 ≤ q) (x z : Int32) : MX6_init 0 0 [.ref q, .int x, .int z, .ref a] T I J R (aPure none T (a_u (a_u I q 0 x) q 1 z) J (a_u R q 2 (some a))) := by
  refine a_met (by decide +kernel) a_le (fun X hC hq => ?_)
  show AW X 0 0 0 [some (.ref q), some (.int x), some (.int z), some (.ref a)] [] T I J R
  refine aw_aload_n hC dX6_init_0 rfl ?_
  refine aw_objInit hC dX6_init_1 gL_X6_1 gOI_i gOI_c (by decide) (by decide) ?_
  refine aw_aload_n hC dX6_init_4 rfl ?_
  refine aw_iload_n hC dX6_init_5 rfl ?_
  refine aw_putIF hC dX6_init_6 aF_X6_7 rfl rfl rfl rfl hqt ?_
  refine aw_aload_n hC dX6_init_9 rfl ?_
  refine aw_iload_n hC dX6_init_10 rfl ?_
  refine aw_putI hC dX6_init_11 aF_X6_13 rfl rfl hqt ?_
  refine aw_aload_n hC dX6_init_14 rfl ?_
  refine aw_aload_n hC dX6_init_15 rfl ?_
  refine aw_putRF hC dX6_init_16 aF_X6_16 rfl rfl rfl rfl hqt ?_
  have hR1 : aPR (a_u R q 2 (some a)) := hR.putD (by omega)
  exact aw_return hC hq rfl dX6_init_19 a_le a_le aPure_v
set_option maxRecDepth 100000 in
theorem m_X8_init {T : List aT} {I : aI} {J : aJ} {R : aR} {q : Nat} (hqt : T[q]? = some (.inr 8)) (x0 x1 x2 x3 x4 x5 : Int32) : MX8_init 0 0 [.ref q, .int x0, .int x1, .int x2, .int x3, .int x4, .int x5] T I J R (aPure none T (a_u (a_u (a_u (a_u (a_u (a_u I q 0 x0) q 1 x1) q 2 x2) q 3 x3) q 4 x4) q 5 x5) J R) := by
  refine a_met (by decide +kernel) a_le (fun X hC hq => ?_)
  show AW X 0 0 0 [some (.ref q), some (.int x0), some (.int x1), some (.int x2), some (.int x3), some (.int x4), some (.int x5)] [] T I J R
  refine aw_aload_n hC dX8_init_0 rfl ?_
  refine aw_objInit hC dX8_init_1 gL_X8_3 gOI_i gOI_c (by decide) (by decide) ?_
  refine aw_aload_n hC dX8_init_4 rfl ?_
  refine aw_iload_n hC dX8_init_5 rfl ?_
  refine aw_putIF hC dX8_init_6 aF_X8_9 rfl rfl rfl rfl hqt ?_
  refine aw_aload_n hC dX8_init_9 rfl ?_
  refine aw_iload_n hC dX8_init_10 rfl ?_
  refine aw_putIF hC dX8_init_11 aF_X8_15 rfl rfl rfl rfl hqt ?_
  refine aw_aload_n hC dX8_init_14 rfl ?_
  refine aw_iload_n hC dX8_init_15 rfl ?_
  refine aw_putIF hC dX8_init_16 aF_X8_18 rfl rfl rfl rfl hqt ?_
  refine aw_aload_n hC dX8_init_19 rfl ?_
  refine aw_iload hC dX8_init_20 rfl ?_
  refine aw_putIF hC dX8_init_22 aF_X8_21 rfl rfl rfl rfl hqt ?_
  refine aw_aload_n hC dX8_init_25 rfl ?_
  refine aw_iload hC dX8_init_26 rfl ?_
  refine aw_putIF hC dX8_init_28 aF_X8_24 rfl rfl rfl rfl hqt ?_
  refine aw_aload_n hC dX8_init_31 rfl ?_
  refine aw_iload hC dX8_init_32 rfl ?_
  refine aw_putIF hC dX8_init_34 aF_X8_27 rfl rfl rfl rfl hqt ?_
  exact aw_return hC hq rfl dX8_init_37 a_le a_le aPure_v
