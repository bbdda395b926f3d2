/-! sets, has, is, begins -/
set_option maxRecDepth 100000 in
theorem m_L_sets {T : List aT} {I : aI} {J : aJ} {R : aR} {m : aI} {f x : Int32} (h0 : GX T I J R m) (h1 : MX11_set 3 200 [.ref 0, .int f] T I J R (EK (pt x m))) (h2 : ∀ {T I J R}, GX T I J R m → MX11_setAnew 3 200 [.ref 0, .int f] T I J R (EK (pt x m))) : ML_sets 6 400 [.ref 0, .int f, .int x] T I J R (EK (pt 1 m)) := by
  refine a_met (by decide +kernel) a_le (fun X hC hq => ?_)
  show AW X 0 0 0 [some (.ref 0), some (.int f), some (.int x)] [] T I J R
  refine aw_aload_n hC dL_sets_0 rfl ?_
  refine aw_iload_n hC dL_sets_1 rfl ?_
  refine kL_43 hC rfl h1 dL_sets_2 (GX.t0 h0) rfl a_le a_le a_le a_le a_le rfl ekx (ekp (fun T I J R h0 => ?_))
  show AW X 3 200 5 [some (.ref 0), some (.int f), some (.int x)] [.int x] T I J R
  refine aw_iload_n hC dL_sets_5 rfl ?_
  refine aw_icmp_ne (tgt := 22) hC dL_sets_6 (by decide) (fun z9 => absurd rfl z9) (fun _ => ?_)
  refine aw_aload_n hC dL_sets_9 rfl ?_
  refine aw_iload_n hC dL_sets_10 rfl ?_
  refine kL_46 hC rfl (h2 h0) dL_sets_11 (GX.t0 h0) rfl a_le a_le a_le a_le a_le rfl ekx (ekp (fun T I J R h0 => ?_))
  show AW X 6 400 14 [some (.ref 0), some (.int f), some (.int x)] [.int x] T I J R
  refine aw_iload_n hC dL_sets_14 rfl ?_
  refine aw_icmp_ne (tgt := 22) hC dL_sets_15 (by decide) (fun z9 => absurd rfl z9) (fun _ => ?_)
  refine aw_iconst (v := 1) hC dL_sets_18 (by decide) ?_
  refine aw_goto (tgt := 23) hC dL_sets_19 (by decide) ?_
  exact aw_zreturn hC hq rfl (Or.inr rfl) dL_sets_23 a_le a_le (EK.ret ⟨rfl, rfl⟩ h0)
set_option maxRecDepth 100000 in
theorem m_L_has {T : List aT} {I : aI} {J : aJ} {R : aR} {m : aI} {y x a b c : Int32} (h0 : GX T I J R m) (h1 : MX11_entry 3 200 [.ref 0, .int y] T I J R (EK (pt x m))) (g0 : ∀ {T I J R}, GX T I J R m → MX11_stored 3 200 [.ref 0, .int y, .int 0] T I J R (EK (pt a m))) (g1 : ∀ {T I J R}, GX T I J R m → MX11_stored 3 200 [.ref 0, .int y, .int 1] T I J R (EK (pt b m))) (g2 : ∀ {T I J R}, GX T I J R m → MX11_stored 3 200 [.ref 0, .int y, .int 2] T I J R (EK (pt c m))) : ML_has 12 800 [.ref 0, .int y, .int x, .int a, .int b, .int c] T I J R (EK (pt 1 m)) := by
  refine a_met (by decide +kernel) a_le (fun X hC hq => ?_)
  show AW X 0 0 0 [some (.ref 0), some (.int y), some (.int x), some (.int a), some (.int b), some (.int c)] [] T I J R
  refine aw_aload_n hC dL_has_0 rfl ?_
  refine aw_iload_n hC dL_has_1 rfl ?_
  refine kL_115 hC rfl h1 dL_has_2 (GX.t0 h0) rfl a_le a_le a_le a_le a_le rfl ekx (ekp (fun T I J R h0 => ?_))
  show AW X 3 200 5 [some (.ref 0), some (.int y), some (.int x), some (.int a), some (.int b), some (.int c)] [.int x] T I J R
  refine aw_iload_n hC dL_has_5 rfl ?_
  refine aw_icmp_ne (tgt := 45) hC dL_has_6 (by decide) (fun z9 => absurd rfl z9) (fun _ => ?_)
  refine aw_aload_n hC dL_has_9 rfl ?_
  refine aw_iload_n hC dL_has_10 rfl ?_
  refine aw_iconst (v := 0) hC dL_has_11 (by decide) ?_
  refine kL_118 hC rfl (g0 h0) dL_has_12 (GX.t0 h0) rfl a_le a_le a_le a_le a_le rfl ekx (ekp (fun T I J R h0 => ?_))
  show AW X 6 400 15 [some (.ref 0), some (.int y), some (.int x), some (.int a), some (.int b), some (.int c)] [.int a] T I J R
  refine aw_iload_n hC dL_has_15 rfl ?_
  refine aw_icmp_ne (tgt := 45) hC dL_has_16 (by decide) (fun z9 => absurd rfl z9) (fun _ => ?_)
  refine aw_aload_n hC dL_has_19 rfl ?_
  refine aw_iload_n hC dL_has_20 rfl ?_
  refine aw_iconst (v := 1) hC dL_has_21 (by decide) ?_
  refine kL_118 hC rfl (g1 h0) dL_has_22 (GX.t0 h0) rfl a_le a_le a_le a_le a_le rfl ekx (ekp (fun T I J R h0 => ?_))
  show AW X 9 600 25 [some (.ref 0), some (.int y), some (.int x), some (.int a), some (.int b), some (.int c)] [.int b] T I J R
  refine aw_iload hC dL_has_25 rfl ?_
  refine aw_icmp_ne (tgt := 45) hC dL_has_27 (by decide) (fun z9 => absurd rfl z9) (fun _ => ?_)
  refine aw_aload_n hC dL_has_30 rfl ?_
  refine aw_iload_n hC dL_has_31 rfl ?_
  refine aw_iconst (v := 2) hC dL_has_32 (by decide) ?_
  refine kL_118 hC rfl (g2 h0) dL_has_33 (GX.t0 h0) rfl a_le a_le a_le a_le a_le rfl ekx (ekp (fun T I J R h0 => ?_))
  show AW X 12 800 36 [some (.ref 0), some (.int y), some (.int x), some (.int a), some (.int b), some (.int c)] [.int c] T I J R
  refine aw_iload hC dL_has_36 rfl ?_
  refine aw_icmp_ne (tgt := 45) hC dL_has_38 (by decide) (fun z9 => absurd rfl z9) (fun _ => ?_)
  refine aw_iconst (v := 1) hC dL_has_41 (by decide) ?_
  refine aw_goto (tgt := 46) hC dL_has_42 (by decide) ?_
  exact aw_zreturn hC hq rfl (Or.inr rfl) dL_has_46 a_le a_le (EK.ret ⟨rfl, rfl⟩ h0)
set_option maxRecDepth 100000 in
theorem m_L_is {T : List aT} {I : aI} {J : aJ} {R : aR} {m : aI} {y a b c : Int32} (h0 : GX T I J R m) (g0 : ∀ {T I J R}, GX T I J R m → MX11_real 3 200 [.ref 0, .int y, .int 0] T I J R (EK (pt a m))) (g1 : ∀ {T I J R}, GX T I J R m → MX11_real 3 200 [.ref 0, .int y, .int 1] T I J R (EK (pt b m))) (g2 : ∀ {T I J R}, GX T I J R m → MX11_real 3 200 [.ref 0, .int y, .int 2] T I J R (EK (pt c m))) : ML_is 9 600 [.ref 0, .int y, .int a, .int b, .int c] T I J R (EK (pt 1 m)) := by
  refine a_met (by decide +kernel) a_le (fun X hC hq => ?_)
  show AW X 0 0 0 [some (.ref 0), some (.int y), some (.int a), some (.int b), some (.int c)] [] T I J R
  refine aw_aload_n hC dL_is_0 rfl ?_
  refine aw_iload_n hC dL_is_1 rfl ?_
  refine aw_iconst (v := 0) hC dL_is_2 (by decide) ?_
  refine kL_121 hC rfl (g0 h0) dL_is_3 (GX.t0 h0) rfl a_le a_le a_le a_le a_le rfl ekx (ekp (fun T I J R h0 => ?_))
  show AW X 3 200 6 [some (.ref 0), some (.int y), some (.int a), some (.int b), some (.int c)] [.int a] T I J R
  refine aw_iload_n hC dL_is_6 rfl ?_
  refine aw_icmp_ne (tgt := 35) hC dL_is_7 (by decide) (fun z9 => absurd rfl z9) (fun _ => ?_)
  refine aw_aload_n hC dL_is_10 rfl ?_
  refine aw_iload_n hC dL_is_11 rfl ?_
  refine aw_iconst (v := 1) hC dL_is_12 (by decide) ?_
  refine kL_121 hC rfl (g1 h0) dL_is_13 (GX.t0 h0) rfl a_le a_le a_le a_le a_le rfl ekx (ekp (fun T I J R h0 => ?_))
  show AW X 6 400 16 [some (.ref 0), some (.int y), some (.int a), some (.int b), some (.int c)] [.int b] T I J R
  refine aw_iload_n hC dL_is_16 rfl ?_
  refine aw_icmp_ne (tgt := 35) hC dL_is_17 (by decide) (fun z9 => absurd rfl z9) (fun _ => ?_)
  refine aw_aload_n hC dL_is_20 rfl ?_
  refine aw_iload_n hC dL_is_21 rfl ?_
  refine aw_iconst (v := 2) hC dL_is_22 (by decide) ?_
  refine kL_121 hC rfl (g2 h0) dL_is_23 (GX.t0 h0) rfl a_le a_le a_le a_le a_le rfl ekx (ekp (fun T I J R h0 => ?_))
  show AW X 9 600 26 [some (.ref 0), some (.int y), some (.int a), some (.int b), some (.int c)] [.int c] T I J R
  refine aw_iload hC dL_is_26 rfl ?_
  refine aw_icmp_ne (tgt := 35) hC dL_is_28 (by decide) (fun z9 => absurd rfl z9) (fun _ => ?_)
  refine aw_iconst (v := 1) hC dL_is_31 (by decide) ?_
  refine aw_goto (tgt := 36) hC dL_is_32 (by decide) ?_
  exact aw_zreturn hC hq rfl (Or.inr rfl) dL_is_36 a_le a_le (EK.ret ⟨rfl, rfl⟩ h0)
set_option maxRecDepth 100000 in
theorem m_L_begins {T : List aT} {I : aI} {J : aJ} {R : aR} {m m1 m2 m3 : aI} {p x y z : Int32} (h0 : GX T I J R m) (hx : p - p / 3 * 3 = x) (hy : p + 1 - (p + 1) / 3 * 3 = y) (h1 : MX11_plan 3 200 [.ref 0, .int x] T I J R (EK (pt p m1))) (h2 : ∀ {T I J R}, GX T I J R m1 → MX11_approve 3 200 [.ref 0, .int p, .int y] T I J R (EK (pt 1 m2))) (h3 : ∀ {T I J R}, GX T I J R m2 → MX11_apply 3 200 [.ref 0, .int p] T I J R (EK (pt z m3))) : ML_begins 9 600 [.ref 0, .int p] T I J R (EK (pt z m3)) := by
  refine a_met (by decide +kernel) a_le (fun X hC hq => ?_)
  show AW X 0 0 0 [some (.ref 0), some (.int p)] [] T I J R
  refine aw_aload_n hC dL_begins_0 rfl ?_
  refine aw_iload_n hC dL_begins_1 rfl ?_
  refine aw_iconst (v := 3) hC dL_begins_2 (by decide) ?_
  refine aw_irem hC dL_begins_3 (by decide) ?_
  rw [hx]
  refine kL_79 hC rfl h1 dL_begins_4 (GX.t0 h0) rfl a_le a_le a_le a_le a_le rfl ekx (ekp (fun T I J R h0 => ?_))
  show AW X 3 200 7 [some (.ref 0), some (.int p)] [.int p] T I J R
  refine aw_iload_n hC dL_begins_7 rfl ?_
  refine aw_icmp_ne (tgt := 32) hC dL_begins_8 (by decide) (fun z9 => absurd rfl z9) (fun _ => ?_)
  refine aw_aload_n hC dL_begins_11 rfl ?_
  refine aw_iload_n hC dL_begins_12 rfl ?_
  refine aw_iload_n hC dL_begins_13 rfl ?_
  refine aw_iconst (v := 1) hC dL_begins_14 (by decide) ?_
  refine aw_iadd hC dL_begins_15 ?_
  refine aw_iconst (v := 3) hC dL_begins_16 (by decide) ?_
  refine aw_irem hC dL_begins_17 (by decide) ?_
  rw [hy]
  refine kL_98 hC rfl (h2 h0) dL_begins_18 (GX.t0 h0) rfl a_le a_le a_le a_le a_le rfl ekx (ekp (fun T I J R h0 => ?_))
  show AW X 6 400 21 [some (.ref 0), some (.int p)] [.int 1] T I J R
  refine aw_if_eq (tgt := 32) hC dL_begins_21 (by decide) (fun z9 => absurd z9 (by decide)) (fun _ => ?_)
  refine aw_aload_n hC dL_begins_24 rfl ?_
  refine aw_iload_n hC dL_begins_25 rfl ?_
  refine kL_109 hC rfl (h3 h0) dL_begins_26 (GX.t0 h0) rfl a_le a_le a_le a_le a_le rfl ekx (ekp (fun T I J R h0 => ?_))
  show AW X 9 600 29 [some (.ref 0), some (.int p)] [.int z] T I J R
  refine aw_goto (tgt := 34) hC dL_begins_29 (by decide) ?_
  exact aw_ireturn hC hq rfl dL_begins_34 a_le a_le (EK.ret ⟨rfl, rfl⟩ h0)
