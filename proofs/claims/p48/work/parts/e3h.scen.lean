/-! THE LAW: limits, 7 -/
set_option maxRecDepth 100000 in
theorem s9l_8 {X : aX} (hC : aC yL_limits cL_limits 3 (some .boolean) 11 273 1591 104320 [] X) (hX : xT0 X = []) (hq : aRet X 1591 104320 PT) {T : List aT} {I : aI} {J : aJ} {R : aR} (h0 : GX T I J R (gM g9l159)) : AW X 572 36720 333 [some (.ref 0), some (.int (-73)), some (.int 8)] [] T I J R := by
  refine aw_aload_n hC dL_limits_333 rfl ?_
  refine kL_152 hC rfl (e_isLocked (m := gM g9l159)  (w9 := 0)  h0   (by decide +kernel) ) dL_limits_334 (GX.t0 h0) rfl a_le a_le a_le a_le a_le rfl ekx (ekp (fun T I J R h0 => ?_))
  show AW X 575 36920 337 [some (.ref 0), some (.int (-73)), some (.int 8)] [.int 0] T I J R
  refine aw_if_ne (tgt := 375) hC dL_limits_337 (by decide) (fun z9 => absurd z9 (by decide)) (fun _ => ?_)
  refine aw_aload_n hC dL_limits_340 rfl ?_
  refine kL_143 hC rfl (e_serial (m := gM g9l159)  (w9 := 0)  h0   (by decide +kernel) ) dL_limits_341 (GX.t0 h0) rfl a_le a_le a_le a_le a_le rfl ekx (ekp (fun T I J R h0 => ?_))
  show AW X 578 37120 344 [some (.ref 0), some (.int (-73)), some (.int 8)] [.int 0] T I J R
  refine aw_if_ne (tgt := 375) hC dL_limits_344 (by decide) (fun z9 => absurd z9 (by decide)) (fun _ => ?_)
  refine aw_aload_n hC dL_limits_347 rfl ?_
  refine aw_bipush (v := 48) hC dL_limits_348 (by decide) ?_
  refine kL_115 hC rfl (AMet.ek (e_entry (m := gM g9l159)  (w9 := (-1)) (x := 48) h0  (by decide +kernel) (by decide +kernel) ) (by decide)) dL_limits_350 (GX.t0 h0) rfl a_le a_le a_le a_le a_le rfl ekx (ekp (fun T I J R h0 => ?_))
  show AW X 581 37320 353 [some (.ref 0), some (.int (-73)), some (.int 8)] [.int (-1)] T I J R
  refine aw_iconst (v := (-1)) hC dL_limits_353 (by decide) ?_
  refine aw_icmp_ne (tgt := 375) hC dL_limits_354 (by decide) (fun z9 => absurd z9 (by decide)) (fun _ => ?_)
  refine aw_aload_n hC dL_limits_357 rfl ?_
  refine aw_bipush (v := 30) hC dL_limits_358 (by decide) ?_
  refine aw_bipush (v := 8) hC dL_limits_360 (by decide) ?_
  refine aw_iconst (v := 4) hC dL_limits_362 (by decide) ?_
  refine aw_bipush (v := 40) hC dL_limits_363 (by decide) ?_
  refine kL_162 hC rfl (m_L_refuses h0 (n := 30) (q := 8) (g := 4) (p := 40) (by decide +kernel) (by decide +kernel) (by decide +kernel) (by decide +kernel)) dL_limits_365 rfl a_le a_le a_le a_le a_le rfl ekx (ekp (fun T I J R h0 => ?_))
  show AW X 1581 103320 368 [some (.ref 0), some (.int (-73)), some (.int 8)] [.int 1] T I J R
  refine aw_if_eq (tgt := 375) hC dL_limits_368 (by decide) (fun z9 => absurd z9 (by decide)) (fun _ => ?_)
  refine aw_iconst (v := 1) hC dL_limits_371 (by decide) ?_
  refine aw_goto (tgt := 376) hC dL_limits_372 (by decide) ?_
  exact aw_zreturn hC hq rfl (Or.inr rfl) dL_limits_376 a_le a_le rfl
theorem m_L_limits : ML_limits 1591 104320 [] [] (fun _ _ => 0) (fun _ _ => 0) (fun _ _ => none) PT := by
  refine a_met0 (by decide +kernel) a_le (fun X hX hC hq => ?_)
  show AW X 0 0 0 [none, none, none] [] [] (fun _ _ => 0) (fun _ _ => 0) (fun _ _ => none)
  refine s9l_0 hC hX (fun {T I J R} h0 => ?_)
  refine s9l_1 hC hX h0 (fun {T I J R} h0 => ?_)
  refine s9l_2 hC hX h0 (fun {T I J R} h0 => ?_)
  refine s9l_3 hC hX h0 (fun {T I J R} h0 => ?_)
  refine s9l_4 hC hX h0 (fun {T I J R} h0 => ?_)
  refine s9l_5 hC hX h0 (fun {T I J R} h0 => ?_)
  refine s9l_6 hC hX h0 (fun {T I J R} h0 => ?_)
  refine s9l_7 hC hX h0 (fun {T I J R} h0 => ?_)
  exact s9l_8 hC hX hq h0
