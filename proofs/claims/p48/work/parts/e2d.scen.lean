/-! THE LAW: plans, 3 -/
def g9p60 : Nat := (nPw (nPw g9p59 15744 32 0x1) 15872 32 0x5)
theorem c9p60 : SvM (gM g9p60) (gS p9p56) (gS s9p56) (gM m9p56) := c9p56.cg (stEqB_ok (l := g9p56) (l2 := g9p60) (by decide +kernel))
theorem t9p60 : TnL (gM m9p56) (fun _ => gS p9p56) (iN (gM g9p60) 44 0) (nI 0) := tnB_ok (by decide +kernel)
def r9p60 : Nat := 0x0
theorem n9p60 : ndB (gst (gM g9p60) (gM m9p56)) (fun _ => gS s9p56) (gRr 91 r9p60) (16 * iN (gM g9p60) 44 20) = true := by decide +kernel
theorem f9p60 : Fnd (gM g9p60) (some []) := Fnd.mk c9p60 t9p60 n9p60 (by decide +kernel)
def g9p61 : Nat := (nPw (nPw g9p60 15744 32 0x2) 15872 64 0x500000004)
theorem c9p61 : SvM (gM g9p61) (gS p9p56) (gS s9p56) (gM m9p56) := c9p56.cg (stEqB_ok (l := g9p56) (l2 := g9p61) (by decide +kernel))
theorem t9p61 : TnL (gM m9p56) (fun _ => gS p9p56) (iN (gM g9p61) 44 0) (nI 0) := tnB_ok (by decide +kernel)
def r9p61 : Nat := 0x100000000000000000000000000000000
theorem n9p61 : ndB (gst (gM g9p61) (gM m9p56)) (fun _ => gS s9p56) (gRr 91 r9p61) (16 * iN (gM g9p61) 44 20) = true := by decide +kernel
theorem f9p61 : Fnd (gM g9p61) (some [104]) := Fnd.mk c9p61 t9p61 n9p61 (by decide +kernel)
set_option maxRecDepth 100000 in
theorem s9p_7 {X : aX} (hC : aC yL_plans cL_plans 2 (some .boolean) 11 273 2642 173720 [] X) (hX : xT0 X = []) (hq : aRet X 2642 173720 PT) {T : List aT} {I : aI} {J : aJ} {R : aR} (h0 : GX T I J R (gM g9p59)) : AW X 1620 105920 1636 [some (.ref 0), some (.int (-73))] [] T I J R := by
  refine aw_aload_n hC dL_plans_1636 rfl ?_
  refine aw_iconst (v := 0) hC dL_plans_1637 (by decide) ?_
  refine aw_iconst (v := 0) hC dL_plans_1638 (by decide) ?_
  refine aw_iconst (v := 5) hC dL_plans_1639 (by decide) ?_
  refine kL_64 hC rfl (AMet.ek (e_key (m := gM g9p59) (m9 := gM g9p60) (w9 := 1) (x := 0) (y := 0) (z := 5) h0  (by decide +kernel) (by decide +kernel) (by decide +kernel) (by decide +kernel) (nrm_to (N2 := g9p60) (f_ky (by decide +kernel) (by decide +kernel)) (by decide +kernel)) (by decide +kernel)) (by decide)) dL_plans_1640 (GX.t0 h0) rfl a_le a_le a_le a_le a_le rfl ekx (ekp (fun T I J R h0 => ?_))
  show AW X 1623 106120 1643 [some (.ref 0), some (.int (-73))] [.int 1] T I J R
  refine aw_iconst (v := 1) hC dL_plans_1643 (by decide) ?_
  refine aw_icmp_ne (tgt := 1689) hC dL_plans_1644 (by decide) (fun z9 => absurd z9 (by decide)) (fun _ => ?_)
  refine aw_aload_n hC dL_plans_1647 rfl ?_
  refine kL_149 hC rfl (e_pending (m := gM g9p60) (w9 := 0) h0 f9p60 (by decide +kernel)) dL_plans_1648 (GX.t0 h0) rfl a_le a_le a_le a_le a_le rfl ekx (ekp (fun T I J R h0 => ?_))
  show AW X 1626 106320 1651 [some (.ref 0), some (.int (-73))] [.int 0] T I J R
  refine aw_if_ne (tgt := 1689) hC dL_plans_1651 (by decide) (fun z9 => absurd z9 (by decide)) (fun _ => ?_)
  refine aw_aload_n hC dL_plans_1654 rfl ?_
  refine aw_iconst (v := 0) hC dL_plans_1655 (by decide) ?_
  refine aw_iconst (v := 0) hC dL_plans_1656 (by decide) ?_
  refine aw_iconst (v := 4) hC dL_plans_1657 (by decide) ?_
  refine kL_64 hC rfl (AMet.ek (e_key (m := gM g9p60) (m9 := gM g9p61) (w9 := 2) (x := 0) (y := 0) (z := 4) h0  (by decide +kernel) (by decide +kernel) (by decide +kernel) (by decide +kernel) (nrm_to (N2 := g9p61) (f_ky (by decide +kernel) (by decide +kernel)) (by decide +kernel)) (by decide +kernel)) (by decide)) dL_plans_1658 (GX.t0 h0) rfl a_le a_le a_le a_le a_le rfl ekx (ekp (fun T I J R h0 => ?_))
  show AW X 1629 106520 1661 [some (.ref 0), some (.int (-73))] [.int 2] T I J R
  refine aw_iconst (v := 2) hC dL_plans_1661 (by decide) ?_
  refine aw_icmp_ne (tgt := 1689) hC dL_plans_1662 (by decide) (fun z9 => absurd z9 (by decide)) (fun _ => ?_)
  refine aw_aload_n hC dL_plans_1665 rfl ?_
  refine kL_149 hC rfl (e_pending (m := gM g9p61) (w9 := 1) h0 f9p61 (by decide +kernel)) dL_plans_1666 (GX.t0 h0) rfl a_le a_le a_le a_le a_le rfl ekx (ekp (fun T I J R h0 => ?_))
  show AW X 1632 106720 1669 [some (.ref 0), some (.int (-73))] [.int 1] T I J R
  refine aw_iconst (v := 1) hC dL_plans_1669 (by decide) ?_
  refine aw_icmp_ne (tgt := 1689) hC dL_plans_1670 (by decide) (fun z9 => absurd z9 (by decide)) (fun _ => ?_)
  refine aw_aload_n hC dL_plans_1673 rfl ?_
  refine aw_iconst (v := 4) hC dL_plans_1674 (by decide) ?_
  refine aw_iconst (v := 0) hC dL_plans_1675 (by decide) ?_
  refine aw_iconst (v := 1) hC dL_plans_1676 (by decide) ?_
  refine aw_bipush (v := 11) hC dL_plans_1677 (by decide) ?_
  refine kL_162 hC rfl (m_L_refuses h0 (n := 4) (q := 0) (g := 1) (p := 11) (by decide +kernel) (by decide +kernel) (by decide +kernel) (by decide +kernel)) dL_plans_1679 rfl a_le a_le a_le a_le a_le rfl ekx (ekp (fun T I J R h0 => ?_))
  show AW X 2632 172720 1682 [some (.ref 0), some (.int (-73))] [.int 1] T I J R
  refine aw_if_eq (tgt := 1689) hC dL_plans_1682 (by decide) (fun z9 => absurd z9 (by decide)) (fun _ => ?_)
  refine aw_iconst (v := 1) hC dL_plans_1685 (by decide) ?_
  refine aw_goto (tgt := 1690) hC dL_plans_1686 (by decide) ?_
  exact aw_zreturn hC hq rfl (Or.inr rfl) dL_plans_1690 a_le a_le rfl
theorem m_L_plans : ML_plans 2642 173720 [] [] (fun _ _ => 0) (fun _ _ => 0) (fun _ _ => none) PT := by
  refine a_met0 (by decide +kernel) a_le (fun X hX hC hq => ?_)
  show AW X 0 0 0 [none, none] [] [] (fun _ _ => 0) (fun _ _ => 0) (fun _ _ => none)
  refine s9p_0 hC hX (fun {T I J R} h0 => ?_)
  refine s9p_1 hC hX h0 (fun {T I J R} h0 => ?_)
  refine s9p_2 hC hX h0 (fun {T I J R} h0 => ?_)
  refine s9p_3 hC hX h0 (fun {T I J R} h0 => ?_)
  refine s9p_4 hC hX h0 (fun {T I J R} h0 => ?_)
  refine s9p_5 hC hX h0 (fun {T I J R} h0 => ?_)
  refine s9p_6 hC hX h0 (fun {T I J R} h0 => ?_)
  exact s9p_7 hC hX hq h0
