theorem GX.r25 {T : List aT} {I : aI} {J : aJ} {R : aR} {m : aI} (h : GX T I J R m) : m 44 25 = nI (iN m 44 25) := by
  obtain ⟨sq, gq, eq, pq, h9⟩ := h.g9; exact h9.ces.rs.2.1
set_option maxRecDepth 100000 in
theorem m_L_refuses {T : List aT} {I : aI} {J : aJ} {R : aR} {m : aI} (h0 : GX T I J R m) {n q g p : Nat} (hn : iN m 44 0 = n) (hq : iN m 44 14 = q) (hg : iN m 44 20 = g) (hp : iN m 44 36 = p) : ML_refuses 1000 66000 [.ref 0, .int (nI n), .int (nI q), .int (nI g), .int (nI p)] T I J R (EK (pt 1 m)) := by
  have hb0 := h0.bds
  obtain ⟨r, hr⟩ : ∃ r, iN m 44 25 = r := ⟨_, rfl⟩
  have hb : n ≤ 30 ∧ q ≤ 8 ∧ g ≤ 4 ∧ r ≤ 60 ∧ p ≤ 40 ∧ iN m 63 0 ≤ 8 ∧ iN m 79 0 ≤ 128 := by rw [hn, hq, hg, hr, hp] at hb0; exact hb0
  obtain ⟨sv, hsv⟩ : ∃ sv, m 44 35 = sv := ⟨_, rfl⟩
  obtain ⟨lv, hlv⟩ : ∃ lv, bI (decide (0 ≤ m 44 45)) = lv := ⟨_, rfl⟩
  have hr2 : m 44 25 = nI r := by rw [← hr]; exact h0.r25
  refine a_met (by decide +kernel) a_le (fun X hC hq9 => ?_)
  show AW X 0 0 0 [some (.ref 0), some (.int (nI n)), some (.int (nI q)), some (.int (nI g)), some (.int (nI p)), none, none, none, none, none, none, none, none, none, none, none, none, none, none, none, none, none, none, none] [] T I J R
  refine aw_aload_n hC dL_refuses_0 rfl ?_
  refine kL_143 hC rfl (e_serial h0 hsv) dL_refuses_1 (GX.t0 h0) rfl a_le a_le a_le a_le a_le rfl ekx (ekp (fun T I J R h0 => ?_))
  show AW X 3 200 4 [some (.ref 0), some (.int (nI n)), some (.int (nI q)), some (.int (nI g)), some (.int (nI p)), none, none, none, none, none, none, none, none, none, none, none, none, none, none, none, none, none, none, none] [.int sv] T I J R
  refine aw_istore (L2 := [some (.ref 0), some (.int (nI n)), some (.int (nI q)), some (.int (nI g)), some (.int (nI p)), some (.int sv), none, none, none, none, none, none, none, none, none, none, none, none, none, none, none, none, none, none]) hC dL_refuses_4 (by decide) rfl ?_
  refine aw_aload_n hC dL_refuses_6 rfl ?_
  refine kL_146 hC rfl (e_resources h0 hr2) dL_refuses_7 (GX.t0 h0) rfl a_le a_le a_le a_le a_le rfl ekx (ekp (fun T I J R h0 => ?_))
  show AW X 6 400 10 [some (.ref 0), some (.int (nI n)), some (.int (nI q)), some (.int (nI g)), some (.int (nI p)), some (.int sv), none, none, none, none, none, none, none, none, none, none, none, none, none, none, none, none, none, none] [.int (nI r)] T I J R
  refine aw_istore (L2 := [some (.ref 0), some (.int (nI n)), some (.int (nI q)), some (.int (nI g)), some (.int (nI p)), some (.int sv), some (.int (nI r)), none, none, none, none, none, none, none, none, none, none, none, none, none, none, none, none, none]) hC dL_refuses_10 (by decide) rfl ?_
  refine aw_aload_n hC dL_refuses_12 rfl ?_
  refine kL_149 hC rfl (c_pending h0) dL_refuses_13 (GX.t0 h0) rfl a_le a_le a_le a_le a_le rfl ekx (ekk (fun pv m2 T I J R hF h0 hp9 => ?_))
  obtain ⟨hm2, A, hA, hpv⟩ := hF
  rw [hm2] at h0
  show AW X 9 600 16 [some (.ref 0), some (.int (nI n)), some (.int (nI q)), some (.int (nI g)), some (.int (nI p)), some (.int sv), some (.int (nI r)), none, none, none, none, none, none, none, none, none, none, none, none, none, none, none, none, none] [.int pv] T I J R
  refine aw_istore (L2 := [some (.ref 0), some (.int (nI n)), some (.int (nI q)), some (.int (nI g)), some (.int (nI p)), some (.int sv), some (.int (nI r)), some (.int pv), none, none, none, none, none, none, none, none, none, none, none, none, none, none, none, none]) hC dL_refuses_16 (by decide) rfl ?_
  refine aw_aload_n hC dL_refuses_18 rfl ?_
  refine kL_152 hC rfl (e_isLocked h0 hlv) dL_refuses_19 (GX.t0 h0) rfl a_le a_le a_le a_le a_le rfl ekx (ekp (fun T I J R h0 => ?_))
  show AW X 12 800 22 [some (.ref 0), some (.int (nI n)), some (.int (nI q)), some (.int (nI g)), some (.int (nI p)), some (.int sv), some (.int (nI r)), some (.int pv), none, none, none, none, none, none, none, none, none, none, none, none, none, none, none, none] [.int lv] T I J R
  refine aw_istore (L2 := [some (.ref 0), some (.int (nI n)), some (.int (nI q)), some (.int (nI g)), some (.int (nI p)), some (.int sv), some (.int (nI r)), some (.int pv), some (.int lv), none, none, none, none, none, none, none, none, none, none, none, none, none, none, none]) hC dL_refuses_22 (by decide) rfl ?_
  refine aw_ldc (v := 2147483647) hC dL_refuses_24 gK_L_156 ?_
  refine aw_istore (L2 := [some (.ref 0), some (.int (nI n)), some (.int (nI q)), some (.int (nI g)), some (.int (nI p)), some (.int sv), some (.int (nI r)), some (.int pv), some (.int lv), some (.int 2147483647), none, none, none, none, none, none, none, none, none, none, none, none, none, none]) hC dL_refuses_26 (by decide) rfl ?_
  refine aw_iconst (v := 0) hC dL_refuses_28 (by decide) ?_
  refine aw_istore (L2 := [some (.ref 0), some (.int (nI n)), some (.int (nI q)), some (.int (nI g)), some (.int (nI p)), some (.int sv), some (.int (nI r)), some (.int pv), some (.int lv), some (.int 2147483647), some (.int 0), none, none, none, none, none, none, none, none, none, none, none, none, none]) hC dL_refuses_29 (by decide) rfl ?_
  refine rf_0 hC hn hq hg hr hp hb h0 (fun {T I J R} h0 => ?_)
  refine rf_1 hC hn hq hg hr hp hb h0 (fun {T I J R} h0 => ?_)
  refine rf_2 hC hn hq hg hr hp hb h0 (fun {T I J R} h0 => ?_)
  refine rf_3 hC hn hq hg hr hp hb h0 (fun {T I J R} h0 => ?_)
  show AW X 900 60000 31 [some (.ref 0), some (.int (nI n)), some (.int (nI q)), some (.int (nI g)), some (.int (nI p)), some (.int sv), some (.int (nI r)), some (.int pv), some (.int lv), some (.int 2147483647), some (.int 4), some (.int (-2147483648)), some (.int (-2147483648)), some (.int (-2147483648)), some (.int (-2147483648)), some (.int (-2147483648)), some (.int (-2147483648)), some (.int (-2147483648)), some (.int (-2147483648)), some (.int (-2147483648)), some (.int (-2147483648)), some (.int (-2147483648)), some (.int (-2147483648)), some (.int 1)] [] T I J R
  refine aw_iload hC dL_refuses_31 rfl ?_
  refine aw_iconst (v := 4) hC dL_refuses_33 (by decide) ?_
  refine aw_icmp_ge (tgt := 1813) hC dL_refuses_34 (by decide) (fun _ => ?_) (fun z9 => absurd z9 (by decide))
  refine aw_aload_n hC dL_refuses_1813 rfl ?_
  refine kL_143 hC rfl (e_serial h0 hsv) dL_refuses_1814 (GX.t0 h0) rfl a_le a_le a_le a_le a_le rfl ekx (ekp (fun T I J R h0 => ?_))
  show AW X 903 60200 1817 [some (.ref 0), some (.int (nI n)), some (.int (nI q)), some (.int (nI g)), some (.int (nI p)), some (.int sv), some (.int (nI r)), some (.int pv), some (.int lv), some (.int 2147483647), some (.int 4), some (.int (-2147483648)), some (.int (-2147483648)), some (.int (-2147483648)), some (.int (-2147483648)), some (.int (-2147483648)), some (.int (-2147483648)), some (.int (-2147483648)), some (.int (-2147483648)), some (.int (-2147483648)), some (.int (-2147483648)), some (.int (-2147483648)), some (.int (-2147483648)), some (.int 1)] [.int sv] T I J R
  refine aw_iload hC dL_refuses_1817 rfl ?_
  refine aw_icmp_ne (tgt := 1853) hC dL_refuses_1819 (by decide) (fun z9 => absurd rfl z9) (fun _ => ?_)
  refine aw_aload_n hC dL_refuses_1822 rfl ?_
  refine kL_146 hC rfl (e_resources h0 hr2) dL_refuses_1823 (GX.t0 h0) rfl a_le a_le a_le a_le a_le rfl ekx (ekp (fun T I J R h0 => ?_))
  show AW X 906 60400 1826 [some (.ref 0), some (.int (nI n)), some (.int (nI q)), some (.int (nI g)), some (.int (nI p)), some (.int sv), some (.int (nI r)), some (.int pv), some (.int lv), some (.int 2147483647), some (.int 4), some (.int (-2147483648)), some (.int (-2147483648)), some (.int (-2147483648)), some (.int (-2147483648)), some (.int (-2147483648)), some (.int (-2147483648)), some (.int (-2147483648)), some (.int (-2147483648)), some (.int (-2147483648)), some (.int (-2147483648)), some (.int (-2147483648)), some (.int (-2147483648)), some (.int 1)] [.int (nI r)] T I J R
  refine aw_iload hC dL_refuses_1826 rfl ?_
  refine aw_icmp_ne (tgt := 1853) hC dL_refuses_1828 (by decide) (fun z9 => absurd rfl z9) (fun _ => ?_)
  refine aw_aload_n hC dL_refuses_1831 rfl ?_
  refine kL_149 hC rfl (e_pending h0 (Fnd.of hA) hpv.symm) dL_refuses_1832 (GX.t0 h0) rfl a_le a_le a_le a_le a_le rfl ekx (ekp (fun T I J R h0 => ?_))
  show AW X 909 60600 1835 [some (.ref 0), some (.int (nI n)), some (.int (nI q)), some (.int (nI g)), some (.int (nI p)), some (.int sv), some (.int (nI r)), some (.int pv), some (.int lv), some (.int 2147483647), some (.int 4), some (.int (-2147483648)), some (.int (-2147483648)), some (.int (-2147483648)), some (.int (-2147483648)), some (.int (-2147483648)), some (.int (-2147483648)), some (.int (-2147483648)), some (.int (-2147483648)), some (.int (-2147483648)), some (.int (-2147483648)), some (.int (-2147483648)), some (.int (-2147483648)), some (.int 1)] [.int pv] T I J R
  refine aw_iload hC dL_refuses_1835 rfl ?_
  refine aw_icmp_ne (tgt := 1853) hC dL_refuses_1837 (by decide) (fun z9 => absurd rfl z9) (fun _ => ?_)
  refine aw_aload_n hC dL_refuses_1840 rfl ?_
  refine kL_152 hC rfl (e_isLocked h0 hlv) dL_refuses_1841 (GX.t0 h0) rfl a_le a_le a_le a_le a_le rfl ekx (ekp (fun T I J R h0 => ?_))
  show AW X 912 60800 1844 [some (.ref 0), some (.int (nI n)), some (.int (nI q)), some (.int (nI g)), some (.int (nI p)), some (.int sv), some (.int (nI r)), some (.int pv), some (.int lv), some (.int 2147483647), some (.int 4), some (.int (-2147483648)), some (.int (-2147483648)), some (.int (-2147483648)), some (.int (-2147483648)), some (.int (-2147483648)), some (.int (-2147483648)), some (.int (-2147483648)), some (.int (-2147483648)), some (.int (-2147483648)), some (.int (-2147483648)), some (.int (-2147483648)), some (.int (-2147483648)), some (.int 1)] [.int lv] T I J R
  refine aw_iload hC dL_refuses_1844 rfl ?_
  refine aw_icmp_ne (tgt := 1853) hC dL_refuses_1846 (by decide) (fun z9 => absurd rfl z9) (fun _ => ?_)
  refine aw_iconst (v := 1) hC dL_refuses_1849 (by decide) ?_
  refine aw_goto (tgt := 1854) hC dL_refuses_1850 (by decide) ?_
  exact aw_zreturn hC hq9 rfl (Or.inr rfl) dL_refuses_1854 a_le a_le (EK.ret ⟨rfl, rfl⟩ h0)
