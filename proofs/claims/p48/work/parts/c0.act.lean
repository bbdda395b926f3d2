/-! THE LAW'S HELPERS -/
theorem xc_c {E : String} (h : E = exI ∨ E = exA ∨ E = exS) : (E = exI ∧ xc E = -71) ∨ (E = exA ∧ xc E = -72) ∨ (E = exS ∧ xc E = -73) := by
  rcases h with rfl | rfl | rfl
  · exact Or.inl ⟨rfl, xc_I⟩
  · exact Or.inr (Or.inl ⟨rfl, xc_A⟩)
  · exact Or.inr (Or.inr ⟨rfl, xc_S⟩)
/-- an exception of a callee of 'act' becomes its number -/
theorem act_ae {X : aX} {F : Int32 → aI → Prop} {cells slots pc : Nat} {L : List (Option Value)} {E : String} {T : List aT} {I : aI} {J : aJ} {R : aR} {m2 : aI} (hC : aC yL_act cL_act 8 (some .int) 9 203 3 200 [(0, 345, 346, 85), (0, 345, 351, 87), (0, 345, 356, 89)] X) (hq : aRet X 3 200 (EK F)) (h1 : covers ⟨0, 345, 346, 85⟩ pc = true) (h2 : covers ⟨0, 345, 351, 87⟩ pc = true) (h3 : covers ⟨0, 345, 356, 89⟩ pc = true) (hc : cells ≤ 3) (hs : slots ≤ 200) (hE : E = exI ∨ E = exA ∨ E = exS) (hF : F (xc E) m2) (hG : GX T I J R m2) : AE X cells slots pc L E T I J R := by
  rcases xc_c hE with ⟨rfl, e⟩ | ⟨rfl, e⟩ | ⟨rfl, e⟩
  · rw [e] at hF
    refine ae_catch hC [] ⟨0, 345, 346, 85⟩ [⟨0, 345, 351, 87⟩, ⟨0, 345, 356, 89⟩] rfl (by simp) (fun z hz => nomatch hz) h1 (by decide) gW_L_85 (i := 7) (len := 2) (Or.inl ⟨dL_act_346, rfl⟩) (by decide) rfl ?_
    refine aw_bipush (v := (-71)) hC dL_act_348 (by decide) ?_
    exact aw_ireturn hC hq rfl dL_act_350 hc hs (EK.ret hF hG)
  · rw [e] at hF
    refine ae_catch hC [⟨0, 345, 346, 85⟩] ⟨0, 345, 351, 87⟩ [⟨0, 345, 356, 89⟩] rfl (by simp) (fun z hz => by simp only [List.mem_cons, List.not_mem_nil, or_false] at hz; rcases hz with rfl; exact Or.inr ⟨by decide, exI, by simp, by decide, gW_L_85⟩) h2 (by decide) gW_L_87 (i := 7) (len := 2) (Or.inl ⟨dL_act_351, rfl⟩) (by decide) rfl ?_
    refine aw_bipush (v := (-72)) hC dL_act_353 (by decide) ?_
    exact aw_ireturn hC hq rfl dL_act_355 hc hs (EK.ret hF hG)
  · rw [e] at hF
    refine ae_catch hC [⟨0, 345, 346, 85⟩, ⟨0, 345, 351, 87⟩] ⟨0, 345, 356, 89⟩ [] rfl (by simp) (fun z hz => by simp only [List.mem_cons, List.not_mem_nil, or_false] at hz; rcases hz with rfl | rfl; exact Or.inr ⟨by decide, exI, by simp, by decide, gW_L_85⟩; exact Or.inr ⟨by decide, exA, by simp, by decide, gW_L_87⟩) h3 (by decide) gW_L_89 (i := 7) (len := 2) (Or.inl ⟨dL_act_356, rfl⟩) (by decide) rfl ?_
    refine aw_bipush (v := (-73)) hC dL_act_358 (by decide) ?_
    exact aw_ireturn hC hq rfl dL_act_360 hc hs (EK.ret hF hG)
set_option maxRecDepth 100000 in
theorem m_L_types {T : List aT} {I : aI} {J : aJ} {R : aR} {F : Int32 → aI → Prop} {t a b c : Int32} {m0 : aI} (h0 : GX T I J R m0) (hM : MX11_setType 3 200 [.ref 0, .int t, .int a, .int b, .int c, .int 0, .int 0] T I J R (EV F)) : ML_types 3 200 [.ref 0, .int t, .int a, .int b, .int c] T I J R (EX F) := by
  refine a_met (by decide +kernel) a_le (fun X hC hq => ?_)
  show AW X 0 0 0 [some (.ref 0), some (.int t), some (.int a), some (.int b), some (.int c)] [] T I J R
  refine aw_aload_n hC dL_types_0 rfl ?_
  refine aw_iload_n hC dL_types_1 rfl ?_
  refine aw_iload_n hC dL_types_2 rfl ?_
  refine aw_iload_n hC dL_types_3 rfl ?_
  refine aw_iload hC dL_types_4 rfl ?_
  refine aw_iconst (v := 0) hC dL_types_6 (by decide) ?_
  refine aw_iconst (v := 0) hC dL_types_7 (by decide) ?_
  refine kL_91 hC rfl hM dL_types_8 (GX.t0 h0) rfl a_le a_le a_le a_le a_le rfl (evx (fun E m2 T I J R hE hF hG => ae_out hC hq a_le a_le (EX.thr hE hF hG))) (evk (fun m2 T I J R hF hG => ?_))
  show AW X 3 200 11 [some (.ref 0), some (.int t), some (.int a), some (.int b), some (.int c)] [] T I J R
  refine aw_iconst (v := 0) hC dL_types_11 (by decide) ?_
  exact aw_ireturn hC hq rfl dL_types_12 a_le a_le (EX.ret hF hG)
set_option maxRecDepth 100000 in
theorem m_L_more_22 {T : List aT} {I : aI} {J : aJ} {R : aR} {F : Int32 → aI → Prop} {a b c : Int32} {m0 : aI} (h0 : GX T I J R m0) (hM : MX11_action 3 200 [.ref 0, .int a, .int b] T I J R (EX F)) : ML_more 3 200 [.ref 0, .int 22, .int a, .int b, .int c] T I J R (EX F) := by
  refine a_met (by decide +kernel) a_le (fun X hC hq => ?_)
  show AW X 0 0 0 [some (.ref 0), some (.int 22), some (.int a), some (.int b), some (.int c)] [] T I J R
  refine aw_iload_n hC dL_more_0 rfl ?_
  refine aw_bipush (v := 22) hC dL_more_1 (by decide) ?_
  refine aw_icmp_ne (tgt := 15) hC dL_more_3 (by decide) (fun z9 => absurd z9 (by decide)) (fun _ => ?_)
  refine aw_aload_n hC dL_more_6 rfl ?_
  refine aw_iload_n hC dL_more_7 rfl ?_
  refine aw_iload_n hC dL_more_8 rfl ?_
  refine kL_95 hC rfl hM dL_more_9 (GX.t0 h0) rfl a_le a_le a_le a_le a_le rfl (exx (fun E m2 T I J R hE hF hG => ae_out hC hq a_le a_le (EX.thr hE hF hG))) (exk (fun w m2 T I J R hF hG => ?_))
  show AW X 3 200 12 [some (.ref 0), some (.int 22), some (.int a), some (.int b), some (.int c)] [.int w] T I J R
  refine aw_goto (tgt := 241) hC dL_more_12 (by decide) ?_
  exact aw_ireturn hC hq rfl dL_more_241 a_le a_le (EX.ret hF hG)
set_option maxRecDepth 100000 in
theorem m_L_more_23 {T : List aT} {I : aI} {J : aJ} {R : aR} {F : Int32 → aI → Prop} {a b c : Int32} {m0 : aI} (h0 : GX T I J R m0) (hM : MX11_approve 3 200 [.ref 0, .int a, .int b] T I J R (EB F)) : ML_more 3 200 [.ref 0, .int 23, .int a, .int b, .int c] T I J R (EX F) := by
  refine a_met (by decide +kernel) a_le (fun X hC hq => ?_)
  show AW X 0 0 0 [some (.ref 0), some (.int 23), some (.int a), some (.int b), some (.int c)] [] T I J R
  refine aw_iload_n hC dL_more_0 rfl ?_
  refine aw_bipush (v := 22) hC dL_more_1 (by decide) ?_
  refine aw_icmp_ne (tgt := 15) hC dL_more_3 (by decide) (fun _ => ?_) (fun z9 => absurd z9 (by decide))
  refine aw_iload_n hC dL_more_15 rfl ?_
  refine aw_bipush (v := 23) hC dL_more_16 (by decide) ?_
  refine aw_icmp_ne (tgt := 38) hC dL_more_18 (by decide) (fun z9 => absurd z9 (by decide)) (fun _ => ?_)
  refine aw_aload_n hC dL_more_21 rfl ?_
  refine aw_iload_n hC dL_more_22 rfl ?_
  refine aw_iload_n hC dL_more_23 rfl ?_
  refine kL_98 hC rfl hM dL_more_24 (GX.t0 h0) rfl a_le a_le a_le a_le a_le rfl (ebx (fun E m2 T I J R hE hF hG => ae_out hC hq a_le a_le (EX.thr hE hF hG))) (ebk (fun w m2 T I J R hF hG hb => ?_))
  show AW X 3 200 27 [some (.ref 0), some (.int 23), some (.int a), some (.int b), some (.int c)] [.int w] T I J R
  rcases hb with rfl | rfl
  · refine aw_if_eq (tgt := 34) hC dL_more_27 (by decide) (fun _ => ?_) (fun z9 => absurd rfl z9)
    refine aw_iconst (v := 0) hC dL_more_34 (by decide) ?_
    refine aw_goto (tgt := 241) hC dL_more_35 (by decide) ?_
    exact aw_ireturn hC hq rfl dL_more_241 a_le a_le (EX.ret hF hG)
  · refine aw_if_eq (tgt := 34) hC dL_more_27 (by decide) (fun z9 => absurd z9 (by decide)) (fun _ => ?_)
    refine aw_iconst (v := 1) hC dL_more_30 (by decide) ?_
    refine aw_goto (tgt := 241) hC dL_more_31 (by decide) ?_
    exact aw_ireturn hC hq rfl dL_more_241 a_le a_le (EX.ret hF hG)
set_option maxRecDepth 100000 in
theorem m_L_more_24 {T : List aT} {I : aI} {J : aJ} {R : aR} {F : Int32 → aI → Prop} {a b c : Int32} {m0 : aI} (h0 : GX T I J R m0) (hM : MX11_isStale 3 200 [.ref 0, .int a] T I J R (EB F)) : ML_more 3 200 [.ref 0, .int 24, .int a, .int b, .int c] T I J R (EX F) := by
  refine a_met (by decide +kernel) a_le (fun X hC hq => ?_)
  show AW X 0 0 0 [some (.ref 0), some (.int 24), some (.int a), some (.int b), some (.int c)] [] T I J R
  refine aw_iload_n hC dL_more_0 rfl ?_
  refine aw_bipush (v := 22) hC dL_more_1 (by decide) ?_
  refine aw_icmp_ne (tgt := 15) hC dL_more_3 (by decide) (fun _ => ?_) (fun z9 => absurd z9 (by decide))
  refine aw_iload_n hC dL_more_15 rfl ?_
  refine aw_bipush (v := 23) hC dL_more_16 (by decide) ?_
  refine aw_icmp_ne (tgt := 38) hC dL_more_18 (by decide) (fun _ => ?_) (fun z9 => absurd z9 (by decide))
  refine aw_iload_n hC dL_more_38 rfl ?_
  refine aw_bipush (v := 24) hC dL_more_39 (by decide) ?_
  refine aw_icmp_ne (tgt := 60) hC dL_more_41 (by decide) (fun z9 => absurd z9 (by decide)) (fun _ => ?_)
  refine aw_aload_n hC dL_more_44 rfl ?_
  refine aw_iload_n hC dL_more_45 rfl ?_
  refine kL_102 hC rfl hM dL_more_46 (GX.t0 h0) rfl a_le a_le a_le a_le a_le rfl (ebx (fun E m2 T I J R hE hF hG => ae_out hC hq a_le a_le (EX.thr hE hF hG))) (ebk (fun w m2 T I J R hF hG hb => ?_))
  show AW X 3 200 49 [some (.ref 0), some (.int 24), some (.int a), some (.int b), some (.int c)] [.int w] T I J R
  rcases hb with rfl | rfl
  · refine aw_if_eq (tgt := 56) hC dL_more_49 (by decide) (fun _ => ?_) (fun z9 => absurd rfl z9)
    refine aw_iconst (v := 0) hC dL_more_56 (by decide) ?_
    refine aw_goto (tgt := 241) hC dL_more_57 (by decide) ?_
    exact aw_ireturn hC hq rfl dL_more_241 a_le a_le (EX.ret hF hG)
  · refine aw_if_eq (tgt := 56) hC dL_more_49 (by decide) (fun z9 => absurd z9 (by decide)) (fun _ => ?_)
    refine aw_iconst (v := 1) hC dL_more_52 (by decide) ?_
    refine aw_goto (tgt := 241) hC dL_more_53 (by decide) ?_
    exact aw_ireturn hC hq rfl dL_more_241 a_le a_le (EX.ret hF hG)
set_option maxRecDepth 100000 in
theorem m_L_more_25 {T : List aT} {I : aI} {J : aJ} {R : aR} {F : Int32 → aI → Prop} {a b c : Int32} {m0 : aI} (h0 : GX T I J R m0) (hM : MX11_rebase 3 200 [.ref 0, .int a] T I J R (EB F)) : ML_more 3 200 [.ref 0, .int 25, .int a, .int b, .int c] T I J R (EX F) := by
  refine a_met (by decide +kernel) a_le (fun X hC hq => ?_)
  show AW X 0 0 0 [some (.ref 0), some (.int 25), some (.int a), some (.int b), some (.int c)] [] T I J R
  refine aw_iload_n hC dL_more_0 rfl ?_
  refine aw_bipush (v := 22) hC dL_more_1 (by decide) ?_
  refine aw_icmp_ne (tgt := 15) hC dL_more_3 (by decide) (fun _ => ?_) (fun z9 => absurd z9 (by decide))
  refine aw_iload_n hC dL_more_15 rfl ?_
  refine aw_bipush (v := 23) hC dL_more_16 (by decide) ?_
  refine aw_icmp_ne (tgt := 38) hC dL_more_18 (by decide) (fun _ => ?_) (fun z9 => absurd z9 (by decide))
  refine aw_iload_n hC dL_more_38 rfl ?_
  refine aw_bipush (v := 24) hC dL_more_39 (by decide) ?_
  refine aw_icmp_ne (tgt := 60) hC dL_more_41 (by decide) (fun _ => ?_) (fun z9 => absurd z9 (by decide))
  refine aw_iload_n hC dL_more_60 rfl ?_
  refine aw_bipush (v := 25) hC dL_more_61 (by decide) ?_
  refine aw_icmp_ne (tgt := 82) hC dL_more_63 (by decide) (fun z9 => absurd z9 (by decide)) (fun _ => ?_)
  refine aw_aload_n hC dL_more_66 rfl ?_
  refine aw_iload_n hC dL_more_67 rfl ?_
  refine kL_106 hC rfl hM dL_more_68 (GX.t0 h0) rfl a_le a_le a_le a_le a_le rfl (ebx (fun E m2 T I J R hE hF hG => ae_out hC hq a_le a_le (EX.thr hE hF hG))) (ebk (fun w m2 T I J R hF hG hb => ?_))
  show AW X 3 200 71 [some (.ref 0), some (.int 25), some (.int a), some (.int b), some (.int c)] [.int w] T I J R
  rcases hb with rfl | rfl
  · refine aw_if_eq (tgt := 78) hC dL_more_71 (by decide) (fun _ => ?_) (fun z9 => absurd rfl z9)
    refine aw_iconst (v := 0) hC dL_more_78 (by decide) ?_
    refine aw_goto (tgt := 241) hC dL_more_79 (by decide) ?_
    exact aw_ireturn hC hq rfl dL_more_241 a_le a_le (EX.ret hF hG)
  · refine aw_if_eq (tgt := 78) hC dL_more_71 (by decide) (fun z9 => absurd z9 (by decide)) (fun _ => ?_)
    refine aw_iconst (v := 1) hC dL_more_74 (by decide) ?_
    refine aw_goto (tgt := 241) hC dL_more_75 (by decide) ?_
    exact aw_ireturn hC hq rfl dL_more_241 a_le a_le (EX.ret hF hG)
set_option maxRecDepth 100000 in
theorem m_L_more_26 {T : List aT} {I : aI} {J : aJ} {R : aR} {F : Int32 → aI → Prop} {a b c : Int32} {m0 : aI} (h0 : GX T I J R m0) (hM : MX11_apply 3 200 [.ref 0, .int a] T I J R (EX F)) : ML_more 3 200 [.ref 0, .int 26, .int a, .int b, .int c] T I J R (EX F) := by
  refine a_met (by decide +kernel) a_le (fun X hC hq => ?_)
  show AW X 0 0 0 [some (.ref 0), some (.int 26), some (.int a), some (.int b), some (.int c)] [] T I J R
  refine aw_iload_n hC dL_more_0 rfl ?_
  refine aw_bipush (v := 22) hC dL_more_1 (by decide) ?_
  refine aw_icmp_ne (tgt := 15) hC dL_more_3 (by decide) (fun _ => ?_) (fun z9 => absurd z9 (by decide))
  refine aw_iload_n hC dL_more_15 rfl ?_
  refine aw_bipush (v := 23) hC dL_more_16 (by decide) ?_
  refine aw_icmp_ne (tgt := 38) hC dL_more_18 (by decide) (fun _ => ?_) (fun z9 => absurd z9 (by decide))
  refine aw_iload_n hC dL_more_38 rfl ?_
  refine aw_bipush (v := 24) hC dL_more_39 (by decide) ?_
  refine aw_icmp_ne (tgt := 60) hC dL_more_41 (by decide) (fun _ => ?_) (fun z9 => absurd z9 (by decide))
  refine aw_iload_n hC dL_more_60 rfl ?_
  refine aw_bipush (v := 25) hC dL_more_61 (by decide) ?_
  refine aw_icmp_ne (tgt := 82) hC dL_more_63 (by decide) (fun _ => ?_) (fun z9 => absurd z9 (by decide))
  refine aw_iload_n hC dL_more_82 rfl ?_
  refine aw_bipush (v := 26) hC dL_more_83 (by decide) ?_
  refine aw_icmp_ne (tgt := 96) hC dL_more_85 (by decide) (fun z9 => absurd z9 (by decide)) (fun _ => ?_)
  refine aw_aload_n hC dL_more_88 rfl ?_
  refine aw_iload_n hC dL_more_89 rfl ?_
  refine kL_109 hC rfl hM dL_more_90 (GX.t0 h0) rfl a_le a_le a_le a_le a_le rfl (exx (fun E m2 T I J R hE hF hG => ae_out hC hq a_le a_le (EX.thr hE hF hG))) (exk (fun w m2 T I J R hF hG => ?_))
  show AW X 3 200 93 [some (.ref 0), some (.int 26), some (.int a), some (.int b), some (.int c)] [.int w] T I J R
  refine aw_goto (tgt := 241) hC dL_more_93 (by decide) ?_
  exact aw_ireturn hC hq rfl dL_more_241 a_le a_le (EX.ret hF hG)
set_option maxRecDepth 100000 in
theorem m_L_more_27 {T : List aT} {I : aI} {J : aJ} {R : aR} {F : Int32 → aI → Prop} {a b c : Int32} {m0 : aI} (h0 : GX T I J R m0) (hM : MX11_step 3 200 [.ref 0, .int a] T I J R (EX F)) : ML_more 3 200 [.ref 0, .int 27, .int a, .int b, .int c] T I J R (EX F) := by
  refine a_met (by decide +kernel) a_le (fun X hC hq => ?_)
  show AW X 0 0 0 [some (.ref 0), some (.int 27), some (.int a), some (.int b), some (.int c)] [] T I J R
  refine aw_iload_n hC dL_more_0 rfl ?_
  refine aw_bipush (v := 22) hC dL_more_1 (by decide) ?_
  refine aw_icmp_ne (tgt := 15) hC dL_more_3 (by decide) (fun _ => ?_) (fun z9 => absurd z9 (by decide))
  refine aw_iload_n hC dL_more_15 rfl ?_
  refine aw_bipush (v := 23) hC dL_more_16 (by decide) ?_
  refine aw_icmp_ne (tgt := 38) hC dL_more_18 (by decide) (fun _ => ?_) (fun z9 => absurd z9 (by decide))
  refine aw_iload_n hC dL_more_38 rfl ?_
  refine aw_bipush (v := 24) hC dL_more_39 (by decide) ?_
  refine aw_icmp_ne (tgt := 60) hC dL_more_41 (by decide) (fun _ => ?_) (fun z9 => absurd z9 (by decide))
  refine aw_iload_n hC dL_more_60 rfl ?_
  refine aw_bipush (v := 25) hC dL_more_61 (by decide) ?_
  refine aw_icmp_ne (tgt := 82) hC dL_more_63 (by decide) (fun _ => ?_) (fun z9 => absurd z9 (by decide))
  refine aw_iload_n hC dL_more_82 rfl ?_
  refine aw_bipush (v := 26) hC dL_more_83 (by decide) ?_
  refine aw_icmp_ne (tgt := 96) hC dL_more_85 (by decide) (fun _ => ?_) (fun z9 => absurd z9 (by decide))
  refine aw_iload_n hC dL_more_96 rfl ?_
  refine aw_bipush (v := 27) hC dL_more_97 (by decide) ?_
  refine aw_icmp_ne (tgt := 110) hC dL_more_99 (by decide) (fun z9 => absurd z9 (by decide)) (fun _ => ?_)
  refine aw_aload_n hC dL_more_102 rfl ?_
  refine aw_iload_n hC dL_more_103 rfl ?_
  refine kL_112 hC rfl hM dL_more_104 (GX.t0 h0) rfl a_le a_le a_le a_le a_le rfl (exx (fun E m2 T I J R hE hF hG => ae_out hC hq a_le a_le (EX.thr hE hF hG))) (exk (fun w m2 T I J R hF hG => ?_))
  show AW X 3 200 107 [some (.ref 0), some (.int 27), some (.int a), some (.int b), some (.int c)] [.int w] T I J R
  refine aw_goto (tgt := 241) hC dL_more_107 (by decide) ?_
  exact aw_ireturn hC hq rfl dL_more_241 a_le a_le (EX.ret hF hG)
set_option maxRecDepth 100000 in
theorem m_L_more_28 {T : List aT} {I : aI} {J : aJ} {R : aR} {F : Int32 → aI → Prop} {a b c : Int32} {m0 : aI} (h0 : GX T I J R m0) (hM : MX11_entry 3 200 [.ref 0, .int a] T I J R (EX F)) : ML_more 3 200 [.ref 0, .int 28, .int a, .int b, .int c] T I J R (EX F) := by
  refine a_met (by decide +kernel) a_le (fun X hC hq => ?_)
  show AW X 0 0 0 [some (.ref 0), some (.int 28), some (.int a), some (.int b), some (.int c)] [] T I J R
  refine aw_iload_n hC dL_more_0 rfl ?_
  refine aw_bipush (v := 22) hC dL_more_1 (by decide) ?_
  refine aw_icmp_ne (tgt := 15) hC dL_more_3 (by decide) (fun _ => ?_) (fun z9 => absurd z9 (by decide))
  refine aw_iload_n hC dL_more_15 rfl ?_
  refine aw_bipush (v := 23) hC dL_more_16 (by decide) ?_
  refine aw_icmp_ne (tgt := 38) hC dL_more_18 (by decide) (fun _ => ?_) (fun z9 => absurd z9 (by decide))
  refine aw_iload_n hC dL_more_38 rfl ?_
  refine aw_bipush (v := 24) hC dL_more_39 (by decide) ?_
  refine aw_icmp_ne (tgt := 60) hC dL_more_41 (by decide) (fun _ => ?_) (fun z9 => absurd z9 (by decide))
  refine aw_iload_n hC dL_more_60 rfl ?_
  refine aw_bipush (v := 25) hC dL_more_61 (by decide) ?_
  refine aw_icmp_ne (tgt := 82) hC dL_more_63 (by decide) (fun _ => ?_) (fun z9 => absurd z9 (by decide))
  refine aw_iload_n hC dL_more_82 rfl ?_
  refine aw_bipush (v := 26) hC dL_more_83 (by decide) ?_
  refine aw_icmp_ne (tgt := 96) hC dL_more_85 (by decide) (fun _ => ?_) (fun z9 => absurd z9 (by decide))
  refine aw_iload_n hC dL_more_96 rfl ?_
  refine aw_bipush (v := 27) hC dL_more_97 (by decide) ?_
  refine aw_icmp_ne (tgt := 110) hC dL_more_99 (by decide) (fun _ => ?_) (fun z9 => absurd z9 (by decide))
  refine aw_iload_n hC dL_more_110 rfl ?_
  refine aw_bipush (v := 28) hC dL_more_111 (by decide) ?_
  refine aw_icmp_ne (tgt := 124) hC dL_more_113 (by decide) (fun z9 => absurd z9 (by decide)) (fun _ => ?_)
  refine aw_aload_n hC dL_more_116 rfl ?_
  refine aw_iload_n hC dL_more_117 rfl ?_
  refine kL_115 hC rfl hM dL_more_118 (GX.t0 h0) rfl a_le a_le a_le a_le a_le rfl (exx (fun E m2 T I J R hE hF hG => ae_out hC hq a_le a_le (EX.thr hE hF hG))) (exk (fun w m2 T I J R hF hG => ?_))
  show AW X 3 200 121 [some (.ref 0), some (.int 28), some (.int a), some (.int b), some (.int c)] [.int w] T I J R
  refine aw_goto (tgt := 241) hC dL_more_121 (by decide) ?_
  exact aw_ireturn hC hq rfl dL_more_241 a_le a_le (EX.ret hF hG)
set_option maxRecDepth 100000 in
theorem m_L_more_29 {T : List aT} {I : aI} {J : aJ} {R : aR} {F : Int32 → aI → Prop} {a b c : Int32} {m0 : aI} (h0 : GX T I J R m0) (hM : MX11_stored 3 200 [.ref 0, .int a, .int b] T I J R (EX F)) : ML_more 3 200 [.ref 0, .int 29, .int a, .int b, .int c] T I J R (EX F) := by
  refine a_met (by decide +kernel) a_le (fun X hC hq => ?_)
  show AW X 0 0 0 [some (.ref 0), some (.int 29), some (.int a), some (.int b), some (.int c)] [] T I J R
  refine aw_iload_n hC dL_more_0 rfl ?_
  refine aw_bipush (v := 22) hC dL_more_1 (by decide) ?_
  refine aw_icmp_ne (tgt := 15) hC dL_more_3 (by decide) (fun _ => ?_) (fun z9 => absurd z9 (by decide))
  refine aw_iload_n hC dL_more_15 rfl ?_
  refine aw_bipush (v := 23) hC dL_more_16 (by decide) ?_
  refine aw_icmp_ne (tgt := 38) hC dL_more_18 (by decide) (fun _ => ?_) (fun z9 => absurd z9 (by decide))
  refine aw_iload_n hC dL_more_38 rfl ?_
  refine aw_bipush (v := 24) hC dL_more_39 (by decide) ?_
  refine aw_icmp_ne (tgt := 60) hC dL_more_41 (by decide) (fun _ => ?_) (fun z9 => absurd z9 (by decide))
  refine aw_iload_n hC dL_more_60 rfl ?_
  refine aw_bipush (v := 25) hC dL_more_61 (by decide) ?_
  refine aw_icmp_ne (tgt := 82) hC dL_more_63 (by decide) (fun _ => ?_) (fun z9 => absurd z9 (by decide))
  refine aw_iload_n hC dL_more_82 rfl ?_
  refine aw_bipush (v := 26) hC dL_more_83 (by decide) ?_
  refine aw_icmp_ne (tgt := 96) hC dL_more_85 (by decide) (fun _ => ?_) (fun z9 => absurd z9 (by decide))
  refine aw_iload_n hC dL_more_96 rfl ?_
  refine aw_bipush (v := 27) hC dL_more_97 (by decide) ?_
  refine aw_icmp_ne (tgt := 110) hC dL_more_99 (by decide) (fun _ => ?_) (fun z9 => absurd z9 (by decide))
  refine aw_iload_n hC dL_more_110 rfl ?_
  refine aw_bipush (v := 28) hC dL_more_111 (by decide) ?_
  refine aw_icmp_ne (tgt := 124) hC dL_more_113 (by decide) (fun _ => ?_) (fun z9 => absurd z9 (by decide))
  refine aw_iload_n hC dL_more_124 rfl ?_
  refine aw_bipush (v := 29) hC dL_more_125 (by decide) ?_
  refine aw_icmp_ne (tgt := 139) hC dL_more_127 (by decide) (fun z9 => absurd z9 (by decide)) (fun _ => ?_)
  refine aw_aload_n hC dL_more_130 rfl ?_
  refine aw_iload_n hC dL_more_131 rfl ?_
  refine aw_iload_n hC dL_more_132 rfl ?_
  refine kL_118 hC rfl hM dL_more_133 (GX.t0 h0) rfl a_le a_le a_le a_le a_le rfl (exx (fun E m2 T I J R hE hF hG => ae_out hC hq a_le a_le (EX.thr hE hF hG))) (exk (fun w m2 T I J R hF hG => ?_))
  show AW X 3 200 136 [some (.ref 0), some (.int 29), some (.int a), some (.int b), some (.int c)] [.int w] T I J R
  refine aw_goto (tgt := 241) hC dL_more_136 (by decide) ?_
  exact aw_ireturn hC hq rfl dL_more_241 a_le a_le (EX.ret hF hG)
set_option maxRecDepth 100000 in
theorem m_L_more_30 {T : List aT} {I : aI} {J : aJ} {R : aR} {F : Int32 → aI → Prop} {a b c : Int32} {m0 : aI} (h0 : GX T I J R m0) (hM : MX11_real 3 200 [.ref 0, .int a, .int b] T I J R (EX F)) : ML_more 3 200 [.ref 0, .int 30, .int a, .int b, .int c] T I J R (EX F) := by
  refine a_met (by decide +kernel) a_le (fun X hC hq => ?_)
  show AW X 0 0 0 [some (.ref 0), some (.int 30), some (.int a), some (.int b), some (.int c)] [] T I J R
  refine aw_iload_n hC dL_more_0 rfl ?_
  refine aw_bipush (v := 22) hC dL_more_1 (by decide) ?_
  refine aw_icmp_ne (tgt := 15) hC dL_more_3 (by decide) (fun _ => ?_) (fun z9 => absurd z9 (by decide))
  refine aw_iload_n hC dL_more_15 rfl ?_
  refine aw_bipush (v := 23) hC dL_more_16 (by decide) ?_
  refine aw_icmp_ne (tgt := 38) hC dL_more_18 (by decide) (fun _ => ?_) (fun z9 => absurd z9 (by decide))
  refine aw_iload_n hC dL_more_38 rfl ?_
  refine aw_bipush (v := 24) hC dL_more_39 (by decide) ?_
  refine aw_icmp_ne (tgt := 60) hC dL_more_41 (by decide) (fun _ => ?_) (fun z9 => absurd z9 (by decide))
  refine aw_iload_n hC dL_more_60 rfl ?_
  refine aw_bipush (v := 25) hC dL_more_61 (by decide) ?_
  refine aw_icmp_ne (tgt := 82) hC dL_more_63 (by decide) (fun _ => ?_) (fun z9 => absurd z9 (by decide))
  refine aw_iload_n hC dL_more_82 rfl ?_
  refine aw_bipush (v := 26) hC dL_more_83 (by decide) ?_
  refine aw_icmp_ne (tgt := 96) hC dL_more_85 (by decide) (fun _ => ?_) (fun z9 => absurd z9 (by decide))
  refine aw_iload_n hC dL_more_96 rfl ?_
  refine aw_bipush (v := 27) hC dL_more_97 (by decide) ?_
  refine aw_icmp_ne (tgt := 110) hC dL_more_99 (by decide) (fun _ => ?_) (fun z9 => absurd z9 (by decide))
  refine aw_iload_n hC dL_more_110 rfl ?_
  refine aw_bipush (v := 28) hC dL_more_111 (by decide) ?_
  refine aw_icmp_ne (tgt := 124) hC dL_more_113 (by decide) (fun _ => ?_) (fun z9 => absurd z9 (by decide))
  refine aw_iload_n hC dL_more_124 rfl ?_
  refine aw_bipush (v := 29) hC dL_more_125 (by decide) ?_
  refine aw_icmp_ne (tgt := 139) hC dL_more_127 (by decide) (fun _ => ?_) (fun z9 => absurd z9 (by decide))
  refine aw_iload_n hC dL_more_139 rfl ?_
  refine aw_bipush (v := 30) hC dL_more_140 (by decide) ?_
  refine aw_icmp_ne (tgt := 154) hC dL_more_142 (by decide) (fun z9 => absurd z9 (by decide)) (fun _ => ?_)
  refine aw_aload_n hC dL_more_145 rfl ?_
  refine aw_iload_n hC dL_more_146 rfl ?_
  refine aw_iload_n hC dL_more_147 rfl ?_
  refine kL_121 hC rfl hM dL_more_148 (GX.t0 h0) rfl a_le a_le a_le a_le a_le rfl (exx (fun E m2 T I J R hE hF hG => ae_out hC hq a_le a_le (EX.thr hE hF hG))) (exk (fun w m2 T I J R hF hG => ?_))
  show AW X 3 200 151 [some (.ref 0), some (.int 30), some (.int a), some (.int b), some (.int c)] [.int w] T I J R
  refine aw_goto (tgt := 241) hC dL_more_151 (by decide) ?_
  exact aw_ireturn hC hq rfl dL_more_241 a_le a_le (EX.ret hF hG)
set_option maxRecDepth 100000 in
theorem m_L_more_31 {T : List aT} {I : aI} {J : aJ} {R : aR} {F : Int32 → aI → Prop} {a b c : Int32} {m0 : aI} (h0 : GX T I J R m0) (hM : MX11_change 3 200 [.ref 0, .int a, .int b, .int c] T I J R (EX F)) : ML_more 3 200 [.ref 0, .int 31, .int a, .int b, .int c] T I J R (EX F) := by
  refine a_met (by decide +kernel) a_le (fun X hC hq => ?_)
  show AW X 0 0 0 [some (.ref 0), some (.int 31), some (.int a), some (.int b), some (.int c)] [] T I J R
  refine aw_iload_n hC dL_more_0 rfl ?_
  refine aw_bipush (v := 22) hC dL_more_1 (by decide) ?_
  refine aw_icmp_ne (tgt := 15) hC dL_more_3 (by decide) (fun _ => ?_) (fun z9 => absurd z9 (by decide))
  refine aw_iload_n hC dL_more_15 rfl ?_
  refine aw_bipush (v := 23) hC dL_more_16 (by decide) ?_
  refine aw_icmp_ne (tgt := 38) hC dL_more_18 (by decide) (fun _ => ?_) (fun z9 => absurd z9 (by decide))
  refine aw_iload_n hC dL_more_38 rfl ?_
  refine aw_bipush (v := 24) hC dL_more_39 (by decide) ?_
  refine aw_icmp_ne (tgt := 60) hC dL_more_41 (by decide) (fun _ => ?_) (fun z9 => absurd z9 (by decide))
  refine aw_iload_n hC dL_more_60 rfl ?_
  refine aw_bipush (v := 25) hC dL_more_61 (by decide) ?_
  refine aw_icmp_ne (tgt := 82) hC dL_more_63 (by decide) (fun _ => ?_) (fun z9 => absurd z9 (by decide))
  refine aw_iload_n hC dL_more_82 rfl ?_
  refine aw_bipush (v := 26) hC dL_more_83 (by decide) ?_
  refine aw_icmp_ne (tgt := 96) hC dL_more_85 (by decide) (fun _ => ?_) (fun z9 => absurd z9 (by decide))
  refine aw_iload_n hC dL_more_96 rfl ?_
  refine aw_bipush (v := 27) hC dL_more_97 (by decide) ?_
  refine aw_icmp_ne (tgt := 110) hC dL_more_99 (by decide) (fun _ => ?_) (fun z9 => absurd z9 (by decide))
  refine aw_iload_n hC dL_more_110 rfl ?_
  refine aw_bipush (v := 28) hC dL_more_111 (by decide) ?_
  refine aw_icmp_ne (tgt := 124) hC dL_more_113 (by decide) (fun _ => ?_) (fun z9 => absurd z9 (by decide))
  refine aw_iload_n hC dL_more_124 rfl ?_
  refine aw_bipush (v := 29) hC dL_more_125 (by decide) ?_
  refine aw_icmp_ne (tgt := 139) hC dL_more_127 (by decide) (fun _ => ?_) (fun z9 => absurd z9 (by decide))
  refine aw_iload_n hC dL_more_139 rfl ?_
  refine aw_bipush (v := 30) hC dL_more_140 (by decide) ?_
  refine aw_icmp_ne (tgt := 154) hC dL_more_142 (by decide) (fun _ => ?_) (fun z9 => absurd z9 (by decide))
  refine aw_iload_n hC dL_more_154 rfl ?_
  refine aw_bipush (v := 31) hC dL_more_155 (by decide) ?_
  refine aw_icmp_ne (tgt := 171) hC dL_more_157 (by decide) (fun z9 => absurd z9 (by decide)) (fun _ => ?_)
  refine aw_aload_n hC dL_more_160 rfl ?_
  refine aw_iload_n hC dL_more_161 rfl ?_
  refine aw_iload_n hC dL_more_162 rfl ?_
  refine aw_iload hC dL_more_163 rfl ?_
  refine kL_124 hC rfl hM dL_more_165 (GX.t0 h0) rfl a_le a_le a_le a_le a_le rfl (exx (fun E m2 T I J R hE hF hG => ae_out hC hq a_le a_le (EX.thr hE hF hG))) (exk (fun w m2 T I J R hF hG => ?_))
  show AW X 3 200 168 [some (.ref 0), some (.int 31), some (.int a), some (.int b), some (.int c)] [.int w] T I J R
  refine aw_goto (tgt := 241) hC dL_more_168 (by decide) ?_
  exact aw_ireturn hC hq rfl dL_more_241 a_le a_le (EX.ret hF hG)
set_option maxRecDepth 100000 in
theorem m_L_more_32 {T : List aT} {I : aI} {J : aJ} {R : aR} {F : Int32 → aI → Prop} {a b c : Int32} {m0 : aI} (h0 : GX T I J R m0) (hM : MX11_destroy 3 200 [.ref 0, .int a] T I J R (EB F)) : ML_more 3 200 [.ref 0, .int 32, .int a, .int b, .int c] T I J R (EX F) := by
  refine a_met (by decide +kernel) a_le (fun X hC hq => ?_)
  show AW X 0 0 0 [some (.ref 0), some (.int 32), some (.int a), some (.int b), some (.int c)] [] T I J R
  refine aw_iload_n hC dL_more_0 rfl ?_
  refine aw_bipush (v := 22) hC dL_more_1 (by decide) ?_
  refine aw_icmp_ne (tgt := 15) hC dL_more_3 (by decide) (fun _ => ?_) (fun z9 => absurd z9 (by decide))
  refine aw_iload_n hC dL_more_15 rfl ?_
  refine aw_bipush (v := 23) hC dL_more_16 (by decide) ?_
  refine aw_icmp_ne (tgt := 38) hC dL_more_18 (by decide) (fun _ => ?_) (fun z9 => absurd z9 (by decide))
  refine aw_iload_n hC dL_more_38 rfl ?_
  refine aw_bipush (v := 24) hC dL_more_39 (by decide) ?_
  refine aw_icmp_ne (tgt := 60) hC dL_more_41 (by decide) (fun _ => ?_) (fun z9 => absurd z9 (by decide))
  refine aw_iload_n hC dL_more_60 rfl ?_
  refine aw_bipush (v := 25) hC dL_more_61 (by decide) ?_
  refine aw_icmp_ne (tgt := 82) hC dL_more_63 (by decide) (fun _ => ?_) (fun z9 => absurd z9 (by decide))
  refine aw_iload_n hC dL_more_82 rfl ?_
  refine aw_bipush (v := 26) hC dL_more_83 (by decide) ?_
  refine aw_icmp_ne (tgt := 96) hC dL_more_85 (by decide) (fun _ => ?_) (fun z9 => absurd z9 (by decide))
  refine aw_iload_n hC dL_more_96 rfl ?_
  refine aw_bipush (v := 27) hC dL_more_97 (by decide) ?_
  refine aw_icmp_ne (tgt := 110) hC dL_more_99 (by decide) (fun _ => ?_) (fun z9 => absurd z9 (by decide))
  refine aw_iload_n hC dL_more_110 rfl ?_
  refine aw_bipush (v := 28) hC dL_more_111 (by decide) ?_
  refine aw_icmp_ne (tgt := 124) hC dL_more_113 (by decide) (fun _ => ?_) (fun z9 => absurd z9 (by decide))
  refine aw_iload_n hC dL_more_124 rfl ?_
  refine aw_bipush (v := 29) hC dL_more_125 (by decide) ?_
  refine aw_icmp_ne (tgt := 139) hC dL_more_127 (by decide) (fun _ => ?_) (fun z9 => absurd z9 (by decide))
  refine aw_iload_n hC dL_more_139 rfl ?_
  refine aw_bipush (v := 30) hC dL_more_140 (by decide) ?_
  refine aw_icmp_ne (tgt := 154) hC dL_more_142 (by decide) (fun _ => ?_) (fun z9 => absurd z9 (by decide))
  refine aw_iload_n hC dL_more_154 rfl ?_
  refine aw_bipush (v := 31) hC dL_more_155 (by decide) ?_
  refine aw_icmp_ne (tgt := 171) hC dL_more_157 (by decide) (fun _ => ?_) (fun z9 => absurd z9 (by decide))
  refine aw_iload_n hC dL_more_171 rfl ?_
  refine aw_bipush (v := 32) hC dL_more_172 (by decide) ?_
  refine aw_icmp_ne (tgt := 193) hC dL_more_174 (by decide) (fun z9 => absurd z9 (by decide)) (fun _ => ?_)
  refine aw_aload_n hC dL_more_177 rfl ?_
  refine aw_iload_n hC dL_more_178 rfl ?_
  refine kL_127 hC rfl hM dL_more_179 (GX.t0 h0) rfl a_le a_le a_le a_le a_le rfl (ebx (fun E m2 T I J R hE hF hG => ae_out hC hq a_le a_le (EX.thr hE hF hG))) (ebk (fun w m2 T I J R hF hG hb => ?_))
  show AW X 3 200 182 [some (.ref 0), some (.int 32), some (.int a), some (.int b), some (.int c)] [.int w] T I J R
  rcases hb with rfl | rfl
  · refine aw_if_eq (tgt := 189) hC dL_more_182 (by decide) (fun _ => ?_) (fun z9 => absurd rfl z9)
    refine aw_iconst (v := 0) hC dL_more_189 (by decide) ?_
    refine aw_goto (tgt := 241) hC dL_more_190 (by decide) ?_
    exact aw_ireturn hC hq rfl dL_more_241 a_le a_le (EX.ret hF hG)
  · refine aw_if_eq (tgt := 189) hC dL_more_182 (by decide) (fun z9 => absurd z9 (by decide)) (fun _ => ?_)
    refine aw_iconst (v := 1) hC dL_more_185 (by decide) ?_
    refine aw_goto (tgt := 241) hC dL_more_186 (by decide) ?_
    exact aw_ireturn hC hq rfl dL_more_241 a_le a_le (EX.ret hF hG)
set_option maxRecDepth 100000 in
theorem m_L_more_33 {T : List aT} {I : aI} {J : aJ} {R : aR} {F : Int32 → aI → Prop} {a b c : Int32} {m0 : aI} (h0 : GX T I J R m0) (hM : MX11_make 3 200 [.ref 0, .int a] T I J R (EX F)) : ML_more 3 200 [.ref 0, .int 33, .int a, .int b, .int c] T I J R (EX F) := by
  refine a_met (by decide +kernel) a_le (fun X hC hq => ?_)
  show AW X 0 0 0 [some (.ref 0), some (.int 33), some (.int a), some (.int b), some (.int c)] [] T I J R
  refine aw_iload_n hC dL_more_0 rfl ?_
  refine aw_bipush (v := 22) hC dL_more_1 (by decide) ?_
  refine aw_icmp_ne (tgt := 15) hC dL_more_3 (by decide) (fun _ => ?_) (fun z9 => absurd z9 (by decide))
  refine aw_iload_n hC dL_more_15 rfl ?_
  refine aw_bipush (v := 23) hC dL_more_16 (by decide) ?_
  refine aw_icmp_ne (tgt := 38) hC dL_more_18 (by decide) (fun _ => ?_) (fun z9 => absurd z9 (by decide))
  refine aw_iload_n hC dL_more_38 rfl ?_
  refine aw_bipush (v := 24) hC dL_more_39 (by decide) ?_
  refine aw_icmp_ne (tgt := 60) hC dL_more_41 (by decide) (fun _ => ?_) (fun z9 => absurd z9 (by decide))
  refine aw_iload_n hC dL_more_60 rfl ?_
  refine aw_bipush (v := 25) hC dL_more_61 (by decide) ?_
  refine aw_icmp_ne (tgt := 82) hC dL_more_63 (by decide) (fun _ => ?_) (fun z9 => absurd z9 (by decide))
  refine aw_iload_n hC dL_more_82 rfl ?_
  refine aw_bipush (v := 26) hC dL_more_83 (by decide) ?_
  refine aw_icmp_ne (tgt := 96) hC dL_more_85 (by decide) (fun _ => ?_) (fun z9 => absurd z9 (by decide))
  refine aw_iload_n hC dL_more_96 rfl ?_
  refine aw_bipush (v := 27) hC dL_more_97 (by decide) ?_
  refine aw_icmp_ne (tgt := 110) hC dL_more_99 (by decide) (fun _ => ?_) (fun z9 => absurd z9 (by decide))
  refine aw_iload_n hC dL_more_110 rfl ?_
  refine aw_bipush (v := 28) hC dL_more_111 (by decide) ?_
  refine aw_icmp_ne (tgt := 124) hC dL_more_113 (by decide) (fun _ => ?_) (fun z9 => absurd z9 (by decide))
  refine aw_iload_n hC dL_more_124 rfl ?_
  refine aw_bipush (v := 29) hC dL_more_125 (by decide) ?_
  refine aw_icmp_ne (tgt := 139) hC dL_more_127 (by decide) (fun _ => ?_) (fun z9 => absurd z9 (by decide))
  refine aw_iload_n hC dL_more_139 rfl ?_
  refine aw_bipush (v := 30) hC dL_more_140 (by decide) ?_
  refine aw_icmp_ne (tgt := 154) hC dL_more_142 (by decide) (fun _ => ?_) (fun z9 => absurd z9 (by decide))
  refine aw_iload_n hC dL_more_154 rfl ?_
  refine aw_bipush (v := 31) hC dL_more_155 (by decide) ?_
  refine aw_icmp_ne (tgt := 171) hC dL_more_157 (by decide) (fun _ => ?_) (fun z9 => absurd z9 (by decide))
  refine aw_iload_n hC dL_more_171 rfl ?_
  refine aw_bipush (v := 32) hC dL_more_172 (by decide) ?_
  refine aw_icmp_ne (tgt := 193) hC dL_more_174 (by decide) (fun _ => ?_) (fun z9 => absurd z9 (by decide))
  refine aw_iload_n hC dL_more_193 rfl ?_
  refine aw_bipush (v := 33) hC dL_more_194 (by decide) ?_
  refine aw_icmp_ne (tgt := 207) hC dL_more_196 (by decide) (fun z9 => absurd z9 (by decide)) (fun _ => ?_)
  refine aw_aload_n hC dL_more_199 rfl ?_
  refine aw_iload_n hC dL_more_200 rfl ?_
  refine kL_130 hC rfl hM dL_more_201 (GX.t0 h0) rfl a_le a_le a_le a_le a_le rfl (exx (fun E m2 T I J R hE hF hG => ae_out hC hq a_le a_le (EX.thr hE hF hG))) (exk (fun w m2 T I J R hF hG => ?_))
  show AW X 3 200 204 [some (.ref 0), some (.int 33), some (.int a), some (.int b), some (.int c)] [.int w] T I J R
  refine aw_goto (tgt := 241) hC dL_more_204 (by decide) ?_
  exact aw_ireturn hC hq rfl dL_more_241 a_le a_le (EX.ret hF hG)
set_option maxRecDepth 100000 in
theorem m_L_more_34 {T : List aT} {I : aI} {J : aJ} {R : aR} {F : Int32 → aI → Prop} {a b c : Int32} {m0 : aI} (h0 : GX T I J R m0) (hM : MX11_read 3 200 [.ref 0] T I J R (EX F)) : ML_more 3 200 [.ref 0, .int 34, .int a, .int b, .int c] T I J R (EX F) := by
  refine a_met (by decide +kernel) a_le (fun X hC hq => ?_)
  show AW X 0 0 0 [some (.ref 0), some (.int 34), some (.int a), some (.int b), some (.int c)] [] T I J R
  refine aw_iload_n hC dL_more_0 rfl ?_
  refine aw_bipush (v := 22) hC dL_more_1 (by decide) ?_
  refine aw_icmp_ne (tgt := 15) hC dL_more_3 (by decide) (fun _ => ?_) (fun z9 => absurd z9 (by decide))
  refine aw_iload_n hC dL_more_15 rfl ?_
  refine aw_bipush (v := 23) hC dL_more_16 (by decide) ?_
  refine aw_icmp_ne (tgt := 38) hC dL_more_18 (by decide) (fun _ => ?_) (fun z9 => absurd z9 (by decide))
  refine aw_iload_n hC dL_more_38 rfl ?_
  refine aw_bipush (v := 24) hC dL_more_39 (by decide) ?_
  refine aw_icmp_ne (tgt := 60) hC dL_more_41 (by decide) (fun _ => ?_) (fun z9 => absurd z9 (by decide))
  refine aw_iload_n hC dL_more_60 rfl ?_
  refine aw_bipush (v := 25) hC dL_more_61 (by decide) ?_
  refine aw_icmp_ne (tgt := 82) hC dL_more_63 (by decide) (fun _ => ?_) (fun z9 => absurd z9 (by decide))
  refine aw_iload_n hC dL_more_82 rfl ?_
  refine aw_bipush (v := 26) hC dL_more_83 (by decide) ?_
  refine aw_icmp_ne (tgt := 96) hC dL_more_85 (by decide) (fun _ => ?_) (fun z9 => absurd z9 (by decide))
  refine aw_iload_n hC dL_more_96 rfl ?_
  refine aw_bipush (v := 27) hC dL_more_97 (by decide) ?_
  refine aw_icmp_ne (tgt := 110) hC dL_more_99 (by decide) (fun _ => ?_) (fun z9 => absurd z9 (by decide))
  refine aw_iload_n hC dL_more_110 rfl ?_
  refine aw_bipush (v := 28) hC dL_more_111 (by decide) ?_
  refine aw_icmp_ne (tgt := 124) hC dL_more_113 (by decide) (fun _ => ?_) (fun z9 => absurd z9 (by decide))
  refine aw_iload_n hC dL_more_124 rfl ?_
  refine aw_bipush (v := 29) hC dL_more_125 (by decide) ?_
  refine aw_icmp_ne (tgt := 139) hC dL_more_127 (by decide) (fun _ => ?_) (fun z9 => absurd z9 (by decide))
  refine aw_iload_n hC dL_more_139 rfl ?_
  refine aw_bipush (v := 30) hC dL_more_140 (by decide) ?_
  refine aw_icmp_ne (tgt := 154) hC dL_more_142 (by decide) (fun _ => ?_) (fun z9 => absurd z9 (by decide))
  refine aw_iload_n hC dL_more_154 rfl ?_
  refine aw_bipush (v := 31) hC dL_more_155 (by decide) ?_
  refine aw_icmp_ne (tgt := 171) hC dL_more_157 (by decide) (fun _ => ?_) (fun z9 => absurd z9 (by decide))
  refine aw_iload_n hC dL_more_171 rfl ?_
  refine aw_bipush (v := 32) hC dL_more_172 (by decide) ?_
  refine aw_icmp_ne (tgt := 193) hC dL_more_174 (by decide) (fun _ => ?_) (fun z9 => absurd z9 (by decide))
  refine aw_iload_n hC dL_more_193 rfl ?_
  refine aw_bipush (v := 33) hC dL_more_194 (by decide) ?_
  refine aw_icmp_ne (tgt := 207) hC dL_more_196 (by decide) (fun _ => ?_) (fun z9 => absurd z9 (by decide))
  refine aw_iload_n hC dL_more_207 rfl ?_
  refine aw_bipush (v := 34) hC dL_more_208 (by decide) ?_
  refine aw_icmp_ne (tgt := 220) hC dL_more_210 (by decide) (fun z9 => absurd z9 (by decide)) (fun _ => ?_)
  refine aw_aload_n hC dL_more_213 rfl ?_
  refine kL_133 hC rfl hM dL_more_214 (GX.t0 h0) rfl a_le a_le a_le a_le a_le rfl (exx (fun E m2 T I J R hE hF hG => ae_out hC hq a_le a_le (EX.thr hE hF hG))) (exk (fun w m2 T I J R hF hG => ?_))
  show AW X 3 200 217 [some (.ref 0), some (.int 34), some (.int a), some (.int b), some (.int c)] [.int w] T I J R
  refine aw_goto (tgt := 241) hC dL_more_217 (by decide) ?_
  exact aw_ireturn hC hq rfl dL_more_241 a_le a_le (EX.ret hF hG)
set_option maxRecDepth 100000 in
theorem m_L_more_35 {T : List aT} {I : aI} {J : aJ} {R : aR} {F : Int32 → aI → Prop} {a b c : Int32} {m0 : aI} (h0 : GX T I J R m0) (hM : MX11_move 3 200 [.ref 0, .int a, .int b] T I J R (EX F)) : ML_more 3 200 [.ref 0, .int 35, .int a, .int b, .int c] T I J R (EX F) := by
  refine a_met (by decide +kernel) a_le (fun X hC hq => ?_)
  show AW X 0 0 0 [some (.ref 0), some (.int 35), some (.int a), some (.int b), some (.int c)] [] T I J R
  refine aw_iload_n hC dL_more_0 rfl ?_
  refine aw_bipush (v := 22) hC dL_more_1 (by decide) ?_
  refine aw_icmp_ne (tgt := 15) hC dL_more_3 (by decide) (fun _ => ?_) (fun z9 => absurd z9 (by decide))
  refine aw_iload_n hC dL_more_15 rfl ?_
  refine aw_bipush (v := 23) hC dL_more_16 (by decide) ?_
  refine aw_icmp_ne (tgt := 38) hC dL_more_18 (by decide) (fun _ => ?_) (fun z9 => absurd z9 (by decide))
  refine aw_iload_n hC dL_more_38 rfl ?_
  refine aw_bipush (v := 24) hC dL_more_39 (by decide) ?_
  refine aw_icmp_ne (tgt := 60) hC dL_more_41 (by decide) (fun _ => ?_) (fun z9 => absurd z9 (by decide))
  refine aw_iload_n hC dL_more_60 rfl ?_
  refine aw_bipush (v := 25) hC dL_more_61 (by decide) ?_
  refine aw_icmp_ne (tgt := 82) hC dL_more_63 (by decide) (fun _ => ?_) (fun z9 => absurd z9 (by decide))
  refine aw_iload_n hC dL_more_82 rfl ?_
  refine aw_bipush (v := 26) hC dL_more_83 (by decide) ?_
  refine aw_icmp_ne (tgt := 96) hC dL_more_85 (by decide) (fun _ => ?_) (fun z9 => absurd z9 (by decide))
  refine aw_iload_n hC dL_more_96 rfl ?_
  refine aw_bipush (v := 27) hC dL_more_97 (by decide) ?_
  refine aw_icmp_ne (tgt := 110) hC dL_more_99 (by decide) (fun _ => ?_) (fun z9 => absurd z9 (by decide))
  refine aw_iload_n hC dL_more_110 rfl ?_
  refine aw_bipush (v := 28) hC dL_more_111 (by decide) ?_
  refine aw_icmp_ne (tgt := 124) hC dL_more_113 (by decide) (fun _ => ?_) (fun z9 => absurd z9 (by decide))
  refine aw_iload_n hC dL_more_124 rfl ?_
  refine aw_bipush (v := 29) hC dL_more_125 (by decide) ?_
  refine aw_icmp_ne (tgt := 139) hC dL_more_127 (by decide) (fun _ => ?_) (fun z9 => absurd z9 (by decide))
  refine aw_iload_n hC dL_more_139 rfl ?_
  refine aw_bipush (v := 30) hC dL_more_140 (by decide) ?_
  refine aw_icmp_ne (tgt := 154) hC dL_more_142 (by decide) (fun _ => ?_) (fun z9 => absurd z9 (by decide))
  refine aw_iload_n hC dL_more_154 rfl ?_
  refine aw_bipush (v := 31) hC dL_more_155 (by decide) ?_
  refine aw_icmp_ne (tgt := 171) hC dL_more_157 (by decide) (fun _ => ?_) (fun z9 => absurd z9 (by decide))
  refine aw_iload_n hC dL_more_171 rfl ?_
  refine aw_bipush (v := 32) hC dL_more_172 (by decide) ?_
  refine aw_icmp_ne (tgt := 193) hC dL_more_174 (by decide) (fun _ => ?_) (fun z9 => absurd z9 (by decide))
  refine aw_iload_n hC dL_more_193 rfl ?_
  refine aw_bipush (v := 33) hC dL_more_194 (by decide) ?_
  refine aw_icmp_ne (tgt := 207) hC dL_more_196 (by decide) (fun _ => ?_) (fun z9 => absurd z9 (by decide))
  refine aw_iload_n hC dL_more_207 rfl ?_
  refine aw_bipush (v := 34) hC dL_more_208 (by decide) ?_
  refine aw_icmp_ne (tgt := 220) hC dL_more_210 (by decide) (fun _ => ?_) (fun z9 => absurd z9 (by decide))
  refine aw_iload_n hC dL_more_220 rfl ?_
  refine aw_bipush (v := 35) hC dL_more_221 (by decide) ?_
  refine aw_icmp_ne (tgt := 235) hC dL_more_223 (by decide) (fun z9 => absurd z9 (by decide)) (fun _ => ?_)
  refine aw_aload_n hC dL_more_226 rfl ?_
  refine aw_iload_n hC dL_more_227 rfl ?_
  refine aw_iload_n hC dL_more_228 rfl ?_
  refine kL_137 hC rfl hM dL_more_229 (GX.t0 h0) rfl a_le a_le a_le a_le a_le rfl (exx (fun E m2 T I J R hE hF hG => ae_out hC hq a_le a_le (EX.thr hE hF hG))) (exk (fun w m2 T I J R hF hG => ?_))
  show AW X 3 200 232 [some (.ref 0), some (.int 35), some (.int a), some (.int b), some (.int c)] [.int w] T I J R
  refine aw_goto (tgt := 241) hC dL_more_232 (by decide) ?_
  exact aw_ireturn hC hq rfl dL_more_241 a_le a_le (EX.ret hF hG)
set_option maxRecDepth 100000 in
theorem m_L_more_36 {T : List aT} {I : aI} {J : aJ} {R : aR} {F : Int32 → aI → Prop} {a b c : Int32} {m0 : aI} (h0 : GX T I J R m0) (hM : MX11_take 3 200 [.ref 0, .int a, .int b] T I J R (EX F)) : ML_more 3 200 [.ref 0, .int 36, .int a, .int b, .int c] T I J R (EX F) := by
  refine a_met (by decide +kernel) a_le (fun X hC hq => ?_)
  show AW X 0 0 0 [some (.ref 0), some (.int 36), some (.int a), some (.int b), some (.int c)] [] T I J R
  refine aw_iload_n hC dL_more_0 rfl ?_
  refine aw_bipush (v := 22) hC dL_more_1 (by decide) ?_
  refine aw_icmp_ne (tgt := 15) hC dL_more_3 (by decide) (fun _ => ?_) (fun z9 => absurd z9 (by decide))
  refine aw_iload_n hC dL_more_15 rfl ?_
  refine aw_bipush (v := 23) hC dL_more_16 (by decide) ?_
  refine aw_icmp_ne (tgt := 38) hC dL_more_18 (by decide) (fun _ => ?_) (fun z9 => absurd z9 (by decide))
  refine aw_iload_n hC dL_more_38 rfl ?_
  refine aw_bipush (v := 24) hC dL_more_39 (by decide) ?_
  refine aw_icmp_ne (tgt := 60) hC dL_more_41 (by decide) (fun _ => ?_) (fun z9 => absurd z9 (by decide))
  refine aw_iload_n hC dL_more_60 rfl ?_
  refine aw_bipush (v := 25) hC dL_more_61 (by decide) ?_
  refine aw_icmp_ne (tgt := 82) hC dL_more_63 (by decide) (fun _ => ?_) (fun z9 => absurd z9 (by decide))
  refine aw_iload_n hC dL_more_82 rfl ?_
  refine aw_bipush (v := 26) hC dL_more_83 (by decide) ?_
  refine aw_icmp_ne (tgt := 96) hC dL_more_85 (by decide) (fun _ => ?_) (fun z9 => absurd z9 (by decide))
  refine aw_iload_n hC dL_more_96 rfl ?_
  refine aw_bipush (v := 27) hC dL_more_97 (by decide) ?_
  refine aw_icmp_ne (tgt := 110) hC dL_more_99 (by decide) (fun _ => ?_) (fun z9 => absurd z9 (by decide))
  refine aw_iload_n hC dL_more_110 rfl ?_
  refine aw_bipush (v := 28) hC dL_more_111 (by decide) ?_
  refine aw_icmp_ne (tgt := 124) hC dL_more_113 (by decide) (fun _ => ?_) (fun z9 => absurd z9 (by decide))
  refine aw_iload_n hC dL_more_124 rfl ?_
  refine aw_bipush (v := 29) hC dL_more_125 (by decide) ?_
  refine aw_icmp_ne (tgt := 139) hC dL_more_127 (by decide) (fun _ => ?_) (fun z9 => absurd z9 (by decide))
  refine aw_iload_n hC dL_more_139 rfl ?_
  refine aw_bipush (v := 30) hC dL_more_140 (by decide) ?_
  refine aw_icmp_ne (tgt := 154) hC dL_more_142 (by decide) (fun _ => ?_) (fun z9 => absurd z9 (by decide))
  refine aw_iload_n hC dL_more_154 rfl ?_
  refine aw_bipush (v := 31) hC dL_more_155 (by decide) ?_
  refine aw_icmp_ne (tgt := 171) hC dL_more_157 (by decide) (fun _ => ?_) (fun z9 => absurd z9 (by decide))
  refine aw_iload_n hC dL_more_171 rfl ?_
  refine aw_bipush (v := 32) hC dL_more_172 (by decide) ?_
  refine aw_icmp_ne (tgt := 193) hC dL_more_174 (by decide) (fun _ => ?_) (fun z9 => absurd z9 (by decide))
  refine aw_iload_n hC dL_more_193 rfl ?_
  refine aw_bipush (v := 33) hC dL_more_194 (by decide) ?_
  refine aw_icmp_ne (tgt := 207) hC dL_more_196 (by decide) (fun _ => ?_) (fun z9 => absurd z9 (by decide))
  refine aw_iload_n hC dL_more_207 rfl ?_
  refine aw_bipush (v := 34) hC dL_more_208 (by decide) ?_
  refine aw_icmp_ne (tgt := 220) hC dL_more_210 (by decide) (fun _ => ?_) (fun z9 => absurd z9 (by decide))
  refine aw_iload_n hC dL_more_220 rfl ?_
  refine aw_bipush (v := 35) hC dL_more_221 (by decide) ?_
  refine aw_icmp_ne (tgt := 235) hC dL_more_223 (by decide) (fun _ => ?_) (fun z9 => absurd z9 (by decide))
  refine aw_aload_n hC dL_more_235 rfl ?_
  refine aw_iload_n hC dL_more_236 rfl ?_
  refine aw_iload_n hC dL_more_237 rfl ?_
  refine kL_140 hC rfl hM dL_more_238 (GX.t0 h0) rfl a_le a_le a_le a_le a_le rfl (exx (fun E m2 T I J R hE hF hG => ae_out hC hq a_le a_le (EX.thr hE hF hG))) (exk (fun w m2 T I J R hF hG => ?_))
  show AW X 3 200 241 [some (.ref 0), some (.int 36), some (.int a), some (.int b), some (.int c)] [.int w] T I J R
  exact aw_ireturn hC hq rfl dL_more_241 a_le a_le (EX.ret hF hG)
set_option maxRecDepth 100000 in
theorem m_L_act_0 {T : List aT} {I : aI} {J : aJ} {R : aR} {F : Int32 → aI → Prop} {a b c d e : Int32} {m0 : aI} (h0 : GX T I J R m0) (hM : MX11_tell 3 200 [.ref 0, .int a, .int b, .int c, .int d, .int e] T I J R (EX F)) : ML_act 3 200 [.ref 0, .int 0, .int a, .int b, .int c, .int d, .int e] T I J R (EK F) := by
  refine a_metW (by decide +kernel) a_le (fun X hC hq => ?_)
  show AW X 0 0 0 [some (.ref 0), some (.int 0), some (.int a), some (.int b), some (.int c), some (.int d), some (.int e), none] [] T I J R
  refine aw_iload_n hC dL_act_0 rfl ?_
  refine aw_if_ne (tgt := 19) hC dL_act_1 (by decide) (fun z9 => absurd z9 (by decide)) (fun _ => ?_)
  refine aw_aload_n hC dL_act_4 rfl ?_
  refine aw_iload_n hC dL_act_5 rfl ?_
  refine aw_iload_n hC dL_act_6 rfl ?_
  refine aw_iload hC dL_act_7 rfl ?_
  refine aw_iload hC dL_act_9 rfl ?_
  refine aw_iload hC dL_act_11 rfl ?_
  refine kL_7 hC rfl hM dL_act_13 (GX.t0 h0) rfl a_le a_le a_le a_le a_le rfl (exx (fun E m2 T I J R hE hF hG => act_ae hC hq (by decide) (by decide) (by decide) a_le a_le hE hF hG)) (exk (fun w m2 T I J R hF hG => ?_))
  show AW X 3 200 16 [some (.ref 0), some (.int 0), some (.int a), some (.int b), some (.int c), some (.int d), some (.int e), none] [.int w] T I J R
  refine aw_goto (tgt := 345) hC dL_act_16 (by decide) ?_
  exact aw_ireturn hC hq rfl dL_act_345 a_le a_le (EK.ret hF hG)
set_option maxRecDepth 100000 in
theorem m_L_act_1 {T : List aT} {I : aI} {J : aJ} {R : aR} {F : Int32 → aI → Prop} {a b c d e : Int32} {m0 : aI} (h0 : GX T I J R m0) (hM : MX11_draft 3 200 [.ref 0, .int a, .int b, .int c, .int d, .int e] T I J R (EX F)) : ML_act 3 200 [.ref 0, .int 1, .int a, .int b, .int c, .int d, .int e] T I J R (EK F) := by
  refine a_metW (by decide +kernel) a_le (fun X hC hq => ?_)
  show AW X 0 0 0 [some (.ref 0), some (.int 1), some (.int a), some (.int b), some (.int c), some (.int d), some (.int e), none] [] T I J R
  refine aw_iload_n hC dL_act_0 rfl ?_
  refine aw_if_ne (tgt := 19) hC dL_act_1 (by decide) (fun _ => ?_) (fun z9 => absurd z9 (by decide))
  refine aw_iload_n hC dL_act_19 rfl ?_
  refine aw_iconst (v := 1) hC dL_act_20 (by decide) ?_
  refine aw_icmp_ne (tgt := 39) hC dL_act_21 (by decide) (fun z9 => absurd z9 (by decide)) (fun _ => ?_)
  refine aw_aload_n hC dL_act_24 rfl ?_
  refine aw_iload_n hC dL_act_25 rfl ?_
  refine aw_iload_n hC dL_act_26 rfl ?_
  refine aw_iload hC dL_act_27 rfl ?_
  refine aw_iload hC dL_act_29 rfl ?_
  refine aw_iload hC dL_act_31 rfl ?_
  refine kL_13 hC rfl hM dL_act_33 (GX.t0 h0) rfl a_le a_le a_le a_le a_le rfl (exx (fun E m2 T I J R hE hF hG => act_ae hC hq (by decide) (by decide) (by decide) a_le a_le hE hF hG)) (exk (fun w m2 T I J R hF hG => ?_))
  show AW X 3 200 36 [some (.ref 0), some (.int 1), some (.int a), some (.int b), some (.int c), some (.int d), some (.int e), none] [.int w] T I J R
  refine aw_goto (tgt := 345) hC dL_act_36 (by decide) ?_
  exact aw_ireturn hC hq rfl dL_act_345 a_le a_le (EK.ret hF hG)
set_option maxRecDepth 100000 in
theorem m_L_act_2 {T : List aT} {I : aI} {J : aJ} {R : aR} {F : Int32 → aI → Prop} {a b c d e : Int32} {m0 : aI} (h0 : GX T I J R m0) (hM : MX11_publish 3 200 [.ref 0, .int a] T I J R (EX F)) : ML_act 3 200 [.ref 0, .int 2, .int a, .int b, .int c, .int d, .int e] T I J R (EK F) := by
  refine a_metW (by decide +kernel) a_le (fun X hC hq => ?_)
  show AW X 0 0 0 [some (.ref 0), some (.int 2), some (.int a), some (.int b), some (.int c), some (.int d), some (.int e), none] [] T I J R
  refine aw_iload_n hC dL_act_0 rfl ?_
  refine aw_if_ne (tgt := 19) hC dL_act_1 (by decide) (fun _ => ?_) (fun z9 => absurd z9 (by decide))
  refine aw_iload_n hC dL_act_19 rfl ?_
  refine aw_iconst (v := 1) hC dL_act_20 (by decide) ?_
  refine aw_icmp_ne (tgt := 39) hC dL_act_21 (by decide) (fun _ => ?_) (fun z9 => absurd z9 (by decide))
  refine aw_iload_n hC dL_act_39 rfl ?_
  refine aw_iconst (v := 2) hC dL_act_40 (by decide) ?_
  refine aw_icmp_ne (tgt := 52) hC dL_act_41 (by decide) (fun z9 => absurd z9 (by decide)) (fun _ => ?_)
  refine aw_aload_n hC dL_act_44 rfl ?_
  refine aw_iload_n hC dL_act_45 rfl ?_
  refine kL_16 hC rfl hM dL_act_46 (GX.t0 h0) rfl a_le a_le a_le a_le a_le rfl (exx (fun E m2 T I J R hE hF hG => act_ae hC hq (by decide) (by decide) (by decide) a_le a_le hE hF hG)) (exk (fun w m2 T I J R hF hG => ?_))
  show AW X 3 200 49 [some (.ref 0), some (.int 2), some (.int a), some (.int b), some (.int c), some (.int d), some (.int e), none] [.int w] T I J R
  refine aw_goto (tgt := 345) hC dL_act_49 (by decide) ?_
  exact aw_ireturn hC hq rfl dL_act_345 a_le a_le (EK.ret hF hG)
set_option maxRecDepth 100000 in
theorem m_L_act_3 {T : List aT} {I : aI} {J : aJ} {R : aR} {F : Int32 → aI → Prop} {a b c d e : Int32} {m0 : aI} (h0 : GX T I J R m0) (hM : MX11_remove 3 200 [.ref 0, .int a] T I J R (EX F)) : ML_act 3 200 [.ref 0, .int 3, .int a, .int b, .int c, .int d, .int e] T I J R (EK F) := by
  refine a_metW (by decide +kernel) a_le (fun X hC hq => ?_)
  show AW X 0 0 0 [some (.ref 0), some (.int 3), some (.int a), some (.int b), some (.int c), some (.int d), some (.int e), none] [] T I J R
  refine aw_iload_n hC dL_act_0 rfl ?_
  refine aw_if_ne (tgt := 19) hC dL_act_1 (by decide) (fun _ => ?_) (fun z9 => absurd z9 (by decide))
  refine aw_iload_n hC dL_act_19 rfl ?_
  refine aw_iconst (v := 1) hC dL_act_20 (by decide) ?_
  refine aw_icmp_ne (tgt := 39) hC dL_act_21 (by decide) (fun _ => ?_) (fun z9 => absurd z9 (by decide))
  refine aw_iload_n hC dL_act_39 rfl ?_
  refine aw_iconst (v := 2) hC dL_act_40 (by decide) ?_
  refine aw_icmp_ne (tgt := 52) hC dL_act_41 (by decide) (fun _ => ?_) (fun z9 => absurd z9 (by decide))
  refine aw_iload_n hC dL_act_52 rfl ?_
  refine aw_iconst (v := 3) hC dL_act_53 (by decide) ?_
  refine aw_icmp_ne (tgt := 65) hC dL_act_54 (by decide) (fun z9 => absurd z9 (by decide)) (fun _ => ?_)
  refine aw_aload_n hC dL_act_57 rfl ?_
  refine aw_iload_n hC dL_act_58 rfl ?_
  refine kL_20 hC rfl hM dL_act_59 (GX.t0 h0) rfl a_le a_le a_le a_le a_le rfl (exx (fun E m2 T I J R hE hF hG => act_ae hC hq (by decide) (by decide) (by decide) a_le a_le hE hF hG)) (exk (fun w m2 T I J R hF hG => ?_))
  show AW X 3 200 62 [some (.ref 0), some (.int 3), some (.int a), some (.int b), some (.int c), some (.int d), some (.int e), none] [.int w] T I J R
  refine aw_goto (tgt := 345) hC dL_act_62 (by decide) ?_
  exact aw_ireturn hC hq rfl dL_act_345 a_le a_le (EK.ret hF hG)
set_option maxRecDepth 100000 in
theorem m_L_act_4 {T : List aT} {I : aI} {J : aJ} {R : aR} {F : Int32 → aI → Prop} {a b c d e : Int32} {m0 : aI} (h0 : GX T I J R m0) (hM : MX11_setLayer 3 200 [.ref 0, .int a, .int b] T I J R (EX F)) : ML_act 3 200 [.ref 0, .int 4, .int a, .int b, .int c, .int d, .int e] T I J R (EK F) := by
  refine a_metW (by decide +kernel) a_le (fun X hC hq => ?_)
  show AW X 0 0 0 [some (.ref 0), some (.int 4), some (.int a), some (.int b), some (.int c), some (.int d), some (.int e), none] [] T I J R
  refine aw_iload_n hC dL_act_0 rfl ?_
  refine aw_if_ne (tgt := 19) hC dL_act_1 (by decide) (fun _ => ?_) (fun z9 => absurd z9 (by decide))
  refine aw_iload_n hC dL_act_19 rfl ?_
  refine aw_iconst (v := 1) hC dL_act_20 (by decide) ?_
  refine aw_icmp_ne (tgt := 39) hC dL_act_21 (by decide) (fun _ => ?_) (fun z9 => absurd z9 (by decide))
  refine aw_iload_n hC dL_act_39 rfl ?_
  refine aw_iconst (v := 2) hC dL_act_40 (by decide) ?_
  refine aw_icmp_ne (tgt := 52) hC dL_act_41 (by decide) (fun _ => ?_) (fun z9 => absurd z9 (by decide))
  refine aw_iload_n hC dL_act_52 rfl ?_
  refine aw_iconst (v := 3) hC dL_act_53 (by decide) ?_
  refine aw_icmp_ne (tgt := 65) hC dL_act_54 (by decide) (fun _ => ?_) (fun z9 => absurd z9 (by decide))
  refine aw_iload_n hC dL_act_65 rfl ?_
  refine aw_iconst (v := 4) hC dL_act_66 (by decide) ?_
  refine aw_icmp_ne (tgt := 79) hC dL_act_67 (by decide) (fun z9 => absurd z9 (by decide)) (fun _ => ?_)
  refine aw_aload_n hC dL_act_70 rfl ?_
  refine aw_iload_n hC dL_act_71 rfl ?_
  refine aw_iload_n hC dL_act_72 rfl ?_
  refine kL_23 hC rfl hM dL_act_73 (GX.t0 h0) rfl a_le a_le a_le a_le a_le rfl (exx (fun E m2 T I J R hE hF hG => act_ae hC hq (by decide) (by decide) (by decide) a_le a_le hE hF hG)) (exk (fun w m2 T I J R hF hG => ?_))
  show AW X 3 200 76 [some (.ref 0), some (.int 4), some (.int a), some (.int b), some (.int c), some (.int d), some (.int e), none] [.int w] T I J R
  refine aw_goto (tgt := 345) hC dL_act_76 (by decide) ?_
  exact aw_ireturn hC hq rfl dL_act_345 a_le a_le (EK.ret hF hG)
set_option maxRecDepth 100000 in
theorem m_L_act_5 {T : List aT} {I : aI} {J : aJ} {R : aR} {F : Int32 → aI → Prop} {a b c d e : Int32} {m0 : aI} (h0 : GX T I J R m0) (hM : MX11_lock 3 200 [.ref 0, .int a, .int b] T I J R (EX F)) : ML_act 3 200 [.ref 0, .int 5, .int a, .int b, .int c, .int d, .int e] T I J R (EK F) := by
  refine a_metW (by decide +kernel) a_le (fun X hC hq => ?_)
  show AW X 0 0 0 [some (.ref 0), some (.int 5), some (.int a), some (.int b), some (.int c), some (.int d), some (.int e), none] [] T I J R
  refine aw_iload_n hC dL_act_0 rfl ?_
  refine aw_if_ne (tgt := 19) hC dL_act_1 (by decide) (fun _ => ?_) (fun z9 => absurd z9 (by decide))
  refine aw_iload_n hC dL_act_19 rfl ?_
  refine aw_iconst (v := 1) hC dL_act_20 (by decide) ?_
  refine aw_icmp_ne (tgt := 39) hC dL_act_21 (by decide) (fun _ => ?_) (fun z9 => absurd z9 (by decide))
  refine aw_iload_n hC dL_act_39 rfl ?_
  refine aw_iconst (v := 2) hC dL_act_40 (by decide) ?_
  refine aw_icmp_ne (tgt := 52) hC dL_act_41 (by decide) (fun _ => ?_) (fun z9 => absurd z9 (by decide))
  refine aw_iload_n hC dL_act_52 rfl ?_
  refine aw_iconst (v := 3) hC dL_act_53 (by decide) ?_
  refine aw_icmp_ne (tgt := 65) hC dL_act_54 (by decide) (fun _ => ?_) (fun z9 => absurd z9 (by decide))
  refine aw_iload_n hC dL_act_65 rfl ?_
  refine aw_iconst (v := 4) hC dL_act_66 (by decide) ?_
  refine aw_icmp_ne (tgt := 79) hC dL_act_67 (by decide) (fun _ => ?_) (fun z9 => absurd z9 (by decide))
  refine aw_iload_n hC dL_act_79 rfl ?_
  refine aw_iconst (v := 5) hC dL_act_80 (by decide) ?_
  refine aw_icmp_ne (tgt := 93) hC dL_act_81 (by decide) (fun z9 => absurd z9 (by decide)) (fun _ => ?_)
  refine aw_aload_n hC dL_act_84 rfl ?_
  refine aw_iload_n hC dL_act_85 rfl ?_
  refine aw_iload_n hC dL_act_86 rfl ?_
  refine kL_27 hC rfl hM dL_act_87 (GX.t0 h0) rfl a_le a_le a_le a_le a_le rfl (exx (fun E m2 T I J R hE hF hG => act_ae hC hq (by decide) (by decide) (by decide) a_le a_le hE hF hG)) (exk (fun w m2 T I J R hF hG => ?_))
  show AW X 3 200 90 [some (.ref 0), some (.int 5), some (.int a), some (.int b), some (.int c), some (.int d), some (.int e), none] [.int w] T I J R
  refine aw_goto (tgt := 345) hC dL_act_90 (by decide) ?_
  exact aw_ireturn hC hq rfl dL_act_345 a_le a_le (EK.ret hF hG)
set_option maxRecDepth 100000 in
theorem m_L_act_6 {T : List aT} {I : aI} {J : aJ} {R : aR} {F : Int32 → aI → Prop} {a b c d e : Int32} {m0 : aI} (h0 : GX T I J R m0) (hM : MX11_except 3 200 [.ref 0, .int a, .int b, .int c] T I J R (EX F)) : ML_act 3 200 [.ref 0, .int 6, .int a, .int b, .int c, .int d, .int e] T I J R (EK F) := by
  refine a_metW (by decide +kernel) a_le (fun X hC hq => ?_)
  show AW X 0 0 0 [some (.ref 0), some (.int 6), some (.int a), some (.int b), some (.int c), some (.int d), some (.int e), none] [] T I J R
  refine aw_iload_n hC dL_act_0 rfl ?_
  refine aw_if_ne (tgt := 19) hC dL_act_1 (by decide) (fun _ => ?_) (fun z9 => absurd z9 (by decide))
  refine aw_iload_n hC dL_act_19 rfl ?_
  refine aw_iconst (v := 1) hC dL_act_20 (by decide) ?_
  refine aw_icmp_ne (tgt := 39) hC dL_act_21 (by decide) (fun _ => ?_) (fun z9 => absurd z9 (by decide))
  refine aw_iload_n hC dL_act_39 rfl ?_
  refine aw_iconst (v := 2) hC dL_act_40 (by decide) ?_
  refine aw_icmp_ne (tgt := 52) hC dL_act_41 (by decide) (fun _ => ?_) (fun z9 => absurd z9 (by decide))
  refine aw_iload_n hC dL_act_52 rfl ?_
  refine aw_iconst (v := 3) hC dL_act_53 (by decide) ?_
  refine aw_icmp_ne (tgt := 65) hC dL_act_54 (by decide) (fun _ => ?_) (fun z9 => absurd z9 (by decide))
  refine aw_iload_n hC dL_act_65 rfl ?_
  refine aw_iconst (v := 4) hC dL_act_66 (by decide) ?_
  refine aw_icmp_ne (tgt := 79) hC dL_act_67 (by decide) (fun _ => ?_) (fun z9 => absurd z9 (by decide))
  refine aw_iload_n hC dL_act_79 rfl ?_
  refine aw_iconst (v := 5) hC dL_act_80 (by decide) ?_
  refine aw_icmp_ne (tgt := 93) hC dL_act_81 (by decide) (fun _ => ?_) (fun z9 => absurd z9 (by decide))
  refine aw_iload_n hC dL_act_93 rfl ?_
  refine aw_bipush (v := 6) hC dL_act_94 (by decide) ?_
  refine aw_icmp_ne (tgt := 110) hC dL_act_96 (by decide) (fun z9 => absurd z9 (by decide)) (fun _ => ?_)
  refine aw_aload_n hC dL_act_99 rfl ?_
  refine aw_iload_n hC dL_act_100 rfl ?_
  refine aw_iload_n hC dL_act_101 rfl ?_
  refine aw_iload hC dL_act_102 rfl ?_
  refine kL_30 hC rfl hM dL_act_104 (GX.t0 h0) rfl a_le a_le a_le a_le a_le rfl (exx (fun E m2 T I J R hE hF hG => act_ae hC hq (by decide) (by decide) (by decide) a_le a_le hE hF hG)) (exk (fun w m2 T I J R hF hG => ?_))
  show AW X 3 200 107 [some (.ref 0), some (.int 6), some (.int a), some (.int b), some (.int c), some (.int d), some (.int e), none] [.int w] T I J R
  refine aw_goto (tgt := 345) hC dL_act_107 (by decide) ?_
  exact aw_ireturn hC hq rfl dL_act_345 a_le a_le (EK.ret hF hG)
set_option maxRecDepth 100000 in
theorem m_L_act_7 {T : List aT} {I : aI} {J : aJ} {R : aR} {F : Int32 → aI → Prop} {a b c d e : Int32} {m0 : aI} (h0 : GX T I J R m0) (hM : MX11_pass 3 200 [.ref 0, .int a] T I J R (EX F)) : ML_act 3 200 [.ref 0, .int 7, .int a, .int b, .int c, .int d, .int e] T I J R (EK F) := by
  refine a_metW (by decide +kernel) a_le (fun X hC hq => ?_)
  show AW X 0 0 0 [some (.ref 0), some (.int 7), some (.int a), some (.int b), some (.int c), some (.int d), some (.int e), none] [] T I J R
  refine aw_iload_n hC dL_act_0 rfl ?_
  refine aw_if_ne (tgt := 19) hC dL_act_1 (by decide) (fun _ => ?_) (fun z9 => absurd z9 (by decide))
  refine aw_iload_n hC dL_act_19 rfl ?_
  refine aw_iconst (v := 1) hC dL_act_20 (by decide) ?_
  refine aw_icmp_ne (tgt := 39) hC dL_act_21 (by decide) (fun _ => ?_) (fun z9 => absurd z9 (by decide))
  refine aw_iload_n hC dL_act_39 rfl ?_
  refine aw_iconst (v := 2) hC dL_act_40 (by decide) ?_
  refine aw_icmp_ne (tgt := 52) hC dL_act_41 (by decide) (fun _ => ?_) (fun z9 => absurd z9 (by decide))
  refine aw_iload_n hC dL_act_52 rfl ?_
  refine aw_iconst (v := 3) hC dL_act_53 (by decide) ?_
  refine aw_icmp_ne (tgt := 65) hC dL_act_54 (by decide) (fun _ => ?_) (fun z9 => absurd z9 (by decide))
  refine aw_iload_n hC dL_act_65 rfl ?_
  refine aw_iconst (v := 4) hC dL_act_66 (by decide) ?_
  refine aw_icmp_ne (tgt := 79) hC dL_act_67 (by decide) (fun _ => ?_) (fun z9 => absurd z9 (by decide))
  refine aw_iload_n hC dL_act_79 rfl ?_
  refine aw_iconst (v := 5) hC dL_act_80 (by decide) ?_
  refine aw_icmp_ne (tgt := 93) hC dL_act_81 (by decide) (fun _ => ?_) (fun z9 => absurd z9 (by decide))
  refine aw_iload_n hC dL_act_93 rfl ?_
  refine aw_bipush (v := 6) hC dL_act_94 (by decide) ?_
  refine aw_icmp_ne (tgt := 110) hC dL_act_96 (by decide) (fun _ => ?_) (fun z9 => absurd z9 (by decide))
  refine aw_iload_n hC dL_act_110 rfl ?_
  refine aw_bipush (v := 7) hC dL_act_111 (by decide) ?_
  refine aw_icmp_ne (tgt := 124) hC dL_act_113 (by decide) (fun z9 => absurd z9 (by decide)) (fun _ => ?_)
  refine aw_aload_n hC dL_act_116 rfl ?_
  refine aw_iload_n hC dL_act_117 rfl ?_
  refine kL_34 hC rfl hM dL_act_118 (GX.t0 h0) rfl a_le a_le a_le a_le a_le rfl (exx (fun E m2 T I J R hE hF hG => act_ae hC hq (by decide) (by decide) (by decide) a_le a_le hE hF hG)) (exk (fun w m2 T I J R hF hG => ?_))
  show AW X 3 200 121 [some (.ref 0), some (.int 7), some (.int a), some (.int b), some (.int c), some (.int d), some (.int e), none] [.int w] T I J R
  refine aw_goto (tgt := 345) hC dL_act_121 (by decide) ?_
  exact aw_ireturn hC hq rfl dL_act_345 a_le a_le (EK.ret hF hG)
set_option maxRecDepth 100000 in
theorem m_L_act_8 {T : List aT} {I : aI} {J : aJ} {R : aR} {F : Int32 → aI → Prop} {a b c d e : Int32} {m0 : aI} (h0 : GX T I J R m0) (hM : MX11_standing 3 200 [.ref 0, .int a] T I J R (EX F)) : ML_act 3 200 [.ref 0, .int 8, .int a, .int b, .int c, .int d, .int e] T I J R (EK F) := by
  refine a_metW (by decide +kernel) a_le (fun X hC hq => ?_)
  show AW X 0 0 0 [some (.ref 0), some (.int 8), some (.int a), some (.int b), some (.int c), some (.int d), some (.int e), none] [] T I J R
  refine aw_iload_n hC dL_act_0 rfl ?_
  refine aw_if_ne (tgt := 19) hC dL_act_1 (by decide) (fun _ => ?_) (fun z9 => absurd z9 (by decide))
  refine aw_iload_n hC dL_act_19 rfl ?_
  refine aw_iconst (v := 1) hC dL_act_20 (by decide) ?_
  refine aw_icmp_ne (tgt := 39) hC dL_act_21 (by decide) (fun _ => ?_) (fun z9 => absurd z9 (by decide))
  refine aw_iload_n hC dL_act_39 rfl ?_
  refine aw_iconst (v := 2) hC dL_act_40 (by decide) ?_
  refine aw_icmp_ne (tgt := 52) hC dL_act_41 (by decide) (fun _ => ?_) (fun z9 => absurd z9 (by decide))
  refine aw_iload_n hC dL_act_52 rfl ?_
  refine aw_iconst (v := 3) hC dL_act_53 (by decide) ?_
  refine aw_icmp_ne (tgt := 65) hC dL_act_54 (by decide) (fun _ => ?_) (fun z9 => absurd z9 (by decide))
  refine aw_iload_n hC dL_act_65 rfl ?_
  refine aw_iconst (v := 4) hC dL_act_66 (by decide) ?_
  refine aw_icmp_ne (tgt := 79) hC dL_act_67 (by decide) (fun _ => ?_) (fun z9 => absurd z9 (by decide))
  refine aw_iload_n hC dL_act_79 rfl ?_
  refine aw_iconst (v := 5) hC dL_act_80 (by decide) ?_
  refine aw_icmp_ne (tgt := 93) hC dL_act_81 (by decide) (fun _ => ?_) (fun z9 => absurd z9 (by decide))
  refine aw_iload_n hC dL_act_93 rfl ?_
  refine aw_bipush (v := 6) hC dL_act_94 (by decide) ?_
  refine aw_icmp_ne (tgt := 110) hC dL_act_96 (by decide) (fun _ => ?_) (fun z9 => absurd z9 (by decide))
  refine aw_iload_n hC dL_act_110 rfl ?_
  refine aw_bipush (v := 7) hC dL_act_111 (by decide) ?_
  refine aw_icmp_ne (tgt := 124) hC dL_act_113 (by decide) (fun _ => ?_) (fun z9 => absurd z9 (by decide))
  refine aw_iload_n hC dL_act_124 rfl ?_
  refine aw_bipush (v := 8) hC dL_act_125 (by decide) ?_
  refine aw_icmp_ne (tgt := 138) hC dL_act_127 (by decide) (fun z9 => absurd z9 (by decide)) (fun _ => ?_)
  refine aw_aload_n hC dL_act_130 rfl ?_
  refine aw_iload_n hC dL_act_131 rfl ?_
  refine kL_37 hC rfl hM dL_act_132 (GX.t0 h0) rfl a_le a_le a_le a_le a_le rfl (exx (fun E m2 T I J R hE hF hG => act_ae hC hq (by decide) (by decide) (by decide) a_le a_le hE hF hG)) (exk (fun w m2 T I J R hF hG => ?_))
  show AW X 3 200 135 [some (.ref 0), some (.int 8), some (.int a), some (.int b), some (.int c), some (.int d), some (.int e), none] [.int w] T I J R
  refine aw_goto (tgt := 345) hC dL_act_135 (by decide) ?_
  exact aw_ireturn hC hq rfl dL_act_345 a_le a_le (EK.ret hF hG)
set_option maxRecDepth 100000 in
theorem m_L_act_9 {T : List aT} {I : aI} {J : aJ} {R : aR} {F : Int32 → aI → Prop} {a b c d e : Int32} {m0 : aI} (h0 : GX T I J R m0) (hM : MX11_value 3 200 [.ref 0, .int a] T I J R (EX F)) : ML_act 3 200 [.ref 0, .int 9, .int a, .int b, .int c, .int d, .int e] T I J R (EK F) := by
  refine a_metW (by decide +kernel) a_le (fun X hC hq => ?_)
  show AW X 0 0 0 [some (.ref 0), some (.int 9), some (.int a), some (.int b), some (.int c), some (.int d), some (.int e), none] [] T I J R
  refine aw_iload_n hC dL_act_0 rfl ?_
  refine aw_if_ne (tgt := 19) hC dL_act_1 (by decide) (fun _ => ?_) (fun z9 => absurd z9 (by decide))
  refine aw_iload_n hC dL_act_19 rfl ?_
  refine aw_iconst (v := 1) hC dL_act_20 (by decide) ?_
  refine aw_icmp_ne (tgt := 39) hC dL_act_21 (by decide) (fun _ => ?_) (fun z9 => absurd z9 (by decide))
  refine aw_iload_n hC dL_act_39 rfl ?_
  refine aw_iconst (v := 2) hC dL_act_40 (by decide) ?_
  refine aw_icmp_ne (tgt := 52) hC dL_act_41 (by decide) (fun _ => ?_) (fun z9 => absurd z9 (by decide))
  refine aw_iload_n hC dL_act_52 rfl ?_
  refine aw_iconst (v := 3) hC dL_act_53 (by decide) ?_
  refine aw_icmp_ne (tgt := 65) hC dL_act_54 (by decide) (fun _ => ?_) (fun z9 => absurd z9 (by decide))
  refine aw_iload_n hC dL_act_65 rfl ?_
  refine aw_iconst (v := 4) hC dL_act_66 (by decide) ?_
  refine aw_icmp_ne (tgt := 79) hC dL_act_67 (by decide) (fun _ => ?_) (fun z9 => absurd z9 (by decide))
  refine aw_iload_n hC dL_act_79 rfl ?_
  refine aw_iconst (v := 5) hC dL_act_80 (by decide) ?_
  refine aw_icmp_ne (tgt := 93) hC dL_act_81 (by decide) (fun _ => ?_) (fun z9 => absurd z9 (by decide))
  refine aw_iload_n hC dL_act_93 rfl ?_
  refine aw_bipush (v := 6) hC dL_act_94 (by decide) ?_
  refine aw_icmp_ne (tgt := 110) hC dL_act_96 (by decide) (fun _ => ?_) (fun z9 => absurd z9 (by decide))
  refine aw_iload_n hC dL_act_110 rfl ?_
  refine aw_bipush (v := 7) hC dL_act_111 (by decide) ?_
  refine aw_icmp_ne (tgt := 124) hC dL_act_113 (by decide) (fun _ => ?_) (fun z9 => absurd z9 (by decide))
  refine aw_iload_n hC dL_act_124 rfl ?_
  refine aw_bipush (v := 8) hC dL_act_125 (by decide) ?_
  refine aw_icmp_ne (tgt := 138) hC dL_act_127 (by decide) (fun _ => ?_) (fun z9 => absurd z9 (by decide))
  refine aw_iload_n hC dL_act_138 rfl ?_
  refine aw_bipush (v := 9) hC dL_act_139 (by decide) ?_
  refine aw_icmp_ne (tgt := 152) hC dL_act_141 (by decide) (fun z9 => absurd z9 (by decide)) (fun _ => ?_)
  refine aw_aload_n hC dL_act_144 rfl ?_
  refine aw_iload_n hC dL_act_145 rfl ?_
  refine kL_40 hC rfl hM dL_act_146 (GX.t0 h0) rfl a_le a_le a_le a_le a_le rfl (exx (fun E m2 T I J R hE hF hG => act_ae hC hq (by decide) (by decide) (by decide) a_le a_le hE hF hG)) (exk (fun w m2 T I J R hF hG => ?_))
  show AW X 3 200 149 [some (.ref 0), some (.int 9), some (.int a), some (.int b), some (.int c), some (.int d), some (.int e), none] [.int w] T I J R
  refine aw_goto (tgt := 345) hC dL_act_149 (by decide) ?_
  exact aw_ireturn hC hq rfl dL_act_345 a_le a_le (EK.ret hF hG)
set_option maxRecDepth 100000 in
theorem m_L_act_10 {T : List aT} {I : aI} {J : aJ} {R : aR} {F : Int32 → aI → Prop} {a b c d e : Int32} {m0 : aI} (h0 : GX T I J R m0) (hM : MX11_set 3 200 [.ref 0, .int a] T I J R (EX F)) : ML_act 3 200 [.ref 0, .int 10, .int a, .int b, .int c, .int d, .int e] T I J R (EK F) := by
  refine a_metW (by decide +kernel) a_le (fun X hC hq => ?_)
  show AW X 0 0 0 [some (.ref 0), some (.int 10), some (.int a), some (.int b), some (.int c), some (.int d), some (.int e), none] [] T I J R
  refine aw_iload_n hC dL_act_0 rfl ?_
  refine aw_if_ne (tgt := 19) hC dL_act_1 (by decide) (fun _ => ?_) (fun z9 => absurd z9 (by decide))
  refine aw_iload_n hC dL_act_19 rfl ?_
  refine aw_iconst (v := 1) hC dL_act_20 (by decide) ?_
  refine aw_icmp_ne (tgt := 39) hC dL_act_21 (by decide) (fun _ => ?_) (fun z9 => absurd z9 (by decide))
  refine aw_iload_n hC dL_act_39 rfl ?_
  refine aw_iconst (v := 2) hC dL_act_40 (by decide) ?_
  refine aw_icmp_ne (tgt := 52) hC dL_act_41 (by decide) (fun _ => ?_) (fun z9 => absurd z9 (by decide))
  refine aw_iload_n hC dL_act_52 rfl ?_
  refine aw_iconst (v := 3) hC dL_act_53 (by decide) ?_
  refine aw_icmp_ne (tgt := 65) hC dL_act_54 (by decide) (fun _ => ?_) (fun z9 => absurd z9 (by decide))
  refine aw_iload_n hC dL_act_65 rfl ?_
  refine aw_iconst (v := 4) hC dL_act_66 (by decide) ?_
  refine aw_icmp_ne (tgt := 79) hC dL_act_67 (by decide) (fun _ => ?_) (fun z9 => absurd z9 (by decide))
  refine aw_iload_n hC dL_act_79 rfl ?_
  refine aw_iconst (v := 5) hC dL_act_80 (by decide) ?_
  refine aw_icmp_ne (tgt := 93) hC dL_act_81 (by decide) (fun _ => ?_) (fun z9 => absurd z9 (by decide))
  refine aw_iload_n hC dL_act_93 rfl ?_
  refine aw_bipush (v := 6) hC dL_act_94 (by decide) ?_
  refine aw_icmp_ne (tgt := 110) hC dL_act_96 (by decide) (fun _ => ?_) (fun z9 => absurd z9 (by decide))
  refine aw_iload_n hC dL_act_110 rfl ?_
  refine aw_bipush (v := 7) hC dL_act_111 (by decide) ?_
  refine aw_icmp_ne (tgt := 124) hC dL_act_113 (by decide) (fun _ => ?_) (fun z9 => absurd z9 (by decide))
  refine aw_iload_n hC dL_act_124 rfl ?_
  refine aw_bipush (v := 8) hC dL_act_125 (by decide) ?_
  refine aw_icmp_ne (tgt := 138) hC dL_act_127 (by decide) (fun _ => ?_) (fun z9 => absurd z9 (by decide))
  refine aw_iload_n hC dL_act_138 rfl ?_
  refine aw_bipush (v := 9) hC dL_act_139 (by decide) ?_
  refine aw_icmp_ne (tgt := 152) hC dL_act_141 (by decide) (fun _ => ?_) (fun z9 => absurd z9 (by decide))
  refine aw_iload_n hC dL_act_152 rfl ?_
  refine aw_bipush (v := 10) hC dL_act_153 (by decide) ?_
  refine aw_icmp_ne (tgt := 166) hC dL_act_155 (by decide) (fun z9 => absurd z9 (by decide)) (fun _ => ?_)
  refine aw_aload_n hC dL_act_158 rfl ?_
  refine aw_iload_n hC dL_act_159 rfl ?_
  refine kL_43 hC rfl hM dL_act_160 (GX.t0 h0) rfl a_le a_le a_le a_le a_le rfl (exx (fun E m2 T I J R hE hF hG => act_ae hC hq (by decide) (by decide) (by decide) a_le a_le hE hF hG)) (exk (fun w m2 T I J R hF hG => ?_))
  show AW X 3 200 163 [some (.ref 0), some (.int 10), some (.int a), some (.int b), some (.int c), some (.int d), some (.int e), none] [.int w] T I J R
  refine aw_goto (tgt := 345) hC dL_act_163 (by decide) ?_
  exact aw_ireturn hC hq rfl dL_act_345 a_le a_le (EK.ret hF hG)
set_option maxRecDepth 100000 in
theorem m_L_act_11 {T : List aT} {I : aI} {J : aJ} {R : aR} {F : Int32 → aI → Prop} {a b c d e : Int32} {m0 : aI} (h0 : GX T I J R m0) (hM : MX11_setAnew 3 200 [.ref 0, .int a] T I J R (EX F)) : ML_act 3 200 [.ref 0, .int 11, .int a, .int b, .int c, .int d, .int e] T I J R (EK F) := by
  refine a_metW (by decide +kernel) a_le (fun X hC hq => ?_)
  show AW X 0 0 0 [some (.ref 0), some (.int 11), some (.int a), some (.int b), some (.int c), some (.int d), some (.int e), none] [] T I J R
  refine aw_iload_n hC dL_act_0 rfl ?_
  refine aw_if_ne (tgt := 19) hC dL_act_1 (by decide) (fun _ => ?_) (fun z9 => absurd z9 (by decide))
  refine aw_iload_n hC dL_act_19 rfl ?_
  refine aw_iconst (v := 1) hC dL_act_20 (by decide) ?_
  refine aw_icmp_ne (tgt := 39) hC dL_act_21 (by decide) (fun _ => ?_) (fun z9 => absurd z9 (by decide))
  refine aw_iload_n hC dL_act_39 rfl ?_
  refine aw_iconst (v := 2) hC dL_act_40 (by decide) ?_
  refine aw_icmp_ne (tgt := 52) hC dL_act_41 (by decide) (fun _ => ?_) (fun z9 => absurd z9 (by decide))
  refine aw_iload_n hC dL_act_52 rfl ?_
  refine aw_iconst (v := 3) hC dL_act_53 (by decide) ?_
  refine aw_icmp_ne (tgt := 65) hC dL_act_54 (by decide) (fun _ => ?_) (fun z9 => absurd z9 (by decide))
  refine aw_iload_n hC dL_act_65 rfl ?_
  refine aw_iconst (v := 4) hC dL_act_66 (by decide) ?_
  refine aw_icmp_ne (tgt := 79) hC dL_act_67 (by decide) (fun _ => ?_) (fun z9 => absurd z9 (by decide))
  refine aw_iload_n hC dL_act_79 rfl ?_
  refine aw_iconst (v := 5) hC dL_act_80 (by decide) ?_
  refine aw_icmp_ne (tgt := 93) hC dL_act_81 (by decide) (fun _ => ?_) (fun z9 => absurd z9 (by decide))
  refine aw_iload_n hC dL_act_93 rfl ?_
  refine aw_bipush (v := 6) hC dL_act_94 (by decide) ?_
  refine aw_icmp_ne (tgt := 110) hC dL_act_96 (by decide) (fun _ => ?_) (fun z9 => absurd z9 (by decide))
  refine aw_iload_n hC dL_act_110 rfl ?_
  refine aw_bipush (v := 7) hC dL_act_111 (by decide) ?_
  refine aw_icmp_ne (tgt := 124) hC dL_act_113 (by decide) (fun _ => ?_) (fun z9 => absurd z9 (by decide))
  refine aw_iload_n hC dL_act_124 rfl ?_
  refine aw_bipush (v := 8) hC dL_act_125 (by decide) ?_
  refine aw_icmp_ne (tgt := 138) hC dL_act_127 (by decide) (fun _ => ?_) (fun z9 => absurd z9 (by decide))
  refine aw_iload_n hC dL_act_138 rfl ?_
  refine aw_bipush (v := 9) hC dL_act_139 (by decide) ?_
  refine aw_icmp_ne (tgt := 152) hC dL_act_141 (by decide) (fun _ => ?_) (fun z9 => absurd z9 (by decide))
  refine aw_iload_n hC dL_act_152 rfl ?_
  refine aw_bipush (v := 10) hC dL_act_153 (by decide) ?_
  refine aw_icmp_ne (tgt := 166) hC dL_act_155 (by decide) (fun _ => ?_) (fun z9 => absurd z9 (by decide))
  refine aw_iload_n hC dL_act_166 rfl ?_
  refine aw_bipush (v := 11) hC dL_act_167 (by decide) ?_
  refine aw_icmp_ne (tgt := 180) hC dL_act_169 (by decide) (fun z9 => absurd z9 (by decide)) (fun _ => ?_)
  refine aw_aload_n hC dL_act_172 rfl ?_
  refine aw_iload_n hC dL_act_173 rfl ?_
  refine kL_46 hC rfl hM dL_act_174 (GX.t0 h0) rfl a_le a_le a_le a_le a_le rfl (exx (fun E m2 T I J R hE hF hG => act_ae hC hq (by decide) (by decide) (by decide) a_le a_le hE hF hG)) (exk (fun w m2 T I J R hF hG => ?_))
  show AW X 3 200 177 [some (.ref 0), some (.int 11), some (.int a), some (.int b), some (.int c), some (.int d), some (.int e), none] [.int w] T I J R
  refine aw_goto (tgt := 345) hC dL_act_177 (by decide) ?_
  exact aw_ireturn hC hq rfl dL_act_345 a_le a_le (EK.ret hF hG)
set_option maxRecDepth 100000 in
theorem m_L_act_12 {T : List aT} {I : aI} {J : aJ} {R : aR} {F : Int32 → aI → Prop} {a b c d e : Int32} {m0 : aI} (h0 : GX T I J R m0) (hM : MX11_policy 3 200 [.ref 0, .int a, .int b, .int c] T I J R (EX F)) : ML_act 3 200 [.ref 0, .int 12, .int a, .int b, .int c, .int d, .int e] T I J R (EK F) := by
  refine a_metW (by decide +kernel) a_le (fun X hC hq => ?_)
  show AW X 0 0 0 [some (.ref 0), some (.int 12), some (.int a), some (.int b), some (.int c), some (.int d), some (.int e), none] [] T I J R
  refine aw_iload_n hC dL_act_0 rfl ?_
  refine aw_if_ne (tgt := 19) hC dL_act_1 (by decide) (fun _ => ?_) (fun z9 => absurd z9 (by decide))
  refine aw_iload_n hC dL_act_19 rfl ?_
  refine aw_iconst (v := 1) hC dL_act_20 (by decide) ?_
  refine aw_icmp_ne (tgt := 39) hC dL_act_21 (by decide) (fun _ => ?_) (fun z9 => absurd z9 (by decide))
  refine aw_iload_n hC dL_act_39 rfl ?_
  refine aw_iconst (v := 2) hC dL_act_40 (by decide) ?_
  refine aw_icmp_ne (tgt := 52) hC dL_act_41 (by decide) (fun _ => ?_) (fun z9 => absurd z9 (by decide))
  refine aw_iload_n hC dL_act_52 rfl ?_
  refine aw_iconst (v := 3) hC dL_act_53 (by decide) ?_
  refine aw_icmp_ne (tgt := 65) hC dL_act_54 (by decide) (fun _ => ?_) (fun z9 => absurd z9 (by decide))
  refine aw_iload_n hC dL_act_65 rfl ?_
  refine aw_iconst (v := 4) hC dL_act_66 (by decide) ?_
  refine aw_icmp_ne (tgt := 79) hC dL_act_67 (by decide) (fun _ => ?_) (fun z9 => absurd z9 (by decide))
  refine aw_iload_n hC dL_act_79 rfl ?_
  refine aw_iconst (v := 5) hC dL_act_80 (by decide) ?_
  refine aw_icmp_ne (tgt := 93) hC dL_act_81 (by decide) (fun _ => ?_) (fun z9 => absurd z9 (by decide))
  refine aw_iload_n hC dL_act_93 rfl ?_
  refine aw_bipush (v := 6) hC dL_act_94 (by decide) ?_
  refine aw_icmp_ne (tgt := 110) hC dL_act_96 (by decide) (fun _ => ?_) (fun z9 => absurd z9 (by decide))
  refine aw_iload_n hC dL_act_110 rfl ?_
  refine aw_bipush (v := 7) hC dL_act_111 (by decide) ?_
  refine aw_icmp_ne (tgt := 124) hC dL_act_113 (by decide) (fun _ => ?_) (fun z9 => absurd z9 (by decide))
  refine aw_iload_n hC dL_act_124 rfl ?_
  refine aw_bipush (v := 8) hC dL_act_125 (by decide) ?_
  refine aw_icmp_ne (tgt := 138) hC dL_act_127 (by decide) (fun _ => ?_) (fun z9 => absurd z9 (by decide))
  refine aw_iload_n hC dL_act_138 rfl ?_
  refine aw_bipush (v := 9) hC dL_act_139 (by decide) ?_
  refine aw_icmp_ne (tgt := 152) hC dL_act_141 (by decide) (fun _ => ?_) (fun z9 => absurd z9 (by decide))
  refine aw_iload_n hC dL_act_152 rfl ?_
  refine aw_bipush (v := 10) hC dL_act_153 (by decide) ?_
  refine aw_icmp_ne (tgt := 166) hC dL_act_155 (by decide) (fun _ => ?_) (fun z9 => absurd z9 (by decide))
  refine aw_iload_n hC dL_act_166 rfl ?_
  refine aw_bipush (v := 11) hC dL_act_167 (by decide) ?_
  refine aw_icmp_ne (tgt := 180) hC dL_act_169 (by decide) (fun _ => ?_) (fun z9 => absurd z9 (by decide))
  refine aw_iload_n hC dL_act_180 rfl ?_
  refine aw_bipush (v := 12) hC dL_act_181 (by decide) ?_
  refine aw_icmp_ne (tgt := 197) hC dL_act_183 (by decide) (fun z9 => absurd z9 (by decide)) (fun _ => ?_)
  refine aw_aload_n hC dL_act_186 rfl ?_
  refine aw_iload_n hC dL_act_187 rfl ?_
  refine aw_iload_n hC dL_act_188 rfl ?_
  refine aw_iload hC dL_act_189 rfl ?_
  refine kL_49 hC rfl hM dL_act_191 (GX.t0 h0) rfl a_le a_le a_le a_le a_le rfl (exx (fun E m2 T I J R hE hF hG => act_ae hC hq (by decide) (by decide) (by decide) a_le a_le hE hF hG)) (exk (fun w m2 T I J R hF hG => ?_))
  show AW X 3 200 194 [some (.ref 0), some (.int 12), some (.int a), some (.int b), some (.int c), some (.int d), some (.int e), none] [.int w] T I J R
  refine aw_goto (tgt := 345) hC dL_act_194 (by decide) ?_
  exact aw_ireturn hC hq rfl dL_act_345 a_le a_le (EK.ret hF hG)
set_option maxRecDepth 100000 in
theorem m_L_act_13 {T : List aT} {I : aI} {J : aJ} {R : aR} {F : Int32 → aI → Prop} {a b c d e : Int32} {m0 : aI} (h0 : GX T I J R m0) (hM : MX11_proof 3 200 [.ref 0, .int a] T I J R (EX F)) : ML_act 3 200 [.ref 0, .int 13, .int a, .int b, .int c, .int d, .int e] T I J R (EK F) := by
  refine a_metW (by decide +kernel) a_le (fun X hC hq => ?_)
  show AW X 0 0 0 [some (.ref 0), some (.int 13), some (.int a), some (.int b), some (.int c), some (.int d), some (.int e), none] [] T I J R
  refine aw_iload_n hC dL_act_0 rfl ?_
  refine aw_if_ne (tgt := 19) hC dL_act_1 (by decide) (fun _ => ?_) (fun z9 => absurd z9 (by decide))
  refine aw_iload_n hC dL_act_19 rfl ?_
  refine aw_iconst (v := 1) hC dL_act_20 (by decide) ?_
  refine aw_icmp_ne (tgt := 39) hC dL_act_21 (by decide) (fun _ => ?_) (fun z9 => absurd z9 (by decide))
  refine aw_iload_n hC dL_act_39 rfl ?_
  refine aw_iconst (v := 2) hC dL_act_40 (by decide) ?_
  refine aw_icmp_ne (tgt := 52) hC dL_act_41 (by decide) (fun _ => ?_) (fun z9 => absurd z9 (by decide))
  refine aw_iload_n hC dL_act_52 rfl ?_
  refine aw_iconst (v := 3) hC dL_act_53 (by decide) ?_
  refine aw_icmp_ne (tgt := 65) hC dL_act_54 (by decide) (fun _ => ?_) (fun z9 => absurd z9 (by decide))
  refine aw_iload_n hC dL_act_65 rfl ?_
  refine aw_iconst (v := 4) hC dL_act_66 (by decide) ?_
  refine aw_icmp_ne (tgt := 79) hC dL_act_67 (by decide) (fun _ => ?_) (fun z9 => absurd z9 (by decide))
  refine aw_iload_n hC dL_act_79 rfl ?_
  refine aw_iconst (v := 5) hC dL_act_80 (by decide) ?_
  refine aw_icmp_ne (tgt := 93) hC dL_act_81 (by decide) (fun _ => ?_) (fun z9 => absurd z9 (by decide))
  refine aw_iload_n hC dL_act_93 rfl ?_
  refine aw_bipush (v := 6) hC dL_act_94 (by decide) ?_
  refine aw_icmp_ne (tgt := 110) hC dL_act_96 (by decide) (fun _ => ?_) (fun z9 => absurd z9 (by decide))
  refine aw_iload_n hC dL_act_110 rfl ?_
  refine aw_bipush (v := 7) hC dL_act_111 (by decide) ?_
  refine aw_icmp_ne (tgt := 124) hC dL_act_113 (by decide) (fun _ => ?_) (fun z9 => absurd z9 (by decide))
  refine aw_iload_n hC dL_act_124 rfl ?_
  refine aw_bipush (v := 8) hC dL_act_125 (by decide) ?_
  refine aw_icmp_ne (tgt := 138) hC dL_act_127 (by decide) (fun _ => ?_) (fun z9 => absurd z9 (by decide))
  refine aw_iload_n hC dL_act_138 rfl ?_
  refine aw_bipush (v := 9) hC dL_act_139 (by decide) ?_
  refine aw_icmp_ne (tgt := 152) hC dL_act_141 (by decide) (fun _ => ?_) (fun z9 => absurd z9 (by decide))
  refine aw_iload_n hC dL_act_152 rfl ?_
  refine aw_bipush (v := 10) hC dL_act_153 (by decide) ?_
  refine aw_icmp_ne (tgt := 166) hC dL_act_155 (by decide) (fun _ => ?_) (fun z9 => absurd z9 (by decide))
  refine aw_iload_n hC dL_act_166 rfl ?_
  refine aw_bipush (v := 11) hC dL_act_167 (by decide) ?_
  refine aw_icmp_ne (tgt := 180) hC dL_act_169 (by decide) (fun _ => ?_) (fun z9 => absurd z9 (by decide))
  refine aw_iload_n hC dL_act_180 rfl ?_
  refine aw_bipush (v := 12) hC dL_act_181 (by decide) ?_
  refine aw_icmp_ne (tgt := 197) hC dL_act_183 (by decide) (fun _ => ?_) (fun z9 => absurd z9 (by decide))
  refine aw_iload_n hC dL_act_197 rfl ?_
  refine aw_bipush (v := 13) hC dL_act_198 (by decide) ?_
  refine aw_icmp_ne (tgt := 211) hC dL_act_200 (by decide) (fun z9 => absurd z9 (by decide)) (fun _ => ?_)
  refine aw_aload_n hC dL_act_203 rfl ?_
  refine aw_iload_n hC dL_act_204 rfl ?_
  refine kL_52 hC rfl hM dL_act_205 (GX.t0 h0) rfl a_le a_le a_le a_le a_le rfl (exx (fun E m2 T I J R hE hF hG => act_ae hC hq (by decide) (by decide) (by decide) a_le a_le hE hF hG)) (exk (fun w m2 T I J R hF hG => ?_))
  show AW X 3 200 208 [some (.ref 0), some (.int 13), some (.int a), some (.int b), some (.int c), some (.int d), some (.int e), none] [.int w] T I J R
  refine aw_goto (tgt := 345) hC dL_act_208 (by decide) ?_
  exact aw_ireturn hC hq rfl dL_act_345 a_le a_le (EK.ret hF hG)
set_option maxRecDepth 100000 in
theorem m_L_act_14 {T : List aT} {I : aI} {J : aJ} {R : aR} {F : Int32 → aI → Prop} {a b c d e : Int32} {m0 : aI} (h0 : GX T I J R m0) (hM : MX11_setType 3 200 [.ref 0, .int a, .int b, .int c, .int d, .int 0, .int 0] T I J R (EV F)) : ML_act 3 200 [.ref 0, .int 14, .int a, .int b, .int c, .int d, .int e] T I J R (EK F) := by
  refine a_metW (by decide +kernel) a_le (fun X hC hq => ?_)
  show AW X 0 0 0 [some (.ref 0), some (.int 14), some (.int a), some (.int b), some (.int c), some (.int d), some (.int e), none] [] T I J R
  refine aw_iload_n hC dL_act_0 rfl ?_
  refine aw_if_ne (tgt := 19) hC dL_act_1 (by decide) (fun _ => ?_) (fun z9 => absurd z9 (by decide))
  refine aw_iload_n hC dL_act_19 rfl ?_
  refine aw_iconst (v := 1) hC dL_act_20 (by decide) ?_
  refine aw_icmp_ne (tgt := 39) hC dL_act_21 (by decide) (fun _ => ?_) (fun z9 => absurd z9 (by decide))
  refine aw_iload_n hC dL_act_39 rfl ?_
  refine aw_iconst (v := 2) hC dL_act_40 (by decide) ?_
  refine aw_icmp_ne (tgt := 52) hC dL_act_41 (by decide) (fun _ => ?_) (fun z9 => absurd z9 (by decide))
  refine aw_iload_n hC dL_act_52 rfl ?_
  refine aw_iconst (v := 3) hC dL_act_53 (by decide) ?_
  refine aw_icmp_ne (tgt := 65) hC dL_act_54 (by decide) (fun _ => ?_) (fun z9 => absurd z9 (by decide))
  refine aw_iload_n hC dL_act_65 rfl ?_
  refine aw_iconst (v := 4) hC dL_act_66 (by decide) ?_
  refine aw_icmp_ne (tgt := 79) hC dL_act_67 (by decide) (fun _ => ?_) (fun z9 => absurd z9 (by decide))
  refine aw_iload_n hC dL_act_79 rfl ?_
  refine aw_iconst (v := 5) hC dL_act_80 (by decide) ?_
  refine aw_icmp_ne (tgt := 93) hC dL_act_81 (by decide) (fun _ => ?_) (fun z9 => absurd z9 (by decide))
  refine aw_iload_n hC dL_act_93 rfl ?_
  refine aw_bipush (v := 6) hC dL_act_94 (by decide) ?_
  refine aw_icmp_ne (tgt := 110) hC dL_act_96 (by decide) (fun _ => ?_) (fun z9 => absurd z9 (by decide))
  refine aw_iload_n hC dL_act_110 rfl ?_
  refine aw_bipush (v := 7) hC dL_act_111 (by decide) ?_
  refine aw_icmp_ne (tgt := 124) hC dL_act_113 (by decide) (fun _ => ?_) (fun z9 => absurd z9 (by decide))
  refine aw_iload_n hC dL_act_124 rfl ?_
  refine aw_bipush (v := 8) hC dL_act_125 (by decide) ?_
  refine aw_icmp_ne (tgt := 138) hC dL_act_127 (by decide) (fun _ => ?_) (fun z9 => absurd z9 (by decide))
  refine aw_iload_n hC dL_act_138 rfl ?_
  refine aw_bipush (v := 9) hC dL_act_139 (by decide) ?_
  refine aw_icmp_ne (tgt := 152) hC dL_act_141 (by decide) (fun _ => ?_) (fun z9 => absurd z9 (by decide))
  refine aw_iload_n hC dL_act_152 rfl ?_
  refine aw_bipush (v := 10) hC dL_act_153 (by decide) ?_
  refine aw_icmp_ne (tgt := 166) hC dL_act_155 (by decide) (fun _ => ?_) (fun z9 => absurd z9 (by decide))
  refine aw_iload_n hC dL_act_166 rfl ?_
  refine aw_bipush (v := 11) hC dL_act_167 (by decide) ?_
  refine aw_icmp_ne (tgt := 180) hC dL_act_169 (by decide) (fun _ => ?_) (fun z9 => absurd z9 (by decide))
  refine aw_iload_n hC dL_act_180 rfl ?_
  refine aw_bipush (v := 12) hC dL_act_181 (by decide) ?_
  refine aw_icmp_ne (tgt := 197) hC dL_act_183 (by decide) (fun _ => ?_) (fun z9 => absurd z9 (by decide))
  refine aw_iload_n hC dL_act_197 rfl ?_
  refine aw_bipush (v := 13) hC dL_act_198 (by decide) ?_
  refine aw_icmp_ne (tgt := 211) hC dL_act_200 (by decide) (fun _ => ?_) (fun z9 => absurd z9 (by decide))
  refine aw_iload_n hC dL_act_211 rfl ?_
  refine aw_bipush (v := 14) hC dL_act_212 (by decide) ?_
  refine aw_icmp_ne (tgt := 230) hC dL_act_214 (by decide) (fun z9 => absurd z9 (by decide)) (fun _ => ?_)
  refine aw_aload_n hC dL_act_217 rfl ?_
  refine aw_iload_n hC dL_act_218 rfl ?_
  refine aw_iload_n hC dL_act_219 rfl ?_
  refine aw_iload hC dL_act_220 rfl ?_
  refine aw_iload hC dL_act_222 rfl ?_
  refine kL_55 hC rfl (m_L_types h0 hM) dL_act_224 rfl a_le a_le a_le a_le a_le rfl (exx (fun E m2 T I J R hE hF hG => act_ae hC hq (by decide) (by decide) (by decide) a_le a_le hE hF hG)) (exk (fun w m2 T I J R hF hG => ?_))
  show AW X 3 200 227 [some (.ref 0), some (.int 14), some (.int a), some (.int b), some (.int c), some (.int d), some (.int e), none] [.int w] T I J R
  refine aw_goto (tgt := 345) hC dL_act_227 (by decide) ?_
  exact aw_ireturn hC hq rfl dL_act_345 a_le a_le (EK.ret hF hG)
set_option maxRecDepth 100000 in
theorem m_L_act_15 {T : List aT} {I : aI} {J : aJ} {R : aR} {F : Int32 → aI → Prop} {a b c d e : Int32} {m0 : aI} (h0 : GX T I J R m0) (hM : MX11_generator 3 200 [.ref 0, .int a] T I J R (EX F)) : ML_act 3 200 [.ref 0, .int 15, .int a, .int b, .int c, .int d, .int e] T I J R (EK F) := by
  refine a_metW (by decide +kernel) a_le (fun X hC hq => ?_)
  show AW X 0 0 0 [some (.ref 0), some (.int 15), some (.int a), some (.int b), some (.int c), some (.int d), some (.int e), none] [] T I J R
  refine aw_iload_n hC dL_act_0 rfl ?_
  refine aw_if_ne (tgt := 19) hC dL_act_1 (by decide) (fun _ => ?_) (fun z9 => absurd z9 (by decide))
  refine aw_iload_n hC dL_act_19 rfl ?_
  refine aw_iconst (v := 1) hC dL_act_20 (by decide) ?_
  refine aw_icmp_ne (tgt := 39) hC dL_act_21 (by decide) (fun _ => ?_) (fun z9 => absurd z9 (by decide))
  refine aw_iload_n hC dL_act_39 rfl ?_
  refine aw_iconst (v := 2) hC dL_act_40 (by decide) ?_
  refine aw_icmp_ne (tgt := 52) hC dL_act_41 (by decide) (fun _ => ?_) (fun z9 => absurd z9 (by decide))
  refine aw_iload_n hC dL_act_52 rfl ?_
  refine aw_iconst (v := 3) hC dL_act_53 (by decide) ?_
  refine aw_icmp_ne (tgt := 65) hC dL_act_54 (by decide) (fun _ => ?_) (fun z9 => absurd z9 (by decide))
  refine aw_iload_n hC dL_act_65 rfl ?_
  refine aw_iconst (v := 4) hC dL_act_66 (by decide) ?_
  refine aw_icmp_ne (tgt := 79) hC dL_act_67 (by decide) (fun _ => ?_) (fun z9 => absurd z9 (by decide))
  refine aw_iload_n hC dL_act_79 rfl ?_
  refine aw_iconst (v := 5) hC dL_act_80 (by decide) ?_
  refine aw_icmp_ne (tgt := 93) hC dL_act_81 (by decide) (fun _ => ?_) (fun z9 => absurd z9 (by decide))
  refine aw_iload_n hC dL_act_93 rfl ?_
  refine aw_bipush (v := 6) hC dL_act_94 (by decide) ?_
  refine aw_icmp_ne (tgt := 110) hC dL_act_96 (by decide) (fun _ => ?_) (fun z9 => absurd z9 (by decide))
  refine aw_iload_n hC dL_act_110 rfl ?_
  refine aw_bipush (v := 7) hC dL_act_111 (by decide) ?_
  refine aw_icmp_ne (tgt := 124) hC dL_act_113 (by decide) (fun _ => ?_) (fun z9 => absurd z9 (by decide))
  refine aw_iload_n hC dL_act_124 rfl ?_
  refine aw_bipush (v := 8) hC dL_act_125 (by decide) ?_
  refine aw_icmp_ne (tgt := 138) hC dL_act_127 (by decide) (fun _ => ?_) (fun z9 => absurd z9 (by decide))
  refine aw_iload_n hC dL_act_138 rfl ?_
  refine aw_bipush (v := 9) hC dL_act_139 (by decide) ?_
  refine aw_icmp_ne (tgt := 152) hC dL_act_141 (by decide) (fun _ => ?_) (fun z9 => absurd z9 (by decide))
  refine aw_iload_n hC dL_act_152 rfl ?_
  refine aw_bipush (v := 10) hC dL_act_153 (by decide) ?_
  refine aw_icmp_ne (tgt := 166) hC dL_act_155 (by decide) (fun _ => ?_) (fun z9 => absurd z9 (by decide))
  refine aw_iload_n hC dL_act_166 rfl ?_
  refine aw_bipush (v := 11) hC dL_act_167 (by decide) ?_
  refine aw_icmp_ne (tgt := 180) hC dL_act_169 (by decide) (fun _ => ?_) (fun z9 => absurd z9 (by decide))
  refine aw_iload_n hC dL_act_180 rfl ?_
  refine aw_bipush (v := 12) hC dL_act_181 (by decide) ?_
  refine aw_icmp_ne (tgt := 197) hC dL_act_183 (by decide) (fun _ => ?_) (fun z9 => absurd z9 (by decide))
  refine aw_iload_n hC dL_act_197 rfl ?_
  refine aw_bipush (v := 13) hC dL_act_198 (by decide) ?_
  refine aw_icmp_ne (tgt := 211) hC dL_act_200 (by decide) (fun _ => ?_) (fun z9 => absurd z9 (by decide))
  refine aw_iload_n hC dL_act_211 rfl ?_
  refine aw_bipush (v := 14) hC dL_act_212 (by decide) ?_
  refine aw_icmp_ne (tgt := 230) hC dL_act_214 (by decide) (fun _ => ?_) (fun z9 => absurd z9 (by decide))
  refine aw_iload_n hC dL_act_230 rfl ?_
  refine aw_bipush (v := 15) hC dL_act_231 (by decide) ?_
  refine aw_icmp_ne (tgt := 244) hC dL_act_233 (by decide) (fun z9 => absurd z9 (by decide)) (fun _ => ?_)
  refine aw_aload_n hC dL_act_236 rfl ?_
  refine aw_iload_n hC dL_act_237 rfl ?_
  refine kL_61 hC rfl hM dL_act_238 (GX.t0 h0) rfl a_le a_le a_le a_le a_le rfl (exx (fun E m2 T I J R hE hF hG => act_ae hC hq (by decide) (by decide) (by decide) a_le a_le hE hF hG)) (exk (fun w m2 T I J R hF hG => ?_))
  show AW X 3 200 241 [some (.ref 0), some (.int 15), some (.int a), some (.int b), some (.int c), some (.int d), some (.int e), none] [.int w] T I J R
  refine aw_goto (tgt := 345) hC dL_act_241 (by decide) ?_
  exact aw_ireturn hC hq rfl dL_act_345 a_le a_le (EK.ret hF hG)
set_option maxRecDepth 100000 in
theorem m_L_act_16 {T : List aT} {I : aI} {J : aJ} {R : aR} {F : Int32 → aI → Prop} {a b c d e : Int32} {m0 : aI} (h0 : GX T I J R m0) (hM : MX11_key 3 200 [.ref 0, .int a, .int b, .int c] T I J R (EX F)) : ML_act 3 200 [.ref 0, .int 16, .int a, .int b, .int c, .int d, .int e] T I J R (EK F) := by
  refine a_metW (by decide +kernel) a_le (fun X hC hq => ?_)
  show AW X 0 0 0 [some (.ref 0), some (.int 16), some (.int a), some (.int b), some (.int c), some (.int d), some (.int e), none] [] T I J R
  refine aw_iload_n hC dL_act_0 rfl ?_
  refine aw_if_ne (tgt := 19) hC dL_act_1 (by decide) (fun _ => ?_) (fun z9 => absurd z9 (by decide))
  refine aw_iload_n hC dL_act_19 rfl ?_
  refine aw_iconst (v := 1) hC dL_act_20 (by decide) ?_
  refine aw_icmp_ne (tgt := 39) hC dL_act_21 (by decide) (fun _ => ?_) (fun z9 => absurd z9 (by decide))
  refine aw_iload_n hC dL_act_39 rfl ?_
  refine aw_iconst (v := 2) hC dL_act_40 (by decide) ?_
  refine aw_icmp_ne (tgt := 52) hC dL_act_41 (by decide) (fun _ => ?_) (fun z9 => absurd z9 (by decide))
  refine aw_iload_n hC dL_act_52 rfl ?_
  refine aw_iconst (v := 3) hC dL_act_53 (by decide) ?_
  refine aw_icmp_ne (tgt := 65) hC dL_act_54 (by decide) (fun _ => ?_) (fun z9 => absurd z9 (by decide))
  refine aw_iload_n hC dL_act_65 rfl ?_
  refine aw_iconst (v := 4) hC dL_act_66 (by decide) ?_
  refine aw_icmp_ne (tgt := 79) hC dL_act_67 (by decide) (fun _ => ?_) (fun z9 => absurd z9 (by decide))
  refine aw_iload_n hC dL_act_79 rfl ?_
  refine aw_iconst (v := 5) hC dL_act_80 (by decide) ?_
  refine aw_icmp_ne (tgt := 93) hC dL_act_81 (by decide) (fun _ => ?_) (fun z9 => absurd z9 (by decide))
  refine aw_iload_n hC dL_act_93 rfl ?_
  refine aw_bipush (v := 6) hC dL_act_94 (by decide) ?_
  refine aw_icmp_ne (tgt := 110) hC dL_act_96 (by decide) (fun _ => ?_) (fun z9 => absurd z9 (by decide))
  refine aw_iload_n hC dL_act_110 rfl ?_
  refine aw_bipush (v := 7) hC dL_act_111 (by decide) ?_
  refine aw_icmp_ne (tgt := 124) hC dL_act_113 (by decide) (fun _ => ?_) (fun z9 => absurd z9 (by decide))
  refine aw_iload_n hC dL_act_124 rfl ?_
  refine aw_bipush (v := 8) hC dL_act_125 (by decide) ?_
  refine aw_icmp_ne (tgt := 138) hC dL_act_127 (by decide) (fun _ => ?_) (fun z9 => absurd z9 (by decide))
  refine aw_iload_n hC dL_act_138 rfl ?_
  refine aw_bipush (v := 9) hC dL_act_139 (by decide) ?_
  refine aw_icmp_ne (tgt := 152) hC dL_act_141 (by decide) (fun _ => ?_) (fun z9 => absurd z9 (by decide))
  refine aw_iload_n hC dL_act_152 rfl ?_
  refine aw_bipush (v := 10) hC dL_act_153 (by decide) ?_
  refine aw_icmp_ne (tgt := 166) hC dL_act_155 (by decide) (fun _ => ?_) (fun z9 => absurd z9 (by decide))
  refine aw_iload_n hC dL_act_166 rfl ?_
  refine aw_bipush (v := 11) hC dL_act_167 (by decide) ?_
  refine aw_icmp_ne (tgt := 180) hC dL_act_169 (by decide) (fun _ => ?_) (fun z9 => absurd z9 (by decide))
  refine aw_iload_n hC dL_act_180 rfl ?_
  refine aw_bipush (v := 12) hC dL_act_181 (by decide) ?_
  refine aw_icmp_ne (tgt := 197) hC dL_act_183 (by decide) (fun _ => ?_) (fun z9 => absurd z9 (by decide))
  refine aw_iload_n hC dL_act_197 rfl ?_
  refine aw_bipush (v := 13) hC dL_act_198 (by decide) ?_
  refine aw_icmp_ne (tgt := 211) hC dL_act_200 (by decide) (fun _ => ?_) (fun z9 => absurd z9 (by decide))
  refine aw_iload_n hC dL_act_211 rfl ?_
  refine aw_bipush (v := 14) hC dL_act_212 (by decide) ?_
  refine aw_icmp_ne (tgt := 230) hC dL_act_214 (by decide) (fun _ => ?_) (fun z9 => absurd z9 (by decide))
  refine aw_iload_n hC dL_act_230 rfl ?_
  refine aw_bipush (v := 15) hC dL_act_231 (by decide) ?_
  refine aw_icmp_ne (tgt := 244) hC dL_act_233 (by decide) (fun _ => ?_) (fun z9 => absurd z9 (by decide))
  refine aw_iload_n hC dL_act_244 rfl ?_
  refine aw_bipush (v := 16) hC dL_act_245 (by decide) ?_
  refine aw_icmp_ne (tgt := 261) hC dL_act_247 (by decide) (fun z9 => absurd z9 (by decide)) (fun _ => ?_)
  refine aw_aload_n hC dL_act_250 rfl ?_
  refine aw_iload_n hC dL_act_251 rfl ?_
  refine aw_iload_n hC dL_act_252 rfl ?_
  refine aw_iload hC dL_act_253 rfl ?_
  refine kL_64 hC rfl hM dL_act_255 (GX.t0 h0) rfl a_le a_le a_le a_le a_le rfl (exx (fun E m2 T I J R hE hF hG => act_ae hC hq (by decide) (by decide) (by decide) a_le a_le hE hF hG)) (exk (fun w m2 T I J R hF hG => ?_))
  show AW X 3 200 258 [some (.ref 0), some (.int 16), some (.int a), some (.int b), some (.int c), some (.int d), some (.int e), none] [.int w] T I J R
  refine aw_goto (tgt := 345) hC dL_act_258 (by decide) ?_
  exact aw_ireturn hC hq rfl dL_act_345 a_le a_le (EK.ret hF hG)
set_option maxRecDepth 100000 in
theorem m_L_act_17 {T : List aT} {I : aI} {J : aJ} {R : aR} {F : Int32 → aI → Prop} {a b c d e : Int32} {m0 : aI} (h0 : GX T I J R m0) (hM : MX11_unkey 3 200 [.ref 0, .int a, .int b] T I J R (EX F)) : ML_act 3 200 [.ref 0, .int 17, .int a, .int b, .int c, .int d, .int e] T I J R (EK F) := by
  refine a_metW (by decide +kernel) a_le (fun X hC hq => ?_)
  show AW X 0 0 0 [some (.ref 0), some (.int 17), some (.int a), some (.int b), some (.int c), some (.int d), some (.int e), none] [] T I J R
  refine aw_iload_n hC dL_act_0 rfl ?_
  refine aw_if_ne (tgt := 19) hC dL_act_1 (by decide) (fun _ => ?_) (fun z9 => absurd z9 (by decide))
  refine aw_iload_n hC dL_act_19 rfl ?_
  refine aw_iconst (v := 1) hC dL_act_20 (by decide) ?_
  refine aw_icmp_ne (tgt := 39) hC dL_act_21 (by decide) (fun _ => ?_) (fun z9 => absurd z9 (by decide))
  refine aw_iload_n hC dL_act_39 rfl ?_
  refine aw_iconst (v := 2) hC dL_act_40 (by decide) ?_
  refine aw_icmp_ne (tgt := 52) hC dL_act_41 (by decide) (fun _ => ?_) (fun z9 => absurd z9 (by decide))
  refine aw_iload_n hC dL_act_52 rfl ?_
  refine aw_iconst (v := 3) hC dL_act_53 (by decide) ?_
  refine aw_icmp_ne (tgt := 65) hC dL_act_54 (by decide) (fun _ => ?_) (fun z9 => absurd z9 (by decide))
  refine aw_iload_n hC dL_act_65 rfl ?_
  refine aw_iconst (v := 4) hC dL_act_66 (by decide) ?_
  refine aw_icmp_ne (tgt := 79) hC dL_act_67 (by decide) (fun _ => ?_) (fun z9 => absurd z9 (by decide))
  refine aw_iload_n hC dL_act_79 rfl ?_
  refine aw_iconst (v := 5) hC dL_act_80 (by decide) ?_
  refine aw_icmp_ne (tgt := 93) hC dL_act_81 (by decide) (fun _ => ?_) (fun z9 => absurd z9 (by decide))
  refine aw_iload_n hC dL_act_93 rfl ?_
  refine aw_bipush (v := 6) hC dL_act_94 (by decide) ?_
  refine aw_icmp_ne (tgt := 110) hC dL_act_96 (by decide) (fun _ => ?_) (fun z9 => absurd z9 (by decide))
  refine aw_iload_n hC dL_act_110 rfl ?_
  refine aw_bipush (v := 7) hC dL_act_111 (by decide) ?_
  refine aw_icmp_ne (tgt := 124) hC dL_act_113 (by decide) (fun _ => ?_) (fun z9 => absurd z9 (by decide))
  refine aw_iload_n hC dL_act_124 rfl ?_
  refine aw_bipush (v := 8) hC dL_act_125 (by decide) ?_
  refine aw_icmp_ne (tgt := 138) hC dL_act_127 (by decide) (fun _ => ?_) (fun z9 => absurd z9 (by decide))
  refine aw_iload_n hC dL_act_138 rfl ?_
  refine aw_bipush (v := 9) hC dL_act_139 (by decide) ?_
  refine aw_icmp_ne (tgt := 152) hC dL_act_141 (by decide) (fun _ => ?_) (fun z9 => absurd z9 (by decide))
  refine aw_iload_n hC dL_act_152 rfl ?_
  refine aw_bipush (v := 10) hC dL_act_153 (by decide) ?_
  refine aw_icmp_ne (tgt := 166) hC dL_act_155 (by decide) (fun _ => ?_) (fun z9 => absurd z9 (by decide))
  refine aw_iload_n hC dL_act_166 rfl ?_
  refine aw_bipush (v := 11) hC dL_act_167 (by decide) ?_
  refine aw_icmp_ne (tgt := 180) hC dL_act_169 (by decide) (fun _ => ?_) (fun z9 => absurd z9 (by decide))
  refine aw_iload_n hC dL_act_180 rfl ?_
  refine aw_bipush (v := 12) hC dL_act_181 (by decide) ?_
  refine aw_icmp_ne (tgt := 197) hC dL_act_183 (by decide) (fun _ => ?_) (fun z9 => absurd z9 (by decide))
  refine aw_iload_n hC dL_act_197 rfl ?_
  refine aw_bipush (v := 13) hC dL_act_198 (by decide) ?_
  refine aw_icmp_ne (tgt := 211) hC dL_act_200 (by decide) (fun _ => ?_) (fun z9 => absurd z9 (by decide))
  refine aw_iload_n hC dL_act_211 rfl ?_
  refine aw_bipush (v := 14) hC dL_act_212 (by decide) ?_
  refine aw_icmp_ne (tgt := 230) hC dL_act_214 (by decide) (fun _ => ?_) (fun z9 => absurd z9 (by decide))
  refine aw_iload_n hC dL_act_230 rfl ?_
  refine aw_bipush (v := 15) hC dL_act_231 (by decide) ?_
  refine aw_icmp_ne (tgt := 244) hC dL_act_233 (by decide) (fun _ => ?_) (fun z9 => absurd z9 (by decide))
  refine aw_iload_n hC dL_act_244 rfl ?_
  refine aw_bipush (v := 16) hC dL_act_245 (by decide) ?_
  refine aw_icmp_ne (tgt := 261) hC dL_act_247 (by decide) (fun _ => ?_) (fun z9 => absurd z9 (by decide))
  refine aw_iload_n hC dL_act_261 rfl ?_
  refine aw_bipush (v := 17) hC dL_act_262 (by decide) ?_
  refine aw_icmp_ne (tgt := 276) hC dL_act_264 (by decide) (fun z9 => absurd z9 (by decide)) (fun _ => ?_)
  refine aw_aload_n hC dL_act_267 rfl ?_
  refine aw_iload_n hC dL_act_268 rfl ?_
  refine aw_iload_n hC dL_act_269 rfl ?_
  refine kL_67 hC rfl hM dL_act_270 (GX.t0 h0) rfl a_le a_le a_le a_le a_le rfl (exx (fun E m2 T I J R hE hF hG => act_ae hC hq (by decide) (by decide) (by decide) a_le a_le hE hF hG)) (exk (fun w m2 T I J R hF hG => ?_))
  show AW X 3 200 273 [some (.ref 0), some (.int 17), some (.int a), some (.int b), some (.int c), some (.int d), some (.int e), none] [.int w] T I J R
  refine aw_goto (tgt := 345) hC dL_act_273 (by decide) ?_
  exact aw_ireturn hC hq rfl dL_act_345 a_le a_le (EK.ret hF hG)
set_option maxRecDepth 100000 in
theorem m_L_act_18 {T : List aT} {I : aI} {J : aJ} {R : aR} {F : Int32 → aI → Prop} {a b c d e : Int32} {m0 : aI} (h0 : GX T I J R m0) (hM : MX11_bind 3 200 [.ref 0, .int a, .int b, .int c] T I J R (EX F)) : ML_act 3 200 [.ref 0, .int 18, .int a, .int b, .int c, .int d, .int e] T I J R (EK F) := by
  refine a_metW (by decide +kernel) a_le (fun X hC hq => ?_)
  show AW X 0 0 0 [some (.ref 0), some (.int 18), some (.int a), some (.int b), some (.int c), some (.int d), some (.int e), none] [] T I J R
  refine aw_iload_n hC dL_act_0 rfl ?_
  refine aw_if_ne (tgt := 19) hC dL_act_1 (by decide) (fun _ => ?_) (fun z9 => absurd z9 (by decide))
  refine aw_iload_n hC dL_act_19 rfl ?_
  refine aw_iconst (v := 1) hC dL_act_20 (by decide) ?_
  refine aw_icmp_ne (tgt := 39) hC dL_act_21 (by decide) (fun _ => ?_) (fun z9 => absurd z9 (by decide))
  refine aw_iload_n hC dL_act_39 rfl ?_
  refine aw_iconst (v := 2) hC dL_act_40 (by decide) ?_
  refine aw_icmp_ne (tgt := 52) hC dL_act_41 (by decide) (fun _ => ?_) (fun z9 => absurd z9 (by decide))
  refine aw_iload_n hC dL_act_52 rfl ?_
  refine aw_iconst (v := 3) hC dL_act_53 (by decide) ?_
  refine aw_icmp_ne (tgt := 65) hC dL_act_54 (by decide) (fun _ => ?_) (fun z9 => absurd z9 (by decide))
  refine aw_iload_n hC dL_act_65 rfl ?_
  refine aw_iconst (v := 4) hC dL_act_66 (by decide) ?_
  refine aw_icmp_ne (tgt := 79) hC dL_act_67 (by decide) (fun _ => ?_) (fun z9 => absurd z9 (by decide))
  refine aw_iload_n hC dL_act_79 rfl ?_
  refine aw_iconst (v := 5) hC dL_act_80 (by decide) ?_
  refine aw_icmp_ne (tgt := 93) hC dL_act_81 (by decide) (fun _ => ?_) (fun z9 => absurd z9 (by decide))
  refine aw_iload_n hC dL_act_93 rfl ?_
  refine aw_bipush (v := 6) hC dL_act_94 (by decide) ?_
  refine aw_icmp_ne (tgt := 110) hC dL_act_96 (by decide) (fun _ => ?_) (fun z9 => absurd z9 (by decide))
  refine aw_iload_n hC dL_act_110 rfl ?_
  refine aw_bipush (v := 7) hC dL_act_111 (by decide) ?_
  refine aw_icmp_ne (tgt := 124) hC dL_act_113 (by decide) (fun _ => ?_) (fun z9 => absurd z9 (by decide))
  refine aw_iload_n hC dL_act_124 rfl ?_
  refine aw_bipush (v := 8) hC dL_act_125 (by decide) ?_
  refine aw_icmp_ne (tgt := 138) hC dL_act_127 (by decide) (fun _ => ?_) (fun z9 => absurd z9 (by decide))
  refine aw_iload_n hC dL_act_138 rfl ?_
  refine aw_bipush (v := 9) hC dL_act_139 (by decide) ?_
  refine aw_icmp_ne (tgt := 152) hC dL_act_141 (by decide) (fun _ => ?_) (fun z9 => absurd z9 (by decide))
  refine aw_iload_n hC dL_act_152 rfl ?_
  refine aw_bipush (v := 10) hC dL_act_153 (by decide) ?_
  refine aw_icmp_ne (tgt := 166) hC dL_act_155 (by decide) (fun _ => ?_) (fun z9 => absurd z9 (by decide))
  refine aw_iload_n hC dL_act_166 rfl ?_
  refine aw_bipush (v := 11) hC dL_act_167 (by decide) ?_
  refine aw_icmp_ne (tgt := 180) hC dL_act_169 (by decide) (fun _ => ?_) (fun z9 => absurd z9 (by decide))
  refine aw_iload_n hC dL_act_180 rfl ?_
  refine aw_bipush (v := 12) hC dL_act_181 (by decide) ?_
  refine aw_icmp_ne (tgt := 197) hC dL_act_183 (by decide) (fun _ => ?_) (fun z9 => absurd z9 (by decide))
  refine aw_iload_n hC dL_act_197 rfl ?_
  refine aw_bipush (v := 13) hC dL_act_198 (by decide) ?_
  refine aw_icmp_ne (tgt := 211) hC dL_act_200 (by decide) (fun _ => ?_) (fun z9 => absurd z9 (by decide))
  refine aw_iload_n hC dL_act_211 rfl ?_
  refine aw_bipush (v := 14) hC dL_act_212 (by decide) ?_
  refine aw_icmp_ne (tgt := 230) hC dL_act_214 (by decide) (fun _ => ?_) (fun z9 => absurd z9 (by decide))
  refine aw_iload_n hC dL_act_230 rfl ?_
  refine aw_bipush (v := 15) hC dL_act_231 (by decide) ?_
  refine aw_icmp_ne (tgt := 244) hC dL_act_233 (by decide) (fun _ => ?_) (fun z9 => absurd z9 (by decide))
  refine aw_iload_n hC dL_act_244 rfl ?_
  refine aw_bipush (v := 16) hC dL_act_245 (by decide) ?_
  refine aw_icmp_ne (tgt := 261) hC dL_act_247 (by decide) (fun _ => ?_) (fun z9 => absurd z9 (by decide))
  refine aw_iload_n hC dL_act_261 rfl ?_
  refine aw_bipush (v := 17) hC dL_act_262 (by decide) ?_
  refine aw_icmp_ne (tgt := 276) hC dL_act_264 (by decide) (fun _ => ?_) (fun z9 => absurd z9 (by decide))
  refine aw_iload_n hC dL_act_276 rfl ?_
  refine aw_bipush (v := 18) hC dL_act_277 (by decide) ?_
  refine aw_icmp_ne (tgt := 293) hC dL_act_279 (by decide) (fun z9 => absurd z9 (by decide)) (fun _ => ?_)
  refine aw_aload_n hC dL_act_282 rfl ?_
  refine aw_iload_n hC dL_act_283 rfl ?_
  refine aw_iload_n hC dL_act_284 rfl ?_
  refine aw_iload hC dL_act_285 rfl ?_
  refine kL_70 hC rfl hM dL_act_287 (GX.t0 h0) rfl a_le a_le a_le a_le a_le rfl (exx (fun E m2 T I J R hE hF hG => act_ae hC hq (by decide) (by decide) (by decide) a_le a_le hE hF hG)) (exk (fun w m2 T I J R hF hG => ?_))
  show AW X 3 200 290 [some (.ref 0), some (.int 18), some (.int a), some (.int b), some (.int c), some (.int d), some (.int e), none] [.int w] T I J R
  refine aw_goto (tgt := 345) hC dL_act_290 (by decide) ?_
  exact aw_ireturn hC hq rfl dL_act_345 a_le a_le (EK.ret hF hG)
set_option maxRecDepth 100000 in
theorem m_L_act_19 {T : List aT} {I : aI} {J : aJ} {R : aR} {F : Int32 → aI → Prop} {a b c d e : Int32} {m0 : aI} (h0 : GX T I J R m0) (hM : MX11_upgrade 3 200 [.ref 0, .int a] T I J R (EX F)) : ML_act 3 200 [.ref 0, .int 19, .int a, .int b, .int c, .int d, .int e] T I J R (EK F) := by
  refine a_metW (by decide +kernel) a_le (fun X hC hq => ?_)
  show AW X 0 0 0 [some (.ref 0), some (.int 19), some (.int a), some (.int b), some (.int c), some (.int d), some (.int e), none] [] T I J R
  refine aw_iload_n hC dL_act_0 rfl ?_
  refine aw_if_ne (tgt := 19) hC dL_act_1 (by decide) (fun _ => ?_) (fun z9 => absurd z9 (by decide))
  refine aw_iload_n hC dL_act_19 rfl ?_
  refine aw_iconst (v := 1) hC dL_act_20 (by decide) ?_
  refine aw_icmp_ne (tgt := 39) hC dL_act_21 (by decide) (fun _ => ?_) (fun z9 => absurd z9 (by decide))
  refine aw_iload_n hC dL_act_39 rfl ?_
  refine aw_iconst (v := 2) hC dL_act_40 (by decide) ?_
  refine aw_icmp_ne (tgt := 52) hC dL_act_41 (by decide) (fun _ => ?_) (fun z9 => absurd z9 (by decide))
  refine aw_iload_n hC dL_act_52 rfl ?_
  refine aw_iconst (v := 3) hC dL_act_53 (by decide) ?_
  refine aw_icmp_ne (tgt := 65) hC dL_act_54 (by decide) (fun _ => ?_) (fun z9 => absurd z9 (by decide))
  refine aw_iload_n hC dL_act_65 rfl ?_
  refine aw_iconst (v := 4) hC dL_act_66 (by decide) ?_
  refine aw_icmp_ne (tgt := 79) hC dL_act_67 (by decide) (fun _ => ?_) (fun z9 => absurd z9 (by decide))
  refine aw_iload_n hC dL_act_79 rfl ?_
  refine aw_iconst (v := 5) hC dL_act_80 (by decide) ?_
  refine aw_icmp_ne (tgt := 93) hC dL_act_81 (by decide) (fun _ => ?_) (fun z9 => absurd z9 (by decide))
  refine aw_iload_n hC dL_act_93 rfl ?_
  refine aw_bipush (v := 6) hC dL_act_94 (by decide) ?_
  refine aw_icmp_ne (tgt := 110) hC dL_act_96 (by decide) (fun _ => ?_) (fun z9 => absurd z9 (by decide))
  refine aw_iload_n hC dL_act_110 rfl ?_
  refine aw_bipush (v := 7) hC dL_act_111 (by decide) ?_
  refine aw_icmp_ne (tgt := 124) hC dL_act_113 (by decide) (fun _ => ?_) (fun z9 => absurd z9 (by decide))
  refine aw_iload_n hC dL_act_124 rfl ?_
  refine aw_bipush (v := 8) hC dL_act_125 (by decide) ?_
  refine aw_icmp_ne (tgt := 138) hC dL_act_127 (by decide) (fun _ => ?_) (fun z9 => absurd z9 (by decide))
  refine aw_iload_n hC dL_act_138 rfl ?_
  refine aw_bipush (v := 9) hC dL_act_139 (by decide) ?_
  refine aw_icmp_ne (tgt := 152) hC dL_act_141 (by decide) (fun _ => ?_) (fun z9 => absurd z9 (by decide))
  refine aw_iload_n hC dL_act_152 rfl ?_
  refine aw_bipush (v := 10) hC dL_act_153 (by decide) ?_
  refine aw_icmp_ne (tgt := 166) hC dL_act_155 (by decide) (fun _ => ?_) (fun z9 => absurd z9 (by decide))
  refine aw_iload_n hC dL_act_166 rfl ?_
  refine aw_bipush (v := 11) hC dL_act_167 (by decide) ?_
  refine aw_icmp_ne (tgt := 180) hC dL_act_169 (by decide) (fun _ => ?_) (fun z9 => absurd z9 (by decide))
  refine aw_iload_n hC dL_act_180 rfl ?_
  refine aw_bipush (v := 12) hC dL_act_181 (by decide) ?_
  refine aw_icmp_ne (tgt := 197) hC dL_act_183 (by decide) (fun _ => ?_) (fun z9 => absurd z9 (by decide))
  refine aw_iload_n hC dL_act_197 rfl ?_
  refine aw_bipush (v := 13) hC dL_act_198 (by decide) ?_
  refine aw_icmp_ne (tgt := 211) hC dL_act_200 (by decide) (fun _ => ?_) (fun z9 => absurd z9 (by decide))
  refine aw_iload_n hC dL_act_211 rfl ?_
  refine aw_bipush (v := 14) hC dL_act_212 (by decide) ?_
  refine aw_icmp_ne (tgt := 230) hC dL_act_214 (by decide) (fun _ => ?_) (fun z9 => absurd z9 (by decide))
  refine aw_iload_n hC dL_act_230 rfl ?_
  refine aw_bipush (v := 15) hC dL_act_231 (by decide) ?_
  refine aw_icmp_ne (tgt := 244) hC dL_act_233 (by decide) (fun _ => ?_) (fun z9 => absurd z9 (by decide))
  refine aw_iload_n hC dL_act_244 rfl ?_
  refine aw_bipush (v := 16) hC dL_act_245 (by decide) ?_
  refine aw_icmp_ne (tgt := 261) hC dL_act_247 (by decide) (fun _ => ?_) (fun z9 => absurd z9 (by decide))
  refine aw_iload_n hC dL_act_261 rfl ?_
  refine aw_bipush (v := 17) hC dL_act_262 (by decide) ?_
  refine aw_icmp_ne (tgt := 276) hC dL_act_264 (by decide) (fun _ => ?_) (fun z9 => absurd z9 (by decide))
  refine aw_iload_n hC dL_act_276 rfl ?_
  refine aw_bipush (v := 18) hC dL_act_277 (by decide) ?_
  refine aw_icmp_ne (tgt := 293) hC dL_act_279 (by decide) (fun _ => ?_) (fun z9 => absurd z9 (by decide))
  refine aw_iload_n hC dL_act_293 rfl ?_
  refine aw_bipush (v := 19) hC dL_act_294 (by decide) ?_
  refine aw_icmp_ne (tgt := 307) hC dL_act_296 (by decide) (fun z9 => absurd z9 (by decide)) (fun _ => ?_)
  refine aw_aload_n hC dL_act_299 rfl ?_
  refine aw_iload_n hC dL_act_300 rfl ?_
  refine kL_73 hC rfl hM dL_act_301 (GX.t0 h0) rfl a_le a_le a_le a_le a_le rfl (exx (fun E m2 T I J R hE hF hG => act_ae hC hq (by decide) (by decide) (by decide) a_le a_le hE hF hG)) (exk (fun w m2 T I J R hF hG => ?_))
  show AW X 3 200 304 [some (.ref 0), some (.int 19), some (.int a), some (.int b), some (.int c), some (.int d), some (.int e), none] [.int w] T I J R
  refine aw_goto (tgt := 345) hC dL_act_304 (by decide) ?_
  exact aw_ireturn hC hq rfl dL_act_345 a_le a_le (EK.ret hF hG)
set_option maxRecDepth 100000 in
theorem m_L_act_20 {T : List aT} {I : aI} {J : aJ} {R : aR} {F : Int32 → aI → Prop} {a b c d e : Int32} {m0 : aI} (h0 : GX T I J R m0) (hM : MX11_given 3 200 [.ref 0, .int a, .int b] T I J R (EX F)) : ML_act 3 200 [.ref 0, .int 20, .int a, .int b, .int c, .int d, .int e] T I J R (EK F) := by
  refine a_metW (by decide +kernel) a_le (fun X hC hq => ?_)
  show AW X 0 0 0 [some (.ref 0), some (.int 20), some (.int a), some (.int b), some (.int c), some (.int d), some (.int e), none] [] T I J R
  refine aw_iload_n hC dL_act_0 rfl ?_
  refine aw_if_ne (tgt := 19) hC dL_act_1 (by decide) (fun _ => ?_) (fun z9 => absurd z9 (by decide))
  refine aw_iload_n hC dL_act_19 rfl ?_
  refine aw_iconst (v := 1) hC dL_act_20 (by decide) ?_
  refine aw_icmp_ne (tgt := 39) hC dL_act_21 (by decide) (fun _ => ?_) (fun z9 => absurd z9 (by decide))
  refine aw_iload_n hC dL_act_39 rfl ?_
  refine aw_iconst (v := 2) hC dL_act_40 (by decide) ?_
  refine aw_icmp_ne (tgt := 52) hC dL_act_41 (by decide) (fun _ => ?_) (fun z9 => absurd z9 (by decide))
  refine aw_iload_n hC dL_act_52 rfl ?_
  refine aw_iconst (v := 3) hC dL_act_53 (by decide) ?_
  refine aw_icmp_ne (tgt := 65) hC dL_act_54 (by decide) (fun _ => ?_) (fun z9 => absurd z9 (by decide))
  refine aw_iload_n hC dL_act_65 rfl ?_
  refine aw_iconst (v := 4) hC dL_act_66 (by decide) ?_
  refine aw_icmp_ne (tgt := 79) hC dL_act_67 (by decide) (fun _ => ?_) (fun z9 => absurd z9 (by decide))
  refine aw_iload_n hC dL_act_79 rfl ?_
  refine aw_iconst (v := 5) hC dL_act_80 (by decide) ?_
  refine aw_icmp_ne (tgt := 93) hC dL_act_81 (by decide) (fun _ => ?_) (fun z9 => absurd z9 (by decide))
  refine aw_iload_n hC dL_act_93 rfl ?_
  refine aw_bipush (v := 6) hC dL_act_94 (by decide) ?_
  refine aw_icmp_ne (tgt := 110) hC dL_act_96 (by decide) (fun _ => ?_) (fun z9 => absurd z9 (by decide))
  refine aw_iload_n hC dL_act_110 rfl ?_
  refine aw_bipush (v := 7) hC dL_act_111 (by decide) ?_
  refine aw_icmp_ne (tgt := 124) hC dL_act_113 (by decide) (fun _ => ?_) (fun z9 => absurd z9 (by decide))
  refine aw_iload_n hC dL_act_124 rfl ?_
  refine aw_bipush (v := 8) hC dL_act_125 (by decide) ?_
  refine aw_icmp_ne (tgt := 138) hC dL_act_127 (by decide) (fun _ => ?_) (fun z9 => absurd z9 (by decide))
  refine aw_iload_n hC dL_act_138 rfl ?_
  refine aw_bipush (v := 9) hC dL_act_139 (by decide) ?_
  refine aw_icmp_ne (tgt := 152) hC dL_act_141 (by decide) (fun _ => ?_) (fun z9 => absurd z9 (by decide))
  refine aw_iload_n hC dL_act_152 rfl ?_
  refine aw_bipush (v := 10) hC dL_act_153 (by decide) ?_
  refine aw_icmp_ne (tgt := 166) hC dL_act_155 (by decide) (fun _ => ?_) (fun z9 => absurd z9 (by decide))
  refine aw_iload_n hC dL_act_166 rfl ?_
  refine aw_bipush (v := 11) hC dL_act_167 (by decide) ?_
  refine aw_icmp_ne (tgt := 180) hC dL_act_169 (by decide) (fun _ => ?_) (fun z9 => absurd z9 (by decide))
  refine aw_iload_n hC dL_act_180 rfl ?_
  refine aw_bipush (v := 12) hC dL_act_181 (by decide) ?_
  refine aw_icmp_ne (tgt := 197) hC dL_act_183 (by decide) (fun _ => ?_) (fun z9 => absurd z9 (by decide))
  refine aw_iload_n hC dL_act_197 rfl ?_
  refine aw_bipush (v := 13) hC dL_act_198 (by decide) ?_
  refine aw_icmp_ne (tgt := 211) hC dL_act_200 (by decide) (fun _ => ?_) (fun z9 => absurd z9 (by decide))
  refine aw_iload_n hC dL_act_211 rfl ?_
  refine aw_bipush (v := 14) hC dL_act_212 (by decide) ?_
  refine aw_icmp_ne (tgt := 230) hC dL_act_214 (by decide) (fun _ => ?_) (fun z9 => absurd z9 (by decide))
  refine aw_iload_n hC dL_act_230 rfl ?_
  refine aw_bipush (v := 15) hC dL_act_231 (by decide) ?_
  refine aw_icmp_ne (tgt := 244) hC dL_act_233 (by decide) (fun _ => ?_) (fun z9 => absurd z9 (by decide))
  refine aw_iload_n hC dL_act_244 rfl ?_
  refine aw_bipush (v := 16) hC dL_act_245 (by decide) ?_
  refine aw_icmp_ne (tgt := 261) hC dL_act_247 (by decide) (fun _ => ?_) (fun z9 => absurd z9 (by decide))
  refine aw_iload_n hC dL_act_261 rfl ?_
  refine aw_bipush (v := 17) hC dL_act_262 (by decide) ?_
  refine aw_icmp_ne (tgt := 276) hC dL_act_264 (by decide) (fun _ => ?_) (fun z9 => absurd z9 (by decide))
  refine aw_iload_n hC dL_act_276 rfl ?_
  refine aw_bipush (v := 18) hC dL_act_277 (by decide) ?_
  refine aw_icmp_ne (tgt := 293) hC dL_act_279 (by decide) (fun _ => ?_) (fun z9 => absurd z9 (by decide))
  refine aw_iload_n hC dL_act_293 rfl ?_
  refine aw_bipush (v := 19) hC dL_act_294 (by decide) ?_
  refine aw_icmp_ne (tgt := 307) hC dL_act_296 (by decide) (fun _ => ?_) (fun z9 => absurd z9 (by decide))
  refine aw_iload_n hC dL_act_307 rfl ?_
  refine aw_bipush (v := 20) hC dL_act_308 (by decide) ?_
  refine aw_icmp_ne (tgt := 322) hC dL_act_310 (by decide) (fun z9 => absurd z9 (by decide)) (fun _ => ?_)
  refine aw_aload_n hC dL_act_313 rfl ?_
  refine aw_iload_n hC dL_act_314 rfl ?_
  refine aw_iload_n hC dL_act_315 rfl ?_
  refine kL_76 hC rfl hM dL_act_316 (GX.t0 h0) rfl a_le a_le a_le a_le a_le rfl (exx (fun E m2 T I J R hE hF hG => act_ae hC hq (by decide) (by decide) (by decide) a_le a_le hE hF hG)) (exk (fun w m2 T I J R hF hG => ?_))
  show AW X 3 200 319 [some (.ref 0), some (.int 20), some (.int a), some (.int b), some (.int c), some (.int d), some (.int e), none] [.int w] T I J R
  refine aw_goto (tgt := 345) hC dL_act_319 (by decide) ?_
  exact aw_ireturn hC hq rfl dL_act_345 a_le a_le (EK.ret hF hG)
set_option maxRecDepth 100000 in
theorem m_L_act_21 {T : List aT} {I : aI} {J : aJ} {R : aR} {F : Int32 → aI → Prop} {a b c d e : Int32} {m0 : aI} (h0 : GX T I J R m0) (hM : MX11_plan 3 200 [.ref 0, .int a] T I J R (EX F)) : ML_act 3 200 [.ref 0, .int 21, .int a, .int b, .int c, .int d, .int e] T I J R (EK F) := by
  refine a_metW (by decide +kernel) a_le (fun X hC hq => ?_)
  show AW X 0 0 0 [some (.ref 0), some (.int 21), some (.int a), some (.int b), some (.int c), some (.int d), some (.int e), none] [] T I J R
  refine aw_iload_n hC dL_act_0 rfl ?_
  refine aw_if_ne (tgt := 19) hC dL_act_1 (by decide) (fun _ => ?_) (fun z9 => absurd z9 (by decide))
  refine aw_iload_n hC dL_act_19 rfl ?_
  refine aw_iconst (v := 1) hC dL_act_20 (by decide) ?_
  refine aw_icmp_ne (tgt := 39) hC dL_act_21 (by decide) (fun _ => ?_) (fun z9 => absurd z9 (by decide))
  refine aw_iload_n hC dL_act_39 rfl ?_
  refine aw_iconst (v := 2) hC dL_act_40 (by decide) ?_
  refine aw_icmp_ne (tgt := 52) hC dL_act_41 (by decide) (fun _ => ?_) (fun z9 => absurd z9 (by decide))
  refine aw_iload_n hC dL_act_52 rfl ?_
  refine aw_iconst (v := 3) hC dL_act_53 (by decide) ?_
  refine aw_icmp_ne (tgt := 65) hC dL_act_54 (by decide) (fun _ => ?_) (fun z9 => absurd z9 (by decide))
  refine aw_iload_n hC dL_act_65 rfl ?_
  refine aw_iconst (v := 4) hC dL_act_66 (by decide) ?_
  refine aw_icmp_ne (tgt := 79) hC dL_act_67 (by decide) (fun _ => ?_) (fun z9 => absurd z9 (by decide))
  refine aw_iload_n hC dL_act_79 rfl ?_
  refine aw_iconst (v := 5) hC dL_act_80 (by decide) ?_
  refine aw_icmp_ne (tgt := 93) hC dL_act_81 (by decide) (fun _ => ?_) (fun z9 => absurd z9 (by decide))
  refine aw_iload_n hC dL_act_93 rfl ?_
  refine aw_bipush (v := 6) hC dL_act_94 (by decide) ?_
  refine aw_icmp_ne (tgt := 110) hC dL_act_96 (by decide) (fun _ => ?_) (fun z9 => absurd z9 (by decide))
  refine aw_iload_n hC dL_act_110 rfl ?_
  refine aw_bipush (v := 7) hC dL_act_111 (by decide) ?_
  refine aw_icmp_ne (tgt := 124) hC dL_act_113 (by decide) (fun _ => ?_) (fun z9 => absurd z9 (by decide))
  refine aw_iload_n hC dL_act_124 rfl ?_
  refine aw_bipush (v := 8) hC dL_act_125 (by decide) ?_
  refine aw_icmp_ne (tgt := 138) hC dL_act_127 (by decide) (fun _ => ?_) (fun z9 => absurd z9 (by decide))
  refine aw_iload_n hC dL_act_138 rfl ?_
  refine aw_bipush (v := 9) hC dL_act_139 (by decide) ?_
  refine aw_icmp_ne (tgt := 152) hC dL_act_141 (by decide) (fun _ => ?_) (fun z9 => absurd z9 (by decide))
  refine aw_iload_n hC dL_act_152 rfl ?_
  refine aw_bipush (v := 10) hC dL_act_153 (by decide) ?_
  refine aw_icmp_ne (tgt := 166) hC dL_act_155 (by decide) (fun _ => ?_) (fun z9 => absurd z9 (by decide))
  refine aw_iload_n hC dL_act_166 rfl ?_
  refine aw_bipush (v := 11) hC dL_act_167 (by decide) ?_
  refine aw_icmp_ne (tgt := 180) hC dL_act_169 (by decide) (fun _ => ?_) (fun z9 => absurd z9 (by decide))
  refine aw_iload_n hC dL_act_180 rfl ?_
  refine aw_bipush (v := 12) hC dL_act_181 (by decide) ?_
  refine aw_icmp_ne (tgt := 197) hC dL_act_183 (by decide) (fun _ => ?_) (fun z9 => absurd z9 (by decide))
  refine aw_iload_n hC dL_act_197 rfl ?_
  refine aw_bipush (v := 13) hC dL_act_198 (by decide) ?_
  refine aw_icmp_ne (tgt := 211) hC dL_act_200 (by decide) (fun _ => ?_) (fun z9 => absurd z9 (by decide))
  refine aw_iload_n hC dL_act_211 rfl ?_
  refine aw_bipush (v := 14) hC dL_act_212 (by decide) ?_
  refine aw_icmp_ne (tgt := 230) hC dL_act_214 (by decide) (fun _ => ?_) (fun z9 => absurd z9 (by decide))
  refine aw_iload_n hC dL_act_230 rfl ?_
  refine aw_bipush (v := 15) hC dL_act_231 (by decide) ?_
  refine aw_icmp_ne (tgt := 244) hC dL_act_233 (by decide) (fun _ => ?_) (fun z9 => absurd z9 (by decide))
  refine aw_iload_n hC dL_act_244 rfl ?_
  refine aw_bipush (v := 16) hC dL_act_245 (by decide) ?_
  refine aw_icmp_ne (tgt := 261) hC dL_act_247 (by decide) (fun _ => ?_) (fun z9 => absurd z9 (by decide))
  refine aw_iload_n hC dL_act_261 rfl ?_
  refine aw_bipush (v := 17) hC dL_act_262 (by decide) ?_
  refine aw_icmp_ne (tgt := 276) hC dL_act_264 (by decide) (fun _ => ?_) (fun z9 => absurd z9 (by decide))
  refine aw_iload_n hC dL_act_276 rfl ?_
  refine aw_bipush (v := 18) hC dL_act_277 (by decide) ?_
  refine aw_icmp_ne (tgt := 293) hC dL_act_279 (by decide) (fun _ => ?_) (fun z9 => absurd z9 (by decide))
  refine aw_iload_n hC dL_act_293 rfl ?_
  refine aw_bipush (v := 19) hC dL_act_294 (by decide) ?_
  refine aw_icmp_ne (tgt := 307) hC dL_act_296 (by decide) (fun _ => ?_) (fun z9 => absurd z9 (by decide))
  refine aw_iload_n hC dL_act_307 rfl ?_
  refine aw_bipush (v := 20) hC dL_act_308 (by decide) ?_
  refine aw_icmp_ne (tgt := 322) hC dL_act_310 (by decide) (fun _ => ?_) (fun z9 => absurd z9 (by decide))
  refine aw_iload_n hC dL_act_322 rfl ?_
  refine aw_bipush (v := 21) hC dL_act_323 (by decide) ?_
  refine aw_icmp_ne (tgt := 336) hC dL_act_325 (by decide) (fun z9 => absurd z9 (by decide)) (fun _ => ?_)
  refine aw_aload_n hC dL_act_328 rfl ?_
  refine aw_iload_n hC dL_act_329 rfl ?_
  refine kL_79 hC rfl hM dL_act_330 (GX.t0 h0) rfl a_le a_le a_le a_le a_le rfl (exx (fun E m2 T I J R hE hF hG => act_ae hC hq (by decide) (by decide) (by decide) a_le a_le hE hF hG)) (exk (fun w m2 T I J R hF hG => ?_))
  show AW X 3 200 333 [some (.ref 0), some (.int 21), some (.int a), some (.int b), some (.int c), some (.int d), some (.int e), none] [.int w] T I J R
  refine aw_goto (tgt := 345) hC dL_act_333 (by decide) ?_
  exact aw_ireturn hC hq rfl dL_act_345 a_le a_le (EK.ret hF hG)
set_option maxRecDepth 100000 in
theorem m_L_act_22 {T : List aT} {I : aI} {J : aJ} {R : aR} {F : Int32 → aI → Prop} {a b c d e : Int32} {m0 : aI} (h0 : GX T I J R m0) (hM : MX11_action 3 200 [.ref 0, .int a, .int b] T I J R (EX F)) : ML_act 3 200 [.ref 0, .int 22, .int a, .int b, .int c, .int d, .int e] T I J R (EK F) := by
  refine a_metW (by decide +kernel) a_le (fun X hC hq => ?_)
  show AW X 0 0 0 [some (.ref 0), some (.int 22), some (.int a), some (.int b), some (.int c), some (.int d), some (.int e), none] [] T I J R
  refine aw_iload_n hC dL_act_0 rfl ?_
  refine aw_if_ne (tgt := 19) hC dL_act_1 (by decide) (fun _ => ?_) (fun z9 => absurd z9 (by decide))
  refine aw_iload_n hC dL_act_19 rfl ?_
  refine aw_iconst (v := 1) hC dL_act_20 (by decide) ?_
  refine aw_icmp_ne (tgt := 39) hC dL_act_21 (by decide) (fun _ => ?_) (fun z9 => absurd z9 (by decide))
  refine aw_iload_n hC dL_act_39 rfl ?_
  refine aw_iconst (v := 2) hC dL_act_40 (by decide) ?_
  refine aw_icmp_ne (tgt := 52) hC dL_act_41 (by decide) (fun _ => ?_) (fun z9 => absurd z9 (by decide))
  refine aw_iload_n hC dL_act_52 rfl ?_
  refine aw_iconst (v := 3) hC dL_act_53 (by decide) ?_
  refine aw_icmp_ne (tgt := 65) hC dL_act_54 (by decide) (fun _ => ?_) (fun z9 => absurd z9 (by decide))
  refine aw_iload_n hC dL_act_65 rfl ?_
  refine aw_iconst (v := 4) hC dL_act_66 (by decide) ?_
  refine aw_icmp_ne (tgt := 79) hC dL_act_67 (by decide) (fun _ => ?_) (fun z9 => absurd z9 (by decide))
  refine aw_iload_n hC dL_act_79 rfl ?_
  refine aw_iconst (v := 5) hC dL_act_80 (by decide) ?_
  refine aw_icmp_ne (tgt := 93) hC dL_act_81 (by decide) (fun _ => ?_) (fun z9 => absurd z9 (by decide))
  refine aw_iload_n hC dL_act_93 rfl ?_
  refine aw_bipush (v := 6) hC dL_act_94 (by decide) ?_
  refine aw_icmp_ne (tgt := 110) hC dL_act_96 (by decide) (fun _ => ?_) (fun z9 => absurd z9 (by decide))
  refine aw_iload_n hC dL_act_110 rfl ?_
  refine aw_bipush (v := 7) hC dL_act_111 (by decide) ?_
  refine aw_icmp_ne (tgt := 124) hC dL_act_113 (by decide) (fun _ => ?_) (fun z9 => absurd z9 (by decide))
  refine aw_iload_n hC dL_act_124 rfl ?_
  refine aw_bipush (v := 8) hC dL_act_125 (by decide) ?_
  refine aw_icmp_ne (tgt := 138) hC dL_act_127 (by decide) (fun _ => ?_) (fun z9 => absurd z9 (by decide))
  refine aw_iload_n hC dL_act_138 rfl ?_
  refine aw_bipush (v := 9) hC dL_act_139 (by decide) ?_
  refine aw_icmp_ne (tgt := 152) hC dL_act_141 (by decide) (fun _ => ?_) (fun z9 => absurd z9 (by decide))
  refine aw_iload_n hC dL_act_152 rfl ?_
  refine aw_bipush (v := 10) hC dL_act_153 (by decide) ?_
  refine aw_icmp_ne (tgt := 166) hC dL_act_155 (by decide) (fun _ => ?_) (fun z9 => absurd z9 (by decide))
  refine aw_iload_n hC dL_act_166 rfl ?_
  refine aw_bipush (v := 11) hC dL_act_167 (by decide) ?_
  refine aw_icmp_ne (tgt := 180) hC dL_act_169 (by decide) (fun _ => ?_) (fun z9 => absurd z9 (by decide))
  refine aw_iload_n hC dL_act_180 rfl ?_
  refine aw_bipush (v := 12) hC dL_act_181 (by decide) ?_
  refine aw_icmp_ne (tgt := 197) hC dL_act_183 (by decide) (fun _ => ?_) (fun z9 => absurd z9 (by decide))
  refine aw_iload_n hC dL_act_197 rfl ?_
  refine aw_bipush (v := 13) hC dL_act_198 (by decide) ?_
  refine aw_icmp_ne (tgt := 211) hC dL_act_200 (by decide) (fun _ => ?_) (fun z9 => absurd z9 (by decide))
  refine aw_iload_n hC dL_act_211 rfl ?_
  refine aw_bipush (v := 14) hC dL_act_212 (by decide) ?_
  refine aw_icmp_ne (tgt := 230) hC dL_act_214 (by decide) (fun _ => ?_) (fun z9 => absurd z9 (by decide))
  refine aw_iload_n hC dL_act_230 rfl ?_
  refine aw_bipush (v := 15) hC dL_act_231 (by decide) ?_
  refine aw_icmp_ne (tgt := 244) hC dL_act_233 (by decide) (fun _ => ?_) (fun z9 => absurd z9 (by decide))
  refine aw_iload_n hC dL_act_244 rfl ?_
  refine aw_bipush (v := 16) hC dL_act_245 (by decide) ?_
  refine aw_icmp_ne (tgt := 261) hC dL_act_247 (by decide) (fun _ => ?_) (fun z9 => absurd z9 (by decide))
  refine aw_iload_n hC dL_act_261 rfl ?_
  refine aw_bipush (v := 17) hC dL_act_262 (by decide) ?_
  refine aw_icmp_ne (tgt := 276) hC dL_act_264 (by decide) (fun _ => ?_) (fun z9 => absurd z9 (by decide))
  refine aw_iload_n hC dL_act_276 rfl ?_
  refine aw_bipush (v := 18) hC dL_act_277 (by decide) ?_
  refine aw_icmp_ne (tgt := 293) hC dL_act_279 (by decide) (fun _ => ?_) (fun z9 => absurd z9 (by decide))
  refine aw_iload_n hC dL_act_293 rfl ?_
  refine aw_bipush (v := 19) hC dL_act_294 (by decide) ?_
  refine aw_icmp_ne (tgt := 307) hC dL_act_296 (by decide) (fun _ => ?_) (fun z9 => absurd z9 (by decide))
  refine aw_iload_n hC dL_act_307 rfl ?_
  refine aw_bipush (v := 20) hC dL_act_308 (by decide) ?_
  refine aw_icmp_ne (tgt := 322) hC dL_act_310 (by decide) (fun _ => ?_) (fun z9 => absurd z9 (by decide))
  refine aw_iload_n hC dL_act_322 rfl ?_
  refine aw_bipush (v := 21) hC dL_act_323 (by decide) ?_
  refine aw_icmp_ne (tgt := 336) hC dL_act_325 (by decide) (fun _ => ?_) (fun z9 => absurd z9 (by decide))
  refine aw_aload_n hC dL_act_336 rfl ?_
  refine aw_iload_n hC dL_act_337 rfl ?_
  refine aw_iload_n hC dL_act_338 rfl ?_
  refine aw_iload_n hC dL_act_339 rfl ?_
  refine aw_iload hC dL_act_340 rfl ?_
  refine kL_82 hC rfl (m_L_more_22 h0 hM) dL_act_342 rfl a_le a_le a_le a_le a_le rfl (exx (fun E m2 T I J R hE hF hG => act_ae hC hq (by decide) (by decide) (by decide) a_le a_le hE hF hG)) (exk (fun w m2 T I J R hF hG => ?_))
  show AW X 3 200 345 [some (.ref 0), some (.int 22), some (.int a), some (.int b), some (.int c), some (.int d), some (.int e), none] [.int w] T I J R
  exact aw_ireturn hC hq rfl dL_act_345 a_le a_le (EK.ret hF hG)
set_option maxRecDepth 100000 in
theorem m_L_act_23 {T : List aT} {I : aI} {J : aJ} {R : aR} {F : Int32 → aI → Prop} {a b c d e : Int32} {m0 : aI} (h0 : GX T I J R m0) (hM : MX11_approve 3 200 [.ref 0, .int a, .int b] T I J R (EB F)) : ML_act 3 200 [.ref 0, .int 23, .int a, .int b, .int c, .int d, .int e] T I J R (EK F) := by
  refine a_metW (by decide +kernel) a_le (fun X hC hq => ?_)
  show AW X 0 0 0 [some (.ref 0), some (.int 23), some (.int a), some (.int b), some (.int c), some (.int d), some (.int e), none] [] T I J R
  refine aw_iload_n hC dL_act_0 rfl ?_
  refine aw_if_ne (tgt := 19) hC dL_act_1 (by decide) (fun _ => ?_) (fun z9 => absurd z9 (by decide))
  refine aw_iload_n hC dL_act_19 rfl ?_
  refine aw_iconst (v := 1) hC dL_act_20 (by decide) ?_
  refine aw_icmp_ne (tgt := 39) hC dL_act_21 (by decide) (fun _ => ?_) (fun z9 => absurd z9 (by decide))
  refine aw_iload_n hC dL_act_39 rfl ?_
  refine aw_iconst (v := 2) hC dL_act_40 (by decide) ?_
  refine aw_icmp_ne (tgt := 52) hC dL_act_41 (by decide) (fun _ => ?_) (fun z9 => absurd z9 (by decide))
  refine aw_iload_n hC dL_act_52 rfl ?_
  refine aw_iconst (v := 3) hC dL_act_53 (by decide) ?_
  refine aw_icmp_ne (tgt := 65) hC dL_act_54 (by decide) (fun _ => ?_) (fun z9 => absurd z9 (by decide))
  refine aw_iload_n hC dL_act_65 rfl ?_
  refine aw_iconst (v := 4) hC dL_act_66 (by decide) ?_
  refine aw_icmp_ne (tgt := 79) hC dL_act_67 (by decide) (fun _ => ?_) (fun z9 => absurd z9 (by decide))
  refine aw_iload_n hC dL_act_79 rfl ?_
  refine aw_iconst (v := 5) hC dL_act_80 (by decide) ?_
  refine aw_icmp_ne (tgt := 93) hC dL_act_81 (by decide) (fun _ => ?_) (fun z9 => absurd z9 (by decide))
  refine aw_iload_n hC dL_act_93 rfl ?_
  refine aw_bipush (v := 6) hC dL_act_94 (by decide) ?_
  refine aw_icmp_ne (tgt := 110) hC dL_act_96 (by decide) (fun _ => ?_) (fun z9 => absurd z9 (by decide))
  refine aw_iload_n hC dL_act_110 rfl ?_
  refine aw_bipush (v := 7) hC dL_act_111 (by decide) ?_
  refine aw_icmp_ne (tgt := 124) hC dL_act_113 (by decide) (fun _ => ?_) (fun z9 => absurd z9 (by decide))
  refine aw_iload_n hC dL_act_124 rfl ?_
  refine aw_bipush (v := 8) hC dL_act_125 (by decide) ?_
  refine aw_icmp_ne (tgt := 138) hC dL_act_127 (by decide) (fun _ => ?_) (fun z9 => absurd z9 (by decide))
  refine aw_iload_n hC dL_act_138 rfl ?_
  refine aw_bipush (v := 9) hC dL_act_139 (by decide) ?_
  refine aw_icmp_ne (tgt := 152) hC dL_act_141 (by decide) (fun _ => ?_) (fun z9 => absurd z9 (by decide))
  refine aw_iload_n hC dL_act_152 rfl ?_
  refine aw_bipush (v := 10) hC dL_act_153 (by decide) ?_
  refine aw_icmp_ne (tgt := 166) hC dL_act_155 (by decide) (fun _ => ?_) (fun z9 => absurd z9 (by decide))
  refine aw_iload_n hC dL_act_166 rfl ?_
  refine aw_bipush (v := 11) hC dL_act_167 (by decide) ?_
  refine aw_icmp_ne (tgt := 180) hC dL_act_169 (by decide) (fun _ => ?_) (fun z9 => absurd z9 (by decide))
  refine aw_iload_n hC dL_act_180 rfl ?_
  refine aw_bipush (v := 12) hC dL_act_181 (by decide) ?_
  refine aw_icmp_ne (tgt := 197) hC dL_act_183 (by decide) (fun _ => ?_) (fun z9 => absurd z9 (by decide))
  refine aw_iload_n hC dL_act_197 rfl ?_
  refine aw_bipush (v := 13) hC dL_act_198 (by decide) ?_
  refine aw_icmp_ne (tgt := 211) hC dL_act_200 (by decide) (fun _ => ?_) (fun z9 => absurd z9 (by decide))
  refine aw_iload_n hC dL_act_211 rfl ?_
  refine aw_bipush (v := 14) hC dL_act_212 (by decide) ?_
  refine aw_icmp_ne (tgt := 230) hC dL_act_214 (by decide) (fun _ => ?_) (fun z9 => absurd z9 (by decide))
  refine aw_iload_n hC dL_act_230 rfl ?_
  refine aw_bipush (v := 15) hC dL_act_231 (by decide) ?_
  refine aw_icmp_ne (tgt := 244) hC dL_act_233 (by decide) (fun _ => ?_) (fun z9 => absurd z9 (by decide))
  refine aw_iload_n hC dL_act_244 rfl ?_
  refine aw_bipush (v := 16) hC dL_act_245 (by decide) ?_
  refine aw_icmp_ne (tgt := 261) hC dL_act_247 (by decide) (fun _ => ?_) (fun z9 => absurd z9 (by decide))
  refine aw_iload_n hC dL_act_261 rfl ?_
  refine aw_bipush (v := 17) hC dL_act_262 (by decide) ?_
  refine aw_icmp_ne (tgt := 276) hC dL_act_264 (by decide) (fun _ => ?_) (fun z9 => absurd z9 (by decide))
  refine aw_iload_n hC dL_act_276 rfl ?_
  refine aw_bipush (v := 18) hC dL_act_277 (by decide) ?_
  refine aw_icmp_ne (tgt := 293) hC dL_act_279 (by decide) (fun _ => ?_) (fun z9 => absurd z9 (by decide))
  refine aw_iload_n hC dL_act_293 rfl ?_
  refine aw_bipush (v := 19) hC dL_act_294 (by decide) ?_
  refine aw_icmp_ne (tgt := 307) hC dL_act_296 (by decide) (fun _ => ?_) (fun z9 => absurd z9 (by decide))
  refine aw_iload_n hC dL_act_307 rfl ?_
  refine aw_bipush (v := 20) hC dL_act_308 (by decide) ?_
  refine aw_icmp_ne (tgt := 322) hC dL_act_310 (by decide) (fun _ => ?_) (fun z9 => absurd z9 (by decide))
  refine aw_iload_n hC dL_act_322 rfl ?_
  refine aw_bipush (v := 21) hC dL_act_323 (by decide) ?_
  refine aw_icmp_ne (tgt := 336) hC dL_act_325 (by decide) (fun _ => ?_) (fun z9 => absurd z9 (by decide))
  refine aw_aload_n hC dL_act_336 rfl ?_
  refine aw_iload_n hC dL_act_337 rfl ?_
  refine aw_iload_n hC dL_act_338 rfl ?_
  refine aw_iload_n hC dL_act_339 rfl ?_
  refine aw_iload hC dL_act_340 rfl ?_
  refine kL_82 hC rfl (m_L_more_23 h0 hM) dL_act_342 rfl a_le a_le a_le a_le a_le rfl (exx (fun E m2 T I J R hE hF hG => act_ae hC hq (by decide) (by decide) (by decide) a_le a_le hE hF hG)) (exk (fun w m2 T I J R hF hG => ?_))
  show AW X 3 200 345 [some (.ref 0), some (.int 23), some (.int a), some (.int b), some (.int c), some (.int d), some (.int e), none] [.int w] T I J R
  exact aw_ireturn hC hq rfl dL_act_345 a_le a_le (EK.ret hF hG)
set_option maxRecDepth 100000 in
theorem m_L_act_24 {T : List aT} {I : aI} {J : aJ} {R : aR} {F : Int32 → aI → Prop} {a b c d e : Int32} {m0 : aI} (h0 : GX T I J R m0) (hM : MX11_isStale 3 200 [.ref 0, .int a] T I J R (EB F)) : ML_act 3 200 [.ref 0, .int 24, .int a, .int b, .int c, .int d, .int e] T I J R (EK F) := by
  refine a_metW (by decide +kernel) a_le (fun X hC hq => ?_)
  show AW X 0 0 0 [some (.ref 0), some (.int 24), some (.int a), some (.int b), some (.int c), some (.int d), some (.int e), none] [] T I J R
  refine aw_iload_n hC dL_act_0 rfl ?_
  refine aw_if_ne (tgt := 19) hC dL_act_1 (by decide) (fun _ => ?_) (fun z9 => absurd z9 (by decide))
  refine aw_iload_n hC dL_act_19 rfl ?_
  refine aw_iconst (v := 1) hC dL_act_20 (by decide) ?_
  refine aw_icmp_ne (tgt := 39) hC dL_act_21 (by decide) (fun _ => ?_) (fun z9 => absurd z9 (by decide))
  refine aw_iload_n hC dL_act_39 rfl ?_
  refine aw_iconst (v := 2) hC dL_act_40 (by decide) ?_
  refine aw_icmp_ne (tgt := 52) hC dL_act_41 (by decide) (fun _ => ?_) (fun z9 => absurd z9 (by decide))
  refine aw_iload_n hC dL_act_52 rfl ?_
  refine aw_iconst (v := 3) hC dL_act_53 (by decide) ?_
  refine aw_icmp_ne (tgt := 65) hC dL_act_54 (by decide) (fun _ => ?_) (fun z9 => absurd z9 (by decide))
  refine aw_iload_n hC dL_act_65 rfl ?_
  refine aw_iconst (v := 4) hC dL_act_66 (by decide) ?_
  refine aw_icmp_ne (tgt := 79) hC dL_act_67 (by decide) (fun _ => ?_) (fun z9 => absurd z9 (by decide))
  refine aw_iload_n hC dL_act_79 rfl ?_
  refine aw_iconst (v := 5) hC dL_act_80 (by decide) ?_
  refine aw_icmp_ne (tgt := 93) hC dL_act_81 (by decide) (fun _ => ?_) (fun z9 => absurd z9 (by decide))
  refine aw_iload_n hC dL_act_93 rfl ?_
  refine aw_bipush (v := 6) hC dL_act_94 (by decide) ?_
  refine aw_icmp_ne (tgt := 110) hC dL_act_96 (by decide) (fun _ => ?_) (fun z9 => absurd z9 (by decide))
  refine aw_iload_n hC dL_act_110 rfl ?_
  refine aw_bipush (v := 7) hC dL_act_111 (by decide) ?_
  refine aw_icmp_ne (tgt := 124) hC dL_act_113 (by decide) (fun _ => ?_) (fun z9 => absurd z9 (by decide))
  refine aw_iload_n hC dL_act_124 rfl ?_
  refine aw_bipush (v := 8) hC dL_act_125 (by decide) ?_
  refine aw_icmp_ne (tgt := 138) hC dL_act_127 (by decide) (fun _ => ?_) (fun z9 => absurd z9 (by decide))
  refine aw_iload_n hC dL_act_138 rfl ?_
  refine aw_bipush (v := 9) hC dL_act_139 (by decide) ?_
  refine aw_icmp_ne (tgt := 152) hC dL_act_141 (by decide) (fun _ => ?_) (fun z9 => absurd z9 (by decide))
  refine aw_iload_n hC dL_act_152 rfl ?_
  refine aw_bipush (v := 10) hC dL_act_153 (by decide) ?_
  refine aw_icmp_ne (tgt := 166) hC dL_act_155 (by decide) (fun _ => ?_) (fun z9 => absurd z9 (by decide))
  refine aw_iload_n hC dL_act_166 rfl ?_
  refine aw_bipush (v := 11) hC dL_act_167 (by decide) ?_
  refine aw_icmp_ne (tgt := 180) hC dL_act_169 (by decide) (fun _ => ?_) (fun z9 => absurd z9 (by decide))
  refine aw_iload_n hC dL_act_180 rfl ?_
  refine aw_bipush (v := 12) hC dL_act_181 (by decide) ?_
  refine aw_icmp_ne (tgt := 197) hC dL_act_183 (by decide) (fun _ => ?_) (fun z9 => absurd z9 (by decide))
  refine aw_iload_n hC dL_act_197 rfl ?_
  refine aw_bipush (v := 13) hC dL_act_198 (by decide) ?_
  refine aw_icmp_ne (tgt := 211) hC dL_act_200 (by decide) (fun _ => ?_) (fun z9 => absurd z9 (by decide))
  refine aw_iload_n hC dL_act_211 rfl ?_
  refine aw_bipush (v := 14) hC dL_act_212 (by decide) ?_
  refine aw_icmp_ne (tgt := 230) hC dL_act_214 (by decide) (fun _ => ?_) (fun z9 => absurd z9 (by decide))
  refine aw_iload_n hC dL_act_230 rfl ?_
  refine aw_bipush (v := 15) hC dL_act_231 (by decide) ?_
  refine aw_icmp_ne (tgt := 244) hC dL_act_233 (by decide) (fun _ => ?_) (fun z9 => absurd z9 (by decide))
  refine aw_iload_n hC dL_act_244 rfl ?_
  refine aw_bipush (v := 16) hC dL_act_245 (by decide) ?_
  refine aw_icmp_ne (tgt := 261) hC dL_act_247 (by decide) (fun _ => ?_) (fun z9 => absurd z9 (by decide))
  refine aw_iload_n hC dL_act_261 rfl ?_
  refine aw_bipush (v := 17) hC dL_act_262 (by decide) ?_
  refine aw_icmp_ne (tgt := 276) hC dL_act_264 (by decide) (fun _ => ?_) (fun z9 => absurd z9 (by decide))
  refine aw_iload_n hC dL_act_276 rfl ?_
  refine aw_bipush (v := 18) hC dL_act_277 (by decide) ?_
  refine aw_icmp_ne (tgt := 293) hC dL_act_279 (by decide) (fun _ => ?_) (fun z9 => absurd z9 (by decide))
  refine aw_iload_n hC dL_act_293 rfl ?_
  refine aw_bipush (v := 19) hC dL_act_294 (by decide) ?_
  refine aw_icmp_ne (tgt := 307) hC dL_act_296 (by decide) (fun _ => ?_) (fun z9 => absurd z9 (by decide))
  refine aw_iload_n hC dL_act_307 rfl ?_
  refine aw_bipush (v := 20) hC dL_act_308 (by decide) ?_
  refine aw_icmp_ne (tgt := 322) hC dL_act_310 (by decide) (fun _ => ?_) (fun z9 => absurd z9 (by decide))
  refine aw_iload_n hC dL_act_322 rfl ?_
  refine aw_bipush (v := 21) hC dL_act_323 (by decide) ?_
  refine aw_icmp_ne (tgt := 336) hC dL_act_325 (by decide) (fun _ => ?_) (fun z9 => absurd z9 (by decide))
  refine aw_aload_n hC dL_act_336 rfl ?_
  refine aw_iload_n hC dL_act_337 rfl ?_
  refine aw_iload_n hC dL_act_338 rfl ?_
  refine aw_iload_n hC dL_act_339 rfl ?_
  refine aw_iload hC dL_act_340 rfl ?_
  refine kL_82 hC rfl (m_L_more_24 h0 hM) dL_act_342 rfl a_le a_le a_le a_le a_le rfl (exx (fun E m2 T I J R hE hF hG => act_ae hC hq (by decide) (by decide) (by decide) a_le a_le hE hF hG)) (exk (fun w m2 T I J R hF hG => ?_))
  show AW X 3 200 345 [some (.ref 0), some (.int 24), some (.int a), some (.int b), some (.int c), some (.int d), some (.int e), none] [.int w] T I J R
  exact aw_ireturn hC hq rfl dL_act_345 a_le a_le (EK.ret hF hG)
set_option maxRecDepth 100000 in
theorem m_L_act_25 {T : List aT} {I : aI} {J : aJ} {R : aR} {F : Int32 → aI → Prop} {a b c d e : Int32} {m0 : aI} (h0 : GX T I J R m0) (hM : MX11_rebase 3 200 [.ref 0, .int a] T I J R (EB F)) : ML_act 3 200 [.ref 0, .int 25, .int a, .int b, .int c, .int d, .int e] T I J R (EK F) := by
  refine a_metW (by decide +kernel) a_le (fun X hC hq => ?_)
  show AW X 0 0 0 [some (.ref 0), some (.int 25), some (.int a), some (.int b), some (.int c), some (.int d), some (.int e), none] [] T I J R
  refine aw_iload_n hC dL_act_0 rfl ?_
  refine aw_if_ne (tgt := 19) hC dL_act_1 (by decide) (fun _ => ?_) (fun z9 => absurd z9 (by decide))
  refine aw_iload_n hC dL_act_19 rfl ?_
  refine aw_iconst (v := 1) hC dL_act_20 (by decide) ?_
  refine aw_icmp_ne (tgt := 39) hC dL_act_21 (by decide) (fun _ => ?_) (fun z9 => absurd z9 (by decide))
  refine aw_iload_n hC dL_act_39 rfl ?_
  refine aw_iconst (v := 2) hC dL_act_40 (by decide) ?_
  refine aw_icmp_ne (tgt := 52) hC dL_act_41 (by decide) (fun _ => ?_) (fun z9 => absurd z9 (by decide))
  refine aw_iload_n hC dL_act_52 rfl ?_
  refine aw_iconst (v := 3) hC dL_act_53 (by decide) ?_
  refine aw_icmp_ne (tgt := 65) hC dL_act_54 (by decide) (fun _ => ?_) (fun z9 => absurd z9 (by decide))
  refine aw_iload_n hC dL_act_65 rfl ?_
  refine aw_iconst (v := 4) hC dL_act_66 (by decide) ?_
  refine aw_icmp_ne (tgt := 79) hC dL_act_67 (by decide) (fun _ => ?_) (fun z9 => absurd z9 (by decide))
  refine aw_iload_n hC dL_act_79 rfl ?_
  refine aw_iconst (v := 5) hC dL_act_80 (by decide) ?_
  refine aw_icmp_ne (tgt := 93) hC dL_act_81 (by decide) (fun _ => ?_) (fun z9 => absurd z9 (by decide))
  refine aw_iload_n hC dL_act_93 rfl ?_
  refine aw_bipush (v := 6) hC dL_act_94 (by decide) ?_
  refine aw_icmp_ne (tgt := 110) hC dL_act_96 (by decide) (fun _ => ?_) (fun z9 => absurd z9 (by decide))
  refine aw_iload_n hC dL_act_110 rfl ?_
  refine aw_bipush (v := 7) hC dL_act_111 (by decide) ?_
  refine aw_icmp_ne (tgt := 124) hC dL_act_113 (by decide) (fun _ => ?_) (fun z9 => absurd z9 (by decide))
  refine aw_iload_n hC dL_act_124 rfl ?_
  refine aw_bipush (v := 8) hC dL_act_125 (by decide) ?_
  refine aw_icmp_ne (tgt := 138) hC dL_act_127 (by decide) (fun _ => ?_) (fun z9 => absurd z9 (by decide))
  refine aw_iload_n hC dL_act_138 rfl ?_
  refine aw_bipush (v := 9) hC dL_act_139 (by decide) ?_
  refine aw_icmp_ne (tgt := 152) hC dL_act_141 (by decide) (fun _ => ?_) (fun z9 => absurd z9 (by decide))
  refine aw_iload_n hC dL_act_152 rfl ?_
  refine aw_bipush (v := 10) hC dL_act_153 (by decide) ?_
  refine aw_icmp_ne (tgt := 166) hC dL_act_155 (by decide) (fun _ => ?_) (fun z9 => absurd z9 (by decide))
  refine aw_iload_n hC dL_act_166 rfl ?_
  refine aw_bipush (v := 11) hC dL_act_167 (by decide) ?_
  refine aw_icmp_ne (tgt := 180) hC dL_act_169 (by decide) (fun _ => ?_) (fun z9 => absurd z9 (by decide))
  refine aw_iload_n hC dL_act_180 rfl ?_
  refine aw_bipush (v := 12) hC dL_act_181 (by decide) ?_
  refine aw_icmp_ne (tgt := 197) hC dL_act_183 (by decide) (fun _ => ?_) (fun z9 => absurd z9 (by decide))
  refine aw_iload_n hC dL_act_197 rfl ?_
  refine aw_bipush (v := 13) hC dL_act_198 (by decide) ?_
  refine aw_icmp_ne (tgt := 211) hC dL_act_200 (by decide) (fun _ => ?_) (fun z9 => absurd z9 (by decide))
  refine aw_iload_n hC dL_act_211 rfl ?_
  refine aw_bipush (v := 14) hC dL_act_212 (by decide) ?_
  refine aw_icmp_ne (tgt := 230) hC dL_act_214 (by decide) (fun _ => ?_) (fun z9 => absurd z9 (by decide))
  refine aw_iload_n hC dL_act_230 rfl ?_
  refine aw_bipush (v := 15) hC dL_act_231 (by decide) ?_
  refine aw_icmp_ne (tgt := 244) hC dL_act_233 (by decide) (fun _ => ?_) (fun z9 => absurd z9 (by decide))
  refine aw_iload_n hC dL_act_244 rfl ?_
  refine aw_bipush (v := 16) hC dL_act_245 (by decide) ?_
  refine aw_icmp_ne (tgt := 261) hC dL_act_247 (by decide) (fun _ => ?_) (fun z9 => absurd z9 (by decide))
  refine aw_iload_n hC dL_act_261 rfl ?_
  refine aw_bipush (v := 17) hC dL_act_262 (by decide) ?_
  refine aw_icmp_ne (tgt := 276) hC dL_act_264 (by decide) (fun _ => ?_) (fun z9 => absurd z9 (by decide))
  refine aw_iload_n hC dL_act_276 rfl ?_
  refine aw_bipush (v := 18) hC dL_act_277 (by decide) ?_
  refine aw_icmp_ne (tgt := 293) hC dL_act_279 (by decide) (fun _ => ?_) (fun z9 => absurd z9 (by decide))
  refine aw_iload_n hC dL_act_293 rfl ?_
  refine aw_bipush (v := 19) hC dL_act_294 (by decide) ?_
  refine aw_icmp_ne (tgt := 307) hC dL_act_296 (by decide) (fun _ => ?_) (fun z9 => absurd z9 (by decide))
  refine aw_iload_n hC dL_act_307 rfl ?_
  refine aw_bipush (v := 20) hC dL_act_308 (by decide) ?_
  refine aw_icmp_ne (tgt := 322) hC dL_act_310 (by decide) (fun _ => ?_) (fun z9 => absurd z9 (by decide))
  refine aw_iload_n hC dL_act_322 rfl ?_
  refine aw_bipush (v := 21) hC dL_act_323 (by decide) ?_
  refine aw_icmp_ne (tgt := 336) hC dL_act_325 (by decide) (fun _ => ?_) (fun z9 => absurd z9 (by decide))
  refine aw_aload_n hC dL_act_336 rfl ?_
  refine aw_iload_n hC dL_act_337 rfl ?_
  refine aw_iload_n hC dL_act_338 rfl ?_
  refine aw_iload_n hC dL_act_339 rfl ?_
  refine aw_iload hC dL_act_340 rfl ?_
  refine kL_82 hC rfl (m_L_more_25 h0 hM) dL_act_342 rfl a_le a_le a_le a_le a_le rfl (exx (fun E m2 T I J R hE hF hG => act_ae hC hq (by decide) (by decide) (by decide) a_le a_le hE hF hG)) (exk (fun w m2 T I J R hF hG => ?_))
  show AW X 3 200 345 [some (.ref 0), some (.int 25), some (.int a), some (.int b), some (.int c), some (.int d), some (.int e), none] [.int w] T I J R
  exact aw_ireturn hC hq rfl dL_act_345 a_le a_le (EK.ret hF hG)
set_option maxRecDepth 100000 in
theorem m_L_act_26 {T : List aT} {I : aI} {J : aJ} {R : aR} {F : Int32 → aI → Prop} {a b c d e : Int32} {m0 : aI} (h0 : GX T I J R m0) (hM : MX11_apply 3 200 [.ref 0, .int a] T I J R (EX F)) : ML_act 3 200 [.ref 0, .int 26, .int a, .int b, .int c, .int d, .int e] T I J R (EK F) := by
  refine a_metW (by decide +kernel) a_le (fun X hC hq => ?_)
  show AW X 0 0 0 [some (.ref 0), some (.int 26), some (.int a), some (.int b), some (.int c), some (.int d), some (.int e), none] [] T I J R
  refine aw_iload_n hC dL_act_0 rfl ?_
  refine aw_if_ne (tgt := 19) hC dL_act_1 (by decide) (fun _ => ?_) (fun z9 => absurd z9 (by decide))
  refine aw_iload_n hC dL_act_19 rfl ?_
  refine aw_iconst (v := 1) hC dL_act_20 (by decide) ?_
  refine aw_icmp_ne (tgt := 39) hC dL_act_21 (by decide) (fun _ => ?_) (fun z9 => absurd z9 (by decide))
  refine aw_iload_n hC dL_act_39 rfl ?_
  refine aw_iconst (v := 2) hC dL_act_40 (by decide) ?_
  refine aw_icmp_ne (tgt := 52) hC dL_act_41 (by decide) (fun _ => ?_) (fun z9 => absurd z9 (by decide))
  refine aw_iload_n hC dL_act_52 rfl ?_
  refine aw_iconst (v := 3) hC dL_act_53 (by decide) ?_
  refine aw_icmp_ne (tgt := 65) hC dL_act_54 (by decide) (fun _ => ?_) (fun z9 => absurd z9 (by decide))
  refine aw_iload_n hC dL_act_65 rfl ?_
  refine aw_iconst (v := 4) hC dL_act_66 (by decide) ?_
  refine aw_icmp_ne (tgt := 79) hC dL_act_67 (by decide) (fun _ => ?_) (fun z9 => absurd z9 (by decide))
  refine aw_iload_n hC dL_act_79 rfl ?_
  refine aw_iconst (v := 5) hC dL_act_80 (by decide) ?_
  refine aw_icmp_ne (tgt := 93) hC dL_act_81 (by decide) (fun _ => ?_) (fun z9 => absurd z9 (by decide))
  refine aw_iload_n hC dL_act_93 rfl ?_
  refine aw_bipush (v := 6) hC dL_act_94 (by decide) ?_
  refine aw_icmp_ne (tgt := 110) hC dL_act_96 (by decide) (fun _ => ?_) (fun z9 => absurd z9 (by decide))
  refine aw_iload_n hC dL_act_110 rfl ?_
  refine aw_bipush (v := 7) hC dL_act_111 (by decide) ?_
  refine aw_icmp_ne (tgt := 124) hC dL_act_113 (by decide) (fun _ => ?_) (fun z9 => absurd z9 (by decide))
  refine aw_iload_n hC dL_act_124 rfl ?_
  refine aw_bipush (v := 8) hC dL_act_125 (by decide) ?_
  refine aw_icmp_ne (tgt := 138) hC dL_act_127 (by decide) (fun _ => ?_) (fun z9 => absurd z9 (by decide))
  refine aw_iload_n hC dL_act_138 rfl ?_
  refine aw_bipush (v := 9) hC dL_act_139 (by decide) ?_
  refine aw_icmp_ne (tgt := 152) hC dL_act_141 (by decide) (fun _ => ?_) (fun z9 => absurd z9 (by decide))
  refine aw_iload_n hC dL_act_152 rfl ?_
  refine aw_bipush (v := 10) hC dL_act_153 (by decide) ?_
  refine aw_icmp_ne (tgt := 166) hC dL_act_155 (by decide) (fun _ => ?_) (fun z9 => absurd z9 (by decide))
  refine aw_iload_n hC dL_act_166 rfl ?_
  refine aw_bipush (v := 11) hC dL_act_167 (by decide) ?_
  refine aw_icmp_ne (tgt := 180) hC dL_act_169 (by decide) (fun _ => ?_) (fun z9 => absurd z9 (by decide))
  refine aw_iload_n hC dL_act_180 rfl ?_
  refine aw_bipush (v := 12) hC dL_act_181 (by decide) ?_
  refine aw_icmp_ne (tgt := 197) hC dL_act_183 (by decide) (fun _ => ?_) (fun z9 => absurd z9 (by decide))
  refine aw_iload_n hC dL_act_197 rfl ?_
  refine aw_bipush (v := 13) hC dL_act_198 (by decide) ?_
  refine aw_icmp_ne (tgt := 211) hC dL_act_200 (by decide) (fun _ => ?_) (fun z9 => absurd z9 (by decide))
  refine aw_iload_n hC dL_act_211 rfl ?_
  refine aw_bipush (v := 14) hC dL_act_212 (by decide) ?_
  refine aw_icmp_ne (tgt := 230) hC dL_act_214 (by decide) (fun _ => ?_) (fun z9 => absurd z9 (by decide))
  refine aw_iload_n hC dL_act_230 rfl ?_
  refine aw_bipush (v := 15) hC dL_act_231 (by decide) ?_
  refine aw_icmp_ne (tgt := 244) hC dL_act_233 (by decide) (fun _ => ?_) (fun z9 => absurd z9 (by decide))
  refine aw_iload_n hC dL_act_244 rfl ?_
  refine aw_bipush (v := 16) hC dL_act_245 (by decide) ?_
  refine aw_icmp_ne (tgt := 261) hC dL_act_247 (by decide) (fun _ => ?_) (fun z9 => absurd z9 (by decide))
  refine aw_iload_n hC dL_act_261 rfl ?_
  refine aw_bipush (v := 17) hC dL_act_262 (by decide) ?_
  refine aw_icmp_ne (tgt := 276) hC dL_act_264 (by decide) (fun _ => ?_) (fun z9 => absurd z9 (by decide))
  refine aw_iload_n hC dL_act_276 rfl ?_
  refine aw_bipush (v := 18) hC dL_act_277 (by decide) ?_
  refine aw_icmp_ne (tgt := 293) hC dL_act_279 (by decide) (fun _ => ?_) (fun z9 => absurd z9 (by decide))
  refine aw_iload_n hC dL_act_293 rfl ?_
  refine aw_bipush (v := 19) hC dL_act_294 (by decide) ?_
  refine aw_icmp_ne (tgt := 307) hC dL_act_296 (by decide) (fun _ => ?_) (fun z9 => absurd z9 (by decide))
  refine aw_iload_n hC dL_act_307 rfl ?_
  refine aw_bipush (v := 20) hC dL_act_308 (by decide) ?_
  refine aw_icmp_ne (tgt := 322) hC dL_act_310 (by decide) (fun _ => ?_) (fun z9 => absurd z9 (by decide))
  refine aw_iload_n hC dL_act_322 rfl ?_
  refine aw_bipush (v := 21) hC dL_act_323 (by decide) ?_
  refine aw_icmp_ne (tgt := 336) hC dL_act_325 (by decide) (fun _ => ?_) (fun z9 => absurd z9 (by decide))
  refine aw_aload_n hC dL_act_336 rfl ?_
  refine aw_iload_n hC dL_act_337 rfl ?_
  refine aw_iload_n hC dL_act_338 rfl ?_
  refine aw_iload_n hC dL_act_339 rfl ?_
  refine aw_iload hC dL_act_340 rfl ?_
  refine kL_82 hC rfl (m_L_more_26 h0 hM) dL_act_342 rfl a_le a_le a_le a_le a_le rfl (exx (fun E m2 T I J R hE hF hG => act_ae hC hq (by decide) (by decide) (by decide) a_le a_le hE hF hG)) (exk (fun w m2 T I J R hF hG => ?_))
  show AW X 3 200 345 [some (.ref 0), some (.int 26), some (.int a), some (.int b), some (.int c), some (.int d), some (.int e), none] [.int w] T I J R
  exact aw_ireturn hC hq rfl dL_act_345 a_le a_le (EK.ret hF hG)
set_option maxRecDepth 100000 in
theorem m_L_act_27 {T : List aT} {I : aI} {J : aJ} {R : aR} {F : Int32 → aI → Prop} {a b c d e : Int32} {m0 : aI} (h0 : GX T I J R m0) (hM : MX11_step 3 200 [.ref 0, .int a] T I J R (EX F)) : ML_act 3 200 [.ref 0, .int 27, .int a, .int b, .int c, .int d, .int e] T I J R (EK F) := by
  refine a_metW (by decide +kernel) a_le (fun X hC hq => ?_)
  show AW X 0 0 0 [some (.ref 0), some (.int 27), some (.int a), some (.int b), some (.int c), some (.int d), some (.int e), none] [] T I J R
  refine aw_iload_n hC dL_act_0 rfl ?_
  refine aw_if_ne (tgt := 19) hC dL_act_1 (by decide) (fun _ => ?_) (fun z9 => absurd z9 (by decide))
  refine aw_iload_n hC dL_act_19 rfl ?_
  refine aw_iconst (v := 1) hC dL_act_20 (by decide) ?_
  refine aw_icmp_ne (tgt := 39) hC dL_act_21 (by decide) (fun _ => ?_) (fun z9 => absurd z9 (by decide))
  refine aw_iload_n hC dL_act_39 rfl ?_
  refine aw_iconst (v := 2) hC dL_act_40 (by decide) ?_
  refine aw_icmp_ne (tgt := 52) hC dL_act_41 (by decide) (fun _ => ?_) (fun z9 => absurd z9 (by decide))
  refine aw_iload_n hC dL_act_52 rfl ?_
  refine aw_iconst (v := 3) hC dL_act_53 (by decide) ?_
  refine aw_icmp_ne (tgt := 65) hC dL_act_54 (by decide) (fun _ => ?_) (fun z9 => absurd z9 (by decide))
  refine aw_iload_n hC dL_act_65 rfl ?_
  refine aw_iconst (v := 4) hC dL_act_66 (by decide) ?_
  refine aw_icmp_ne (tgt := 79) hC dL_act_67 (by decide) (fun _ => ?_) (fun z9 => absurd z9 (by decide))
  refine aw_iload_n hC dL_act_79 rfl ?_
  refine aw_iconst (v := 5) hC dL_act_80 (by decide) ?_
  refine aw_icmp_ne (tgt := 93) hC dL_act_81 (by decide) (fun _ => ?_) (fun z9 => absurd z9 (by decide))
  refine aw_iload_n hC dL_act_93 rfl ?_
  refine aw_bipush (v := 6) hC dL_act_94 (by decide) ?_
  refine aw_icmp_ne (tgt := 110) hC dL_act_96 (by decide) (fun _ => ?_) (fun z9 => absurd z9 (by decide))
  refine aw_iload_n hC dL_act_110 rfl ?_
  refine aw_bipush (v := 7) hC dL_act_111 (by decide) ?_
  refine aw_icmp_ne (tgt := 124) hC dL_act_113 (by decide) (fun _ => ?_) (fun z9 => absurd z9 (by decide))
  refine aw_iload_n hC dL_act_124 rfl ?_
  refine aw_bipush (v := 8) hC dL_act_125 (by decide) ?_
  refine aw_icmp_ne (tgt := 138) hC dL_act_127 (by decide) (fun _ => ?_) (fun z9 => absurd z9 (by decide))
  refine aw_iload_n hC dL_act_138 rfl ?_
  refine aw_bipush (v := 9) hC dL_act_139 (by decide) ?_
  refine aw_icmp_ne (tgt := 152) hC dL_act_141 (by decide) (fun _ => ?_) (fun z9 => absurd z9 (by decide))
  refine aw_iload_n hC dL_act_152 rfl ?_
  refine aw_bipush (v := 10) hC dL_act_153 (by decide) ?_
  refine aw_icmp_ne (tgt := 166) hC dL_act_155 (by decide) (fun _ => ?_) (fun z9 => absurd z9 (by decide))
  refine aw_iload_n hC dL_act_166 rfl ?_
  refine aw_bipush (v := 11) hC dL_act_167 (by decide) ?_
  refine aw_icmp_ne (tgt := 180) hC dL_act_169 (by decide) (fun _ => ?_) (fun z9 => absurd z9 (by decide))
  refine aw_iload_n hC dL_act_180 rfl ?_
  refine aw_bipush (v := 12) hC dL_act_181 (by decide) ?_
  refine aw_icmp_ne (tgt := 197) hC dL_act_183 (by decide) (fun _ => ?_) (fun z9 => absurd z9 (by decide))
  refine aw_iload_n hC dL_act_197 rfl ?_
  refine aw_bipush (v := 13) hC dL_act_198 (by decide) ?_
  refine aw_icmp_ne (tgt := 211) hC dL_act_200 (by decide) (fun _ => ?_) (fun z9 => absurd z9 (by decide))
  refine aw_iload_n hC dL_act_211 rfl ?_
  refine aw_bipush (v := 14) hC dL_act_212 (by decide) ?_
  refine aw_icmp_ne (tgt := 230) hC dL_act_214 (by decide) (fun _ => ?_) (fun z9 => absurd z9 (by decide))
  refine aw_iload_n hC dL_act_230 rfl ?_
  refine aw_bipush (v := 15) hC dL_act_231 (by decide) ?_
  refine aw_icmp_ne (tgt := 244) hC dL_act_233 (by decide) (fun _ => ?_) (fun z9 => absurd z9 (by decide))
  refine aw_iload_n hC dL_act_244 rfl ?_
  refine aw_bipush (v := 16) hC dL_act_245 (by decide) ?_
  refine aw_icmp_ne (tgt := 261) hC dL_act_247 (by decide) (fun _ => ?_) (fun z9 => absurd z9 (by decide))
  refine aw_iload_n hC dL_act_261 rfl ?_
  refine aw_bipush (v := 17) hC dL_act_262 (by decide) ?_
  refine aw_icmp_ne (tgt := 276) hC dL_act_264 (by decide) (fun _ => ?_) (fun z9 => absurd z9 (by decide))
  refine aw_iload_n hC dL_act_276 rfl ?_
  refine aw_bipush (v := 18) hC dL_act_277 (by decide) ?_
  refine aw_icmp_ne (tgt := 293) hC dL_act_279 (by decide) (fun _ => ?_) (fun z9 => absurd z9 (by decide))
  refine aw_iload_n hC dL_act_293 rfl ?_
  refine aw_bipush (v := 19) hC dL_act_294 (by decide) ?_
  refine aw_icmp_ne (tgt := 307) hC dL_act_296 (by decide) (fun _ => ?_) (fun z9 => absurd z9 (by decide))
  refine aw_iload_n hC dL_act_307 rfl ?_
  refine aw_bipush (v := 20) hC dL_act_308 (by decide) ?_
  refine aw_icmp_ne (tgt := 322) hC dL_act_310 (by decide) (fun _ => ?_) (fun z9 => absurd z9 (by decide))
  refine aw_iload_n hC dL_act_322 rfl ?_
  refine aw_bipush (v := 21) hC dL_act_323 (by decide) ?_
  refine aw_icmp_ne (tgt := 336) hC dL_act_325 (by decide) (fun _ => ?_) (fun z9 => absurd z9 (by decide))
  refine aw_aload_n hC dL_act_336 rfl ?_
  refine aw_iload_n hC dL_act_337 rfl ?_
  refine aw_iload_n hC dL_act_338 rfl ?_
  refine aw_iload_n hC dL_act_339 rfl ?_
  refine aw_iload hC dL_act_340 rfl ?_
  refine kL_82 hC rfl (m_L_more_27 h0 hM) dL_act_342 rfl a_le a_le a_le a_le a_le rfl (exx (fun E m2 T I J R hE hF hG => act_ae hC hq (by decide) (by decide) (by decide) a_le a_le hE hF hG)) (exk (fun w m2 T I J R hF hG => ?_))
  show AW X 3 200 345 [some (.ref 0), some (.int 27), some (.int a), some (.int b), some (.int c), some (.int d), some (.int e), none] [.int w] T I J R
  exact aw_ireturn hC hq rfl dL_act_345 a_le a_le (EK.ret hF hG)
set_option maxRecDepth 100000 in
theorem m_L_act_28 {T : List aT} {I : aI} {J : aJ} {R : aR} {F : Int32 → aI → Prop} {a b c d e : Int32} {m0 : aI} (h0 : GX T I J R m0) (hM : MX11_entry 3 200 [.ref 0, .int a] T I J R (EX F)) : ML_act 3 200 [.ref 0, .int 28, .int a, .int b, .int c, .int d, .int e] T I J R (EK F) := by
  refine a_metW (by decide +kernel) a_le (fun X hC hq => ?_)
  show AW X 0 0 0 [some (.ref 0), some (.int 28), some (.int a), some (.int b), some (.int c), some (.int d), some (.int e), none] [] T I J R
  refine aw_iload_n hC dL_act_0 rfl ?_
  refine aw_if_ne (tgt := 19) hC dL_act_1 (by decide) (fun _ => ?_) (fun z9 => absurd z9 (by decide))
  refine aw_iload_n hC dL_act_19 rfl ?_
  refine aw_iconst (v := 1) hC dL_act_20 (by decide) ?_
  refine aw_icmp_ne (tgt := 39) hC dL_act_21 (by decide) (fun _ => ?_) (fun z9 => absurd z9 (by decide))
  refine aw_iload_n hC dL_act_39 rfl ?_
  refine aw_iconst (v := 2) hC dL_act_40 (by decide) ?_
  refine aw_icmp_ne (tgt := 52) hC dL_act_41 (by decide) (fun _ => ?_) (fun z9 => absurd z9 (by decide))
  refine aw_iload_n hC dL_act_52 rfl ?_
  refine aw_iconst (v := 3) hC dL_act_53 (by decide) ?_
  refine aw_icmp_ne (tgt := 65) hC dL_act_54 (by decide) (fun _ => ?_) (fun z9 => absurd z9 (by decide))
  refine aw_iload_n hC dL_act_65 rfl ?_
  refine aw_iconst (v := 4) hC dL_act_66 (by decide) ?_
  refine aw_icmp_ne (tgt := 79) hC dL_act_67 (by decide) (fun _ => ?_) (fun z9 => absurd z9 (by decide))
  refine aw_iload_n hC dL_act_79 rfl ?_
  refine aw_iconst (v := 5) hC dL_act_80 (by decide) ?_
  refine aw_icmp_ne (tgt := 93) hC dL_act_81 (by decide) (fun _ => ?_) (fun z9 => absurd z9 (by decide))
  refine aw_iload_n hC dL_act_93 rfl ?_
  refine aw_bipush (v := 6) hC dL_act_94 (by decide) ?_
  refine aw_icmp_ne (tgt := 110) hC dL_act_96 (by decide) (fun _ => ?_) (fun z9 => absurd z9 (by decide))
  refine aw_iload_n hC dL_act_110 rfl ?_
  refine aw_bipush (v := 7) hC dL_act_111 (by decide) ?_
  refine aw_icmp_ne (tgt := 124) hC dL_act_113 (by decide) (fun _ => ?_) (fun z9 => absurd z9 (by decide))
  refine aw_iload_n hC dL_act_124 rfl ?_
  refine aw_bipush (v := 8) hC dL_act_125 (by decide) ?_
  refine aw_icmp_ne (tgt := 138) hC dL_act_127 (by decide) (fun _ => ?_) (fun z9 => absurd z9 (by decide))
  refine aw_iload_n hC dL_act_138 rfl ?_
  refine aw_bipush (v := 9) hC dL_act_139 (by decide) ?_
  refine aw_icmp_ne (tgt := 152) hC dL_act_141 (by decide) (fun _ => ?_) (fun z9 => absurd z9 (by decide))
  refine aw_iload_n hC dL_act_152 rfl ?_
  refine aw_bipush (v := 10) hC dL_act_153 (by decide) ?_
  refine aw_icmp_ne (tgt := 166) hC dL_act_155 (by decide) (fun _ => ?_) (fun z9 => absurd z9 (by decide))
  refine aw_iload_n hC dL_act_166 rfl ?_
  refine aw_bipush (v := 11) hC dL_act_167 (by decide) ?_
  refine aw_icmp_ne (tgt := 180) hC dL_act_169 (by decide) (fun _ => ?_) (fun z9 => absurd z9 (by decide))
  refine aw_iload_n hC dL_act_180 rfl ?_
  refine aw_bipush (v := 12) hC dL_act_181 (by decide) ?_
  refine aw_icmp_ne (tgt := 197) hC dL_act_183 (by decide) (fun _ => ?_) (fun z9 => absurd z9 (by decide))
  refine aw_iload_n hC dL_act_197 rfl ?_
  refine aw_bipush (v := 13) hC dL_act_198 (by decide) ?_
  refine aw_icmp_ne (tgt := 211) hC dL_act_200 (by decide) (fun _ => ?_) (fun z9 => absurd z9 (by decide))
  refine aw_iload_n hC dL_act_211 rfl ?_
  refine aw_bipush (v := 14) hC dL_act_212 (by decide) ?_
  refine aw_icmp_ne (tgt := 230) hC dL_act_214 (by decide) (fun _ => ?_) (fun z9 => absurd z9 (by decide))
  refine aw_iload_n hC dL_act_230 rfl ?_
  refine aw_bipush (v := 15) hC dL_act_231 (by decide) ?_
  refine aw_icmp_ne (tgt := 244) hC dL_act_233 (by decide) (fun _ => ?_) (fun z9 => absurd z9 (by decide))
  refine aw_iload_n hC dL_act_244 rfl ?_
  refine aw_bipush (v := 16) hC dL_act_245 (by decide) ?_
  refine aw_icmp_ne (tgt := 261) hC dL_act_247 (by decide) (fun _ => ?_) (fun z9 => absurd z9 (by decide))
  refine aw_iload_n hC dL_act_261 rfl ?_
  refine aw_bipush (v := 17) hC dL_act_262 (by decide) ?_
  refine aw_icmp_ne (tgt := 276) hC dL_act_264 (by decide) (fun _ => ?_) (fun z9 => absurd z9 (by decide))
  refine aw_iload_n hC dL_act_276 rfl ?_
  refine aw_bipush (v := 18) hC dL_act_277 (by decide) ?_
  refine aw_icmp_ne (tgt := 293) hC dL_act_279 (by decide) (fun _ => ?_) (fun z9 => absurd z9 (by decide))
  refine aw_iload_n hC dL_act_293 rfl ?_
  refine aw_bipush (v := 19) hC dL_act_294 (by decide) ?_
  refine aw_icmp_ne (tgt := 307) hC dL_act_296 (by decide) (fun _ => ?_) (fun z9 => absurd z9 (by decide))
  refine aw_iload_n hC dL_act_307 rfl ?_
  refine aw_bipush (v := 20) hC dL_act_308 (by decide) ?_
  refine aw_icmp_ne (tgt := 322) hC dL_act_310 (by decide) (fun _ => ?_) (fun z9 => absurd z9 (by decide))
  refine aw_iload_n hC dL_act_322 rfl ?_
  refine aw_bipush (v := 21) hC dL_act_323 (by decide) ?_
  refine aw_icmp_ne (tgt := 336) hC dL_act_325 (by decide) (fun _ => ?_) (fun z9 => absurd z9 (by decide))
  refine aw_aload_n hC dL_act_336 rfl ?_
  refine aw_iload_n hC dL_act_337 rfl ?_
  refine aw_iload_n hC dL_act_338 rfl ?_
  refine aw_iload_n hC dL_act_339 rfl ?_
  refine aw_iload hC dL_act_340 rfl ?_
  refine kL_82 hC rfl (m_L_more_28 h0 hM) dL_act_342 rfl a_le a_le a_le a_le a_le rfl (exx (fun E m2 T I J R hE hF hG => act_ae hC hq (by decide) (by decide) (by decide) a_le a_le hE hF hG)) (exk (fun w m2 T I J R hF hG => ?_))
  show AW X 3 200 345 [some (.ref 0), some (.int 28), some (.int a), some (.int b), some (.int c), some (.int d), some (.int e), none] [.int w] T I J R
  exact aw_ireturn hC hq rfl dL_act_345 a_le a_le (EK.ret hF hG)
set_option maxRecDepth 100000 in
theorem m_L_act_29 {T : List aT} {I : aI} {J : aJ} {R : aR} {F : Int32 → aI → Prop} {a b c d e : Int32} {m0 : aI} (h0 : GX T I J R m0) (hM : MX11_stored 3 200 [.ref 0, .int a, .int b] T I J R (EX F)) : ML_act 3 200 [.ref 0, .int 29, .int a, .int b, .int c, .int d, .int e] T I J R (EK F) := by
  refine a_metW (by decide +kernel) a_le (fun X hC hq => ?_)
  show AW X 0 0 0 [some (.ref 0), some (.int 29), some (.int a), some (.int b), some (.int c), some (.int d), some (.int e), none] [] T I J R
  refine aw_iload_n hC dL_act_0 rfl ?_
  refine aw_if_ne (tgt := 19) hC dL_act_1 (by decide) (fun _ => ?_) (fun z9 => absurd z9 (by decide))
  refine aw_iload_n hC dL_act_19 rfl ?_
  refine aw_iconst (v := 1) hC dL_act_20 (by decide) ?_
  refine aw_icmp_ne (tgt := 39) hC dL_act_21 (by decide) (fun _ => ?_) (fun z9 => absurd z9 (by decide))
  refine aw_iload_n hC dL_act_39 rfl ?_
  refine aw_iconst (v := 2) hC dL_act_40 (by decide) ?_
  refine aw_icmp_ne (tgt := 52) hC dL_act_41 (by decide) (fun _ => ?_) (fun z9 => absurd z9 (by decide))
  refine aw_iload_n hC dL_act_52 rfl ?_
  refine aw_iconst (v := 3) hC dL_act_53 (by decide) ?_
  refine aw_icmp_ne (tgt := 65) hC dL_act_54 (by decide) (fun _ => ?_) (fun z9 => absurd z9 (by decide))
  refine aw_iload_n hC dL_act_65 rfl ?_
  refine aw_iconst (v := 4) hC dL_act_66 (by decide) ?_
  refine aw_icmp_ne (tgt := 79) hC dL_act_67 (by decide) (fun _ => ?_) (fun z9 => absurd z9 (by decide))
  refine aw_iload_n hC dL_act_79 rfl ?_
  refine aw_iconst (v := 5) hC dL_act_80 (by decide) ?_
  refine aw_icmp_ne (tgt := 93) hC dL_act_81 (by decide) (fun _ => ?_) (fun z9 => absurd z9 (by decide))
  refine aw_iload_n hC dL_act_93 rfl ?_
  refine aw_bipush (v := 6) hC dL_act_94 (by decide) ?_
  refine aw_icmp_ne (tgt := 110) hC dL_act_96 (by decide) (fun _ => ?_) (fun z9 => absurd z9 (by decide))
  refine aw_iload_n hC dL_act_110 rfl ?_
  refine aw_bipush (v := 7) hC dL_act_111 (by decide) ?_
  refine aw_icmp_ne (tgt := 124) hC dL_act_113 (by decide) (fun _ => ?_) (fun z9 => absurd z9 (by decide))
  refine aw_iload_n hC dL_act_124 rfl ?_
  refine aw_bipush (v := 8) hC dL_act_125 (by decide) ?_
  refine aw_icmp_ne (tgt := 138) hC dL_act_127 (by decide) (fun _ => ?_) (fun z9 => absurd z9 (by decide))
  refine aw_iload_n hC dL_act_138 rfl ?_
  refine aw_bipush (v := 9) hC dL_act_139 (by decide) ?_
  refine aw_icmp_ne (tgt := 152) hC dL_act_141 (by decide) (fun _ => ?_) (fun z9 => absurd z9 (by decide))
  refine aw_iload_n hC dL_act_152 rfl ?_
  refine aw_bipush (v := 10) hC dL_act_153 (by decide) ?_
  refine aw_icmp_ne (tgt := 166) hC dL_act_155 (by decide) (fun _ => ?_) (fun z9 => absurd z9 (by decide))
  refine aw_iload_n hC dL_act_166 rfl ?_
  refine aw_bipush (v := 11) hC dL_act_167 (by decide) ?_
  refine aw_icmp_ne (tgt := 180) hC dL_act_169 (by decide) (fun _ => ?_) (fun z9 => absurd z9 (by decide))
  refine aw_iload_n hC dL_act_180 rfl ?_
  refine aw_bipush (v := 12) hC dL_act_181 (by decide) ?_
  refine aw_icmp_ne (tgt := 197) hC dL_act_183 (by decide) (fun _ => ?_) (fun z9 => absurd z9 (by decide))
  refine aw_iload_n hC dL_act_197 rfl ?_
  refine aw_bipush (v := 13) hC dL_act_198 (by decide) ?_
  refine aw_icmp_ne (tgt := 211) hC dL_act_200 (by decide) (fun _ => ?_) (fun z9 => absurd z9 (by decide))
  refine aw_iload_n hC dL_act_211 rfl ?_
  refine aw_bipush (v := 14) hC dL_act_212 (by decide) ?_
  refine aw_icmp_ne (tgt := 230) hC dL_act_214 (by decide) (fun _ => ?_) (fun z9 => absurd z9 (by decide))
  refine aw_iload_n hC dL_act_230 rfl ?_
  refine aw_bipush (v := 15) hC dL_act_231 (by decide) ?_
  refine aw_icmp_ne (tgt := 244) hC dL_act_233 (by decide) (fun _ => ?_) (fun z9 => absurd z9 (by decide))
  refine aw_iload_n hC dL_act_244 rfl ?_
  refine aw_bipush (v := 16) hC dL_act_245 (by decide) ?_
  refine aw_icmp_ne (tgt := 261) hC dL_act_247 (by decide) (fun _ => ?_) (fun z9 => absurd z9 (by decide))
  refine aw_iload_n hC dL_act_261 rfl ?_
  refine aw_bipush (v := 17) hC dL_act_262 (by decide) ?_
  refine aw_icmp_ne (tgt := 276) hC dL_act_264 (by decide) (fun _ => ?_) (fun z9 => absurd z9 (by decide))
  refine aw_iload_n hC dL_act_276 rfl ?_
  refine aw_bipush (v := 18) hC dL_act_277 (by decide) ?_
  refine aw_icmp_ne (tgt := 293) hC dL_act_279 (by decide) (fun _ => ?_) (fun z9 => absurd z9 (by decide))
  refine aw_iload_n hC dL_act_293 rfl ?_
  refine aw_bipush (v := 19) hC dL_act_294 (by decide) ?_
  refine aw_icmp_ne (tgt := 307) hC dL_act_296 (by decide) (fun _ => ?_) (fun z9 => absurd z9 (by decide))
  refine aw_iload_n hC dL_act_307 rfl ?_
  refine aw_bipush (v := 20) hC dL_act_308 (by decide) ?_
  refine aw_icmp_ne (tgt := 322) hC dL_act_310 (by decide) (fun _ => ?_) (fun z9 => absurd z9 (by decide))
  refine aw_iload_n hC dL_act_322 rfl ?_
  refine aw_bipush (v := 21) hC dL_act_323 (by decide) ?_
  refine aw_icmp_ne (tgt := 336) hC dL_act_325 (by decide) (fun _ => ?_) (fun z9 => absurd z9 (by decide))
  refine aw_aload_n hC dL_act_336 rfl ?_
  refine aw_iload_n hC dL_act_337 rfl ?_
  refine aw_iload_n hC dL_act_338 rfl ?_
  refine aw_iload_n hC dL_act_339 rfl ?_
  refine aw_iload hC dL_act_340 rfl ?_
  refine kL_82 hC rfl (m_L_more_29 h0 hM) dL_act_342 rfl a_le a_le a_le a_le a_le rfl (exx (fun E m2 T I J R hE hF hG => act_ae hC hq (by decide) (by decide) (by decide) a_le a_le hE hF hG)) (exk (fun w m2 T I J R hF hG => ?_))
  show AW X 3 200 345 [some (.ref 0), some (.int 29), some (.int a), some (.int b), some (.int c), some (.int d), some (.int e), none] [.int w] T I J R
  exact aw_ireturn hC hq rfl dL_act_345 a_le a_le (EK.ret hF hG)
set_option maxRecDepth 100000 in
theorem m_L_act_30 {T : List aT} {I : aI} {J : aJ} {R : aR} {F : Int32 → aI → Prop} {a b c d e : Int32} {m0 : aI} (h0 : GX T I J R m0) (hM : MX11_real 3 200 [.ref 0, .int a, .int b] T I J R (EX F)) : ML_act 3 200 [.ref 0, .int 30, .int a, .int b, .int c, .int d, .int e] T I J R (EK F) := by
  refine a_metW (by decide +kernel) a_le (fun X hC hq => ?_)
  show AW X 0 0 0 [some (.ref 0), some (.int 30), some (.int a), some (.int b), some (.int c), some (.int d), some (.int e), none] [] T I J R
  refine aw_iload_n hC dL_act_0 rfl ?_
  refine aw_if_ne (tgt := 19) hC dL_act_1 (by decide) (fun _ => ?_) (fun z9 => absurd z9 (by decide))
  refine aw_iload_n hC dL_act_19 rfl ?_
  refine aw_iconst (v := 1) hC dL_act_20 (by decide) ?_
  refine aw_icmp_ne (tgt := 39) hC dL_act_21 (by decide) (fun _ => ?_) (fun z9 => absurd z9 (by decide))
  refine aw_iload_n hC dL_act_39 rfl ?_
  refine aw_iconst (v := 2) hC dL_act_40 (by decide) ?_
  refine aw_icmp_ne (tgt := 52) hC dL_act_41 (by decide) (fun _ => ?_) (fun z9 => absurd z9 (by decide))
  refine aw_iload_n hC dL_act_52 rfl ?_
  refine aw_iconst (v := 3) hC dL_act_53 (by decide) ?_
  refine aw_icmp_ne (tgt := 65) hC dL_act_54 (by decide) (fun _ => ?_) (fun z9 => absurd z9 (by decide))
  refine aw_iload_n hC dL_act_65 rfl ?_
  refine aw_iconst (v := 4) hC dL_act_66 (by decide) ?_
  refine aw_icmp_ne (tgt := 79) hC dL_act_67 (by decide) (fun _ => ?_) (fun z9 => absurd z9 (by decide))
  refine aw_iload_n hC dL_act_79 rfl ?_
  refine aw_iconst (v := 5) hC dL_act_80 (by decide) ?_
  refine aw_icmp_ne (tgt := 93) hC dL_act_81 (by decide) (fun _ => ?_) (fun z9 => absurd z9 (by decide))
  refine aw_iload_n hC dL_act_93 rfl ?_
  refine aw_bipush (v := 6) hC dL_act_94 (by decide) ?_
  refine aw_icmp_ne (tgt := 110) hC dL_act_96 (by decide) (fun _ => ?_) (fun z9 => absurd z9 (by decide))
  refine aw_iload_n hC dL_act_110 rfl ?_
  refine aw_bipush (v := 7) hC dL_act_111 (by decide) ?_
  refine aw_icmp_ne (tgt := 124) hC dL_act_113 (by decide) (fun _ => ?_) (fun z9 => absurd z9 (by decide))
  refine aw_iload_n hC dL_act_124 rfl ?_
  refine aw_bipush (v := 8) hC dL_act_125 (by decide) ?_
  refine aw_icmp_ne (tgt := 138) hC dL_act_127 (by decide) (fun _ => ?_) (fun z9 => absurd z9 (by decide))
  refine aw_iload_n hC dL_act_138 rfl ?_
  refine aw_bipush (v := 9) hC dL_act_139 (by decide) ?_
  refine aw_icmp_ne (tgt := 152) hC dL_act_141 (by decide) (fun _ => ?_) (fun z9 => absurd z9 (by decide))
  refine aw_iload_n hC dL_act_152 rfl ?_
  refine aw_bipush (v := 10) hC dL_act_153 (by decide) ?_
  refine aw_icmp_ne (tgt := 166) hC dL_act_155 (by decide) (fun _ => ?_) (fun z9 => absurd z9 (by decide))
  refine aw_iload_n hC dL_act_166 rfl ?_
  refine aw_bipush (v := 11) hC dL_act_167 (by decide) ?_
  refine aw_icmp_ne (tgt := 180) hC dL_act_169 (by decide) (fun _ => ?_) (fun z9 => absurd z9 (by decide))
  refine aw_iload_n hC dL_act_180 rfl ?_
  refine aw_bipush (v := 12) hC dL_act_181 (by decide) ?_
  refine aw_icmp_ne (tgt := 197) hC dL_act_183 (by decide) (fun _ => ?_) (fun z9 => absurd z9 (by decide))
  refine aw_iload_n hC dL_act_197 rfl ?_
  refine aw_bipush (v := 13) hC dL_act_198 (by decide) ?_
  refine aw_icmp_ne (tgt := 211) hC dL_act_200 (by decide) (fun _ => ?_) (fun z9 => absurd z9 (by decide))
  refine aw_iload_n hC dL_act_211 rfl ?_
  refine aw_bipush (v := 14) hC dL_act_212 (by decide) ?_
  refine aw_icmp_ne (tgt := 230) hC dL_act_214 (by decide) (fun _ => ?_) (fun z9 => absurd z9 (by decide))
  refine aw_iload_n hC dL_act_230 rfl ?_
  refine aw_bipush (v := 15) hC dL_act_231 (by decide) ?_
  refine aw_icmp_ne (tgt := 244) hC dL_act_233 (by decide) (fun _ => ?_) (fun z9 => absurd z9 (by decide))
  refine aw_iload_n hC dL_act_244 rfl ?_
  refine aw_bipush (v := 16) hC dL_act_245 (by decide) ?_
  refine aw_icmp_ne (tgt := 261) hC dL_act_247 (by decide) (fun _ => ?_) (fun z9 => absurd z9 (by decide))
  refine aw_iload_n hC dL_act_261 rfl ?_
  refine aw_bipush (v := 17) hC dL_act_262 (by decide) ?_
  refine aw_icmp_ne (tgt := 276) hC dL_act_264 (by decide) (fun _ => ?_) (fun z9 => absurd z9 (by decide))
  refine aw_iload_n hC dL_act_276 rfl ?_
  refine aw_bipush (v := 18) hC dL_act_277 (by decide) ?_
  refine aw_icmp_ne (tgt := 293) hC dL_act_279 (by decide) (fun _ => ?_) (fun z9 => absurd z9 (by decide))
  refine aw_iload_n hC dL_act_293 rfl ?_
  refine aw_bipush (v := 19) hC dL_act_294 (by decide) ?_
  refine aw_icmp_ne (tgt := 307) hC dL_act_296 (by decide) (fun _ => ?_) (fun z9 => absurd z9 (by decide))
  refine aw_iload_n hC dL_act_307 rfl ?_
  refine aw_bipush (v := 20) hC dL_act_308 (by decide) ?_
  refine aw_icmp_ne (tgt := 322) hC dL_act_310 (by decide) (fun _ => ?_) (fun z9 => absurd z9 (by decide))
  refine aw_iload_n hC dL_act_322 rfl ?_
  refine aw_bipush (v := 21) hC dL_act_323 (by decide) ?_
  refine aw_icmp_ne (tgt := 336) hC dL_act_325 (by decide) (fun _ => ?_) (fun z9 => absurd z9 (by decide))
  refine aw_aload_n hC dL_act_336 rfl ?_
  refine aw_iload_n hC dL_act_337 rfl ?_
  refine aw_iload_n hC dL_act_338 rfl ?_
  refine aw_iload_n hC dL_act_339 rfl ?_
  refine aw_iload hC dL_act_340 rfl ?_
  refine kL_82 hC rfl (m_L_more_30 h0 hM) dL_act_342 rfl a_le a_le a_le a_le a_le rfl (exx (fun E m2 T I J R hE hF hG => act_ae hC hq (by decide) (by decide) (by decide) a_le a_le hE hF hG)) (exk (fun w m2 T I J R hF hG => ?_))
  show AW X 3 200 345 [some (.ref 0), some (.int 30), some (.int a), some (.int b), some (.int c), some (.int d), some (.int e), none] [.int w] T I J R
  exact aw_ireturn hC hq rfl dL_act_345 a_le a_le (EK.ret hF hG)
set_option maxRecDepth 100000 in
theorem m_L_act_31 {T : List aT} {I : aI} {J : aJ} {R : aR} {F : Int32 → aI → Prop} {a b c d e : Int32} {m0 : aI} (h0 : GX T I J R m0) (hM : MX11_change 3 200 [.ref 0, .int a, .int b, .int c] T I J R (EX F)) : ML_act 3 200 [.ref 0, .int 31, .int a, .int b, .int c, .int d, .int e] T I J R (EK F) := by
  refine a_metW (by decide +kernel) a_le (fun X hC hq => ?_)
  show AW X 0 0 0 [some (.ref 0), some (.int 31), some (.int a), some (.int b), some (.int c), some (.int d), some (.int e), none] [] T I J R
  refine aw_iload_n hC dL_act_0 rfl ?_
  refine aw_if_ne (tgt := 19) hC dL_act_1 (by decide) (fun _ => ?_) (fun z9 => absurd z9 (by decide))
  refine aw_iload_n hC dL_act_19 rfl ?_
  refine aw_iconst (v := 1) hC dL_act_20 (by decide) ?_
  refine aw_icmp_ne (tgt := 39) hC dL_act_21 (by decide) (fun _ => ?_) (fun z9 => absurd z9 (by decide))
  refine aw_iload_n hC dL_act_39 rfl ?_
  refine aw_iconst (v := 2) hC dL_act_40 (by decide) ?_
  refine aw_icmp_ne (tgt := 52) hC dL_act_41 (by decide) (fun _ => ?_) (fun z9 => absurd z9 (by decide))
  refine aw_iload_n hC dL_act_52 rfl ?_
  refine aw_iconst (v := 3) hC dL_act_53 (by decide) ?_
  refine aw_icmp_ne (tgt := 65) hC dL_act_54 (by decide) (fun _ => ?_) (fun z9 => absurd z9 (by decide))
  refine aw_iload_n hC dL_act_65 rfl ?_
  refine aw_iconst (v := 4) hC dL_act_66 (by decide) ?_
  refine aw_icmp_ne (tgt := 79) hC dL_act_67 (by decide) (fun _ => ?_) (fun z9 => absurd z9 (by decide))
  refine aw_iload_n hC dL_act_79 rfl ?_
  refine aw_iconst (v := 5) hC dL_act_80 (by decide) ?_
  refine aw_icmp_ne (tgt := 93) hC dL_act_81 (by decide) (fun _ => ?_) (fun z9 => absurd z9 (by decide))
  refine aw_iload_n hC dL_act_93 rfl ?_
  refine aw_bipush (v := 6) hC dL_act_94 (by decide) ?_
  refine aw_icmp_ne (tgt := 110) hC dL_act_96 (by decide) (fun _ => ?_) (fun z9 => absurd z9 (by decide))
  refine aw_iload_n hC dL_act_110 rfl ?_
  refine aw_bipush (v := 7) hC dL_act_111 (by decide) ?_
  refine aw_icmp_ne (tgt := 124) hC dL_act_113 (by decide) (fun _ => ?_) (fun z9 => absurd z9 (by decide))
  refine aw_iload_n hC dL_act_124 rfl ?_
  refine aw_bipush (v := 8) hC dL_act_125 (by decide) ?_
  refine aw_icmp_ne (tgt := 138) hC dL_act_127 (by decide) (fun _ => ?_) (fun z9 => absurd z9 (by decide))
  refine aw_iload_n hC dL_act_138 rfl ?_
  refine aw_bipush (v := 9) hC dL_act_139 (by decide) ?_
  refine aw_icmp_ne (tgt := 152) hC dL_act_141 (by decide) (fun _ => ?_) (fun z9 => absurd z9 (by decide))
  refine aw_iload_n hC dL_act_152 rfl ?_
  refine aw_bipush (v := 10) hC dL_act_153 (by decide) ?_
  refine aw_icmp_ne (tgt := 166) hC dL_act_155 (by decide) (fun _ => ?_) (fun z9 => absurd z9 (by decide))
  refine aw_iload_n hC dL_act_166 rfl ?_
  refine aw_bipush (v := 11) hC dL_act_167 (by decide) ?_
  refine aw_icmp_ne (tgt := 180) hC dL_act_169 (by decide) (fun _ => ?_) (fun z9 => absurd z9 (by decide))
  refine aw_iload_n hC dL_act_180 rfl ?_
  refine aw_bipush (v := 12) hC dL_act_181 (by decide) ?_
  refine aw_icmp_ne (tgt := 197) hC dL_act_183 (by decide) (fun _ => ?_) (fun z9 => absurd z9 (by decide))
  refine aw_iload_n hC dL_act_197 rfl ?_
  refine aw_bipush (v := 13) hC dL_act_198 (by decide) ?_
  refine aw_icmp_ne (tgt := 211) hC dL_act_200 (by decide) (fun _ => ?_) (fun z9 => absurd z9 (by decide))
  refine aw_iload_n hC dL_act_211 rfl ?_
  refine aw_bipush (v := 14) hC dL_act_212 (by decide) ?_
  refine aw_icmp_ne (tgt := 230) hC dL_act_214 (by decide) (fun _ => ?_) (fun z9 => absurd z9 (by decide))
  refine aw_iload_n hC dL_act_230 rfl ?_
  refine aw_bipush (v := 15) hC dL_act_231 (by decide) ?_
  refine aw_icmp_ne (tgt := 244) hC dL_act_233 (by decide) (fun _ => ?_) (fun z9 => absurd z9 (by decide))
  refine aw_iload_n hC dL_act_244 rfl ?_
  refine aw_bipush (v := 16) hC dL_act_245 (by decide) ?_
  refine aw_icmp_ne (tgt := 261) hC dL_act_247 (by decide) (fun _ => ?_) (fun z9 => absurd z9 (by decide))
  refine aw_iload_n hC dL_act_261 rfl ?_
  refine aw_bipush (v := 17) hC dL_act_262 (by decide) ?_
  refine aw_icmp_ne (tgt := 276) hC dL_act_264 (by decide) (fun _ => ?_) (fun z9 => absurd z9 (by decide))
  refine aw_iload_n hC dL_act_276 rfl ?_
  refine aw_bipush (v := 18) hC dL_act_277 (by decide) ?_
  refine aw_icmp_ne (tgt := 293) hC dL_act_279 (by decide) (fun _ => ?_) (fun z9 => absurd z9 (by decide))
  refine aw_iload_n hC dL_act_293 rfl ?_
  refine aw_bipush (v := 19) hC dL_act_294 (by decide) ?_
  refine aw_icmp_ne (tgt := 307) hC dL_act_296 (by decide) (fun _ => ?_) (fun z9 => absurd z9 (by decide))
  refine aw_iload_n hC dL_act_307 rfl ?_
  refine aw_bipush (v := 20) hC dL_act_308 (by decide) ?_
  refine aw_icmp_ne (tgt := 322) hC dL_act_310 (by decide) (fun _ => ?_) (fun z9 => absurd z9 (by decide))
  refine aw_iload_n hC dL_act_322 rfl ?_
  refine aw_bipush (v := 21) hC dL_act_323 (by decide) ?_
  refine aw_icmp_ne (tgt := 336) hC dL_act_325 (by decide) (fun _ => ?_) (fun z9 => absurd z9 (by decide))
  refine aw_aload_n hC dL_act_336 rfl ?_
  refine aw_iload_n hC dL_act_337 rfl ?_
  refine aw_iload_n hC dL_act_338 rfl ?_
  refine aw_iload_n hC dL_act_339 rfl ?_
  refine aw_iload hC dL_act_340 rfl ?_
  refine kL_82 hC rfl (m_L_more_31 h0 hM) dL_act_342 rfl a_le a_le a_le a_le a_le rfl (exx (fun E m2 T I J R hE hF hG => act_ae hC hq (by decide) (by decide) (by decide) a_le a_le hE hF hG)) (exk (fun w m2 T I J R hF hG => ?_))
  show AW X 3 200 345 [some (.ref 0), some (.int 31), some (.int a), some (.int b), some (.int c), some (.int d), some (.int e), none] [.int w] T I J R
  exact aw_ireturn hC hq rfl dL_act_345 a_le a_le (EK.ret hF hG)
set_option maxRecDepth 100000 in
theorem m_L_act_32 {T : List aT} {I : aI} {J : aJ} {R : aR} {F : Int32 → aI → Prop} {a b c d e : Int32} {m0 : aI} (h0 : GX T I J R m0) (hM : MX11_destroy 3 200 [.ref 0, .int a] T I J R (EB F)) : ML_act 3 200 [.ref 0, .int 32, .int a, .int b, .int c, .int d, .int e] T I J R (EK F) := by
  refine a_metW (by decide +kernel) a_le (fun X hC hq => ?_)
  show AW X 0 0 0 [some (.ref 0), some (.int 32), some (.int a), some (.int b), some (.int c), some (.int d), some (.int e), none] [] T I J R
  refine aw_iload_n hC dL_act_0 rfl ?_
  refine aw_if_ne (tgt := 19) hC dL_act_1 (by decide) (fun _ => ?_) (fun z9 => absurd z9 (by decide))
  refine aw_iload_n hC dL_act_19 rfl ?_
  refine aw_iconst (v := 1) hC dL_act_20 (by decide) ?_
  refine aw_icmp_ne (tgt := 39) hC dL_act_21 (by decide) (fun _ => ?_) (fun z9 => absurd z9 (by decide))
  refine aw_iload_n hC dL_act_39 rfl ?_
  refine aw_iconst (v := 2) hC dL_act_40 (by decide) ?_
  refine aw_icmp_ne (tgt := 52) hC dL_act_41 (by decide) (fun _ => ?_) (fun z9 => absurd z9 (by decide))
  refine aw_iload_n hC dL_act_52 rfl ?_
  refine aw_iconst (v := 3) hC dL_act_53 (by decide) ?_
  refine aw_icmp_ne (tgt := 65) hC dL_act_54 (by decide) (fun _ => ?_) (fun z9 => absurd z9 (by decide))
  refine aw_iload_n hC dL_act_65 rfl ?_
  refine aw_iconst (v := 4) hC dL_act_66 (by decide) ?_
  refine aw_icmp_ne (tgt := 79) hC dL_act_67 (by decide) (fun _ => ?_) (fun z9 => absurd z9 (by decide))
  refine aw_iload_n hC dL_act_79 rfl ?_
  refine aw_iconst (v := 5) hC dL_act_80 (by decide) ?_
  refine aw_icmp_ne (tgt := 93) hC dL_act_81 (by decide) (fun _ => ?_) (fun z9 => absurd z9 (by decide))
  refine aw_iload_n hC dL_act_93 rfl ?_
  refine aw_bipush (v := 6) hC dL_act_94 (by decide) ?_
  refine aw_icmp_ne (tgt := 110) hC dL_act_96 (by decide) (fun _ => ?_) (fun z9 => absurd z9 (by decide))
  refine aw_iload_n hC dL_act_110 rfl ?_
  refine aw_bipush (v := 7) hC dL_act_111 (by decide) ?_
  refine aw_icmp_ne (tgt := 124) hC dL_act_113 (by decide) (fun _ => ?_) (fun z9 => absurd z9 (by decide))
  refine aw_iload_n hC dL_act_124 rfl ?_
  refine aw_bipush (v := 8) hC dL_act_125 (by decide) ?_
  refine aw_icmp_ne (tgt := 138) hC dL_act_127 (by decide) (fun _ => ?_) (fun z9 => absurd z9 (by decide))
  refine aw_iload_n hC dL_act_138 rfl ?_
  refine aw_bipush (v := 9) hC dL_act_139 (by decide) ?_
  refine aw_icmp_ne (tgt := 152) hC dL_act_141 (by decide) (fun _ => ?_) (fun z9 => absurd z9 (by decide))
  refine aw_iload_n hC dL_act_152 rfl ?_
  refine aw_bipush (v := 10) hC dL_act_153 (by decide) ?_
  refine aw_icmp_ne (tgt := 166) hC dL_act_155 (by decide) (fun _ => ?_) (fun z9 => absurd z9 (by decide))
  refine aw_iload_n hC dL_act_166 rfl ?_
  refine aw_bipush (v := 11) hC dL_act_167 (by decide) ?_
  refine aw_icmp_ne (tgt := 180) hC dL_act_169 (by decide) (fun _ => ?_) (fun z9 => absurd z9 (by decide))
  refine aw_iload_n hC dL_act_180 rfl ?_
  refine aw_bipush (v := 12) hC dL_act_181 (by decide) ?_
  refine aw_icmp_ne (tgt := 197) hC dL_act_183 (by decide) (fun _ => ?_) (fun z9 => absurd z9 (by decide))
  refine aw_iload_n hC dL_act_197 rfl ?_
  refine aw_bipush (v := 13) hC dL_act_198 (by decide) ?_
  refine aw_icmp_ne (tgt := 211) hC dL_act_200 (by decide) (fun _ => ?_) (fun z9 => absurd z9 (by decide))
  refine aw_iload_n hC dL_act_211 rfl ?_
  refine aw_bipush (v := 14) hC dL_act_212 (by decide) ?_
  refine aw_icmp_ne (tgt := 230) hC dL_act_214 (by decide) (fun _ => ?_) (fun z9 => absurd z9 (by decide))
  refine aw_iload_n hC dL_act_230 rfl ?_
  refine aw_bipush (v := 15) hC dL_act_231 (by decide) ?_
  refine aw_icmp_ne (tgt := 244) hC dL_act_233 (by decide) (fun _ => ?_) (fun z9 => absurd z9 (by decide))
  refine aw_iload_n hC dL_act_244 rfl ?_
  refine aw_bipush (v := 16) hC dL_act_245 (by decide) ?_
  refine aw_icmp_ne (tgt := 261) hC dL_act_247 (by decide) (fun _ => ?_) (fun z9 => absurd z9 (by decide))
  refine aw_iload_n hC dL_act_261 rfl ?_
  refine aw_bipush (v := 17) hC dL_act_262 (by decide) ?_
  refine aw_icmp_ne (tgt := 276) hC dL_act_264 (by decide) (fun _ => ?_) (fun z9 => absurd z9 (by decide))
  refine aw_iload_n hC dL_act_276 rfl ?_
  refine aw_bipush (v := 18) hC dL_act_277 (by decide) ?_
  refine aw_icmp_ne (tgt := 293) hC dL_act_279 (by decide) (fun _ => ?_) (fun z9 => absurd z9 (by decide))
  refine aw_iload_n hC dL_act_293 rfl ?_
  refine aw_bipush (v := 19) hC dL_act_294 (by decide) ?_
  refine aw_icmp_ne (tgt := 307) hC dL_act_296 (by decide) (fun _ => ?_) (fun z9 => absurd z9 (by decide))
  refine aw_iload_n hC dL_act_307 rfl ?_
  refine aw_bipush (v := 20) hC dL_act_308 (by decide) ?_
  refine aw_icmp_ne (tgt := 322) hC dL_act_310 (by decide) (fun _ => ?_) (fun z9 => absurd z9 (by decide))
  refine aw_iload_n hC dL_act_322 rfl ?_
  refine aw_bipush (v := 21) hC dL_act_323 (by decide) ?_
  refine aw_icmp_ne (tgt := 336) hC dL_act_325 (by decide) (fun _ => ?_) (fun z9 => absurd z9 (by decide))
  refine aw_aload_n hC dL_act_336 rfl ?_
  refine aw_iload_n hC dL_act_337 rfl ?_
  refine aw_iload_n hC dL_act_338 rfl ?_
  refine aw_iload_n hC dL_act_339 rfl ?_
  refine aw_iload hC dL_act_340 rfl ?_
  refine kL_82 hC rfl (m_L_more_32 h0 hM) dL_act_342 rfl a_le a_le a_le a_le a_le rfl (exx (fun E m2 T I J R hE hF hG => act_ae hC hq (by decide) (by decide) (by decide) a_le a_le hE hF hG)) (exk (fun w m2 T I J R hF hG => ?_))
  show AW X 3 200 345 [some (.ref 0), some (.int 32), some (.int a), some (.int b), some (.int c), some (.int d), some (.int e), none] [.int w] T I J R
  exact aw_ireturn hC hq rfl dL_act_345 a_le a_le (EK.ret hF hG)
set_option maxRecDepth 100000 in
theorem m_L_act_33 {T : List aT} {I : aI} {J : aJ} {R : aR} {F : Int32 → aI → Prop} {a b c d e : Int32} {m0 : aI} (h0 : GX T I J R m0) (hM : MX11_make 3 200 [.ref 0, .int a] T I J R (EX F)) : ML_act 3 200 [.ref 0, .int 33, .int a, .int b, .int c, .int d, .int e] T I J R (EK F) := by
  refine a_metW (by decide +kernel) a_le (fun X hC hq => ?_)
  show AW X 0 0 0 [some (.ref 0), some (.int 33), some (.int a), some (.int b), some (.int c), some (.int d), some (.int e), none] [] T I J R
  refine aw_iload_n hC dL_act_0 rfl ?_
  refine aw_if_ne (tgt := 19) hC dL_act_1 (by decide) (fun _ => ?_) (fun z9 => absurd z9 (by decide))
  refine aw_iload_n hC dL_act_19 rfl ?_
  refine aw_iconst (v := 1) hC dL_act_20 (by decide) ?_
  refine aw_icmp_ne (tgt := 39) hC dL_act_21 (by decide) (fun _ => ?_) (fun z9 => absurd z9 (by decide))
  refine aw_iload_n hC dL_act_39 rfl ?_
  refine aw_iconst (v := 2) hC dL_act_40 (by decide) ?_
  refine aw_icmp_ne (tgt := 52) hC dL_act_41 (by decide) (fun _ => ?_) (fun z9 => absurd z9 (by decide))
  refine aw_iload_n hC dL_act_52 rfl ?_
  refine aw_iconst (v := 3) hC dL_act_53 (by decide) ?_
  refine aw_icmp_ne (tgt := 65) hC dL_act_54 (by decide) (fun _ => ?_) (fun z9 => absurd z9 (by decide))
  refine aw_iload_n hC dL_act_65 rfl ?_
  refine aw_iconst (v := 4) hC dL_act_66 (by decide) ?_
  refine aw_icmp_ne (tgt := 79) hC dL_act_67 (by decide) (fun _ => ?_) (fun z9 => absurd z9 (by decide))
  refine aw_iload_n hC dL_act_79 rfl ?_
  refine aw_iconst (v := 5) hC dL_act_80 (by decide) ?_
  refine aw_icmp_ne (tgt := 93) hC dL_act_81 (by decide) (fun _ => ?_) (fun z9 => absurd z9 (by decide))
  refine aw_iload_n hC dL_act_93 rfl ?_
  refine aw_bipush (v := 6) hC dL_act_94 (by decide) ?_
  refine aw_icmp_ne (tgt := 110) hC dL_act_96 (by decide) (fun _ => ?_) (fun z9 => absurd z9 (by decide))
  refine aw_iload_n hC dL_act_110 rfl ?_
  refine aw_bipush (v := 7) hC dL_act_111 (by decide) ?_
  refine aw_icmp_ne (tgt := 124) hC dL_act_113 (by decide) (fun _ => ?_) (fun z9 => absurd z9 (by decide))
  refine aw_iload_n hC dL_act_124 rfl ?_
  refine aw_bipush (v := 8) hC dL_act_125 (by decide) ?_
  refine aw_icmp_ne (tgt := 138) hC dL_act_127 (by decide) (fun _ => ?_) (fun z9 => absurd z9 (by decide))
  refine aw_iload_n hC dL_act_138 rfl ?_
  refine aw_bipush (v := 9) hC dL_act_139 (by decide) ?_
  refine aw_icmp_ne (tgt := 152) hC dL_act_141 (by decide) (fun _ => ?_) (fun z9 => absurd z9 (by decide))
  refine aw_iload_n hC dL_act_152 rfl ?_
  refine aw_bipush (v := 10) hC dL_act_153 (by decide) ?_
  refine aw_icmp_ne (tgt := 166) hC dL_act_155 (by decide) (fun _ => ?_) (fun z9 => absurd z9 (by decide))
  refine aw_iload_n hC dL_act_166 rfl ?_
  refine aw_bipush (v := 11) hC dL_act_167 (by decide) ?_
  refine aw_icmp_ne (tgt := 180) hC dL_act_169 (by decide) (fun _ => ?_) (fun z9 => absurd z9 (by decide))
  refine aw_iload_n hC dL_act_180 rfl ?_
  refine aw_bipush (v := 12) hC dL_act_181 (by decide) ?_
  refine aw_icmp_ne (tgt := 197) hC dL_act_183 (by decide) (fun _ => ?_) (fun z9 => absurd z9 (by decide))
  refine aw_iload_n hC dL_act_197 rfl ?_
  refine aw_bipush (v := 13) hC dL_act_198 (by decide) ?_
  refine aw_icmp_ne (tgt := 211) hC dL_act_200 (by decide) (fun _ => ?_) (fun z9 => absurd z9 (by decide))
  refine aw_iload_n hC dL_act_211 rfl ?_
  refine aw_bipush (v := 14) hC dL_act_212 (by decide) ?_
  refine aw_icmp_ne (tgt := 230) hC dL_act_214 (by decide) (fun _ => ?_) (fun z9 => absurd z9 (by decide))
  refine aw_iload_n hC dL_act_230 rfl ?_
  refine aw_bipush (v := 15) hC dL_act_231 (by decide) ?_
  refine aw_icmp_ne (tgt := 244) hC dL_act_233 (by decide) (fun _ => ?_) (fun z9 => absurd z9 (by decide))
  refine aw_iload_n hC dL_act_244 rfl ?_
  refine aw_bipush (v := 16) hC dL_act_245 (by decide) ?_
  refine aw_icmp_ne (tgt := 261) hC dL_act_247 (by decide) (fun _ => ?_) (fun z9 => absurd z9 (by decide))
  refine aw_iload_n hC dL_act_261 rfl ?_
  refine aw_bipush (v := 17) hC dL_act_262 (by decide) ?_
  refine aw_icmp_ne (tgt := 276) hC dL_act_264 (by decide) (fun _ => ?_) (fun z9 => absurd z9 (by decide))
  refine aw_iload_n hC dL_act_276 rfl ?_
  refine aw_bipush (v := 18) hC dL_act_277 (by decide) ?_
  refine aw_icmp_ne (tgt := 293) hC dL_act_279 (by decide) (fun _ => ?_) (fun z9 => absurd z9 (by decide))
  refine aw_iload_n hC dL_act_293 rfl ?_
  refine aw_bipush (v := 19) hC dL_act_294 (by decide) ?_
  refine aw_icmp_ne (tgt := 307) hC dL_act_296 (by decide) (fun _ => ?_) (fun z9 => absurd z9 (by decide))
  refine aw_iload_n hC dL_act_307 rfl ?_
  refine aw_bipush (v := 20) hC dL_act_308 (by decide) ?_
  refine aw_icmp_ne (tgt := 322) hC dL_act_310 (by decide) (fun _ => ?_) (fun z9 => absurd z9 (by decide))
  refine aw_iload_n hC dL_act_322 rfl ?_
  refine aw_bipush (v := 21) hC dL_act_323 (by decide) ?_
  refine aw_icmp_ne (tgt := 336) hC dL_act_325 (by decide) (fun _ => ?_) (fun z9 => absurd z9 (by decide))
  refine aw_aload_n hC dL_act_336 rfl ?_
  refine aw_iload_n hC dL_act_337 rfl ?_
  refine aw_iload_n hC dL_act_338 rfl ?_
  refine aw_iload_n hC dL_act_339 rfl ?_
  refine aw_iload hC dL_act_340 rfl ?_
  refine kL_82 hC rfl (m_L_more_33 h0 hM) dL_act_342 rfl a_le a_le a_le a_le a_le rfl (exx (fun E m2 T I J R hE hF hG => act_ae hC hq (by decide) (by decide) (by decide) a_le a_le hE hF hG)) (exk (fun w m2 T I J R hF hG => ?_))
  show AW X 3 200 345 [some (.ref 0), some (.int 33), some (.int a), some (.int b), some (.int c), some (.int d), some (.int e), none] [.int w] T I J R
  exact aw_ireturn hC hq rfl dL_act_345 a_le a_le (EK.ret hF hG)
set_option maxRecDepth 100000 in
theorem m_L_act_34 {T : List aT} {I : aI} {J : aJ} {R : aR} {F : Int32 → aI → Prop} {a b c d e : Int32} {m0 : aI} (h0 : GX T I J R m0) (hM : MX11_read 3 200 [.ref 0] T I J R (EX F)) : ML_act 3 200 [.ref 0, .int 34, .int a, .int b, .int c, .int d, .int e] T I J R (EK F) := by
  refine a_metW (by decide +kernel) a_le (fun X hC hq => ?_)
  show AW X 0 0 0 [some (.ref 0), some (.int 34), some (.int a), some (.int b), some (.int c), some (.int d), some (.int e), none] [] T I J R
  refine aw_iload_n hC dL_act_0 rfl ?_
  refine aw_if_ne (tgt := 19) hC dL_act_1 (by decide) (fun _ => ?_) (fun z9 => absurd z9 (by decide))
  refine aw_iload_n hC dL_act_19 rfl ?_
  refine aw_iconst (v := 1) hC dL_act_20 (by decide) ?_
  refine aw_icmp_ne (tgt := 39) hC dL_act_21 (by decide) (fun _ => ?_) (fun z9 => absurd z9 (by decide))
  refine aw_iload_n hC dL_act_39 rfl ?_
  refine aw_iconst (v := 2) hC dL_act_40 (by decide) ?_
  refine aw_icmp_ne (tgt := 52) hC dL_act_41 (by decide) (fun _ => ?_) (fun z9 => absurd z9 (by decide))
  refine aw_iload_n hC dL_act_52 rfl ?_
  refine aw_iconst (v := 3) hC dL_act_53 (by decide) ?_
  refine aw_icmp_ne (tgt := 65) hC dL_act_54 (by decide) (fun _ => ?_) (fun z9 => absurd z9 (by decide))
  refine aw_iload_n hC dL_act_65 rfl ?_
  refine aw_iconst (v := 4) hC dL_act_66 (by decide) ?_
  refine aw_icmp_ne (tgt := 79) hC dL_act_67 (by decide) (fun _ => ?_) (fun z9 => absurd z9 (by decide))
  refine aw_iload_n hC dL_act_79 rfl ?_
  refine aw_iconst (v := 5) hC dL_act_80 (by decide) ?_
  refine aw_icmp_ne (tgt := 93) hC dL_act_81 (by decide) (fun _ => ?_) (fun z9 => absurd z9 (by decide))
  refine aw_iload_n hC dL_act_93 rfl ?_
  refine aw_bipush (v := 6) hC dL_act_94 (by decide) ?_
  refine aw_icmp_ne (tgt := 110) hC dL_act_96 (by decide) (fun _ => ?_) (fun z9 => absurd z9 (by decide))
  refine aw_iload_n hC dL_act_110 rfl ?_
  refine aw_bipush (v := 7) hC dL_act_111 (by decide) ?_
  refine aw_icmp_ne (tgt := 124) hC dL_act_113 (by decide) (fun _ => ?_) (fun z9 => absurd z9 (by decide))
  refine aw_iload_n hC dL_act_124 rfl ?_
  refine aw_bipush (v := 8) hC dL_act_125 (by decide) ?_
  refine aw_icmp_ne (tgt := 138) hC dL_act_127 (by decide) (fun _ => ?_) (fun z9 => absurd z9 (by decide))
  refine aw_iload_n hC dL_act_138 rfl ?_
  refine aw_bipush (v := 9) hC dL_act_139 (by decide) ?_
  refine aw_icmp_ne (tgt := 152) hC dL_act_141 (by decide) (fun _ => ?_) (fun z9 => absurd z9 (by decide))
  refine aw_iload_n hC dL_act_152 rfl ?_
  refine aw_bipush (v := 10) hC dL_act_153 (by decide) ?_
  refine aw_icmp_ne (tgt := 166) hC dL_act_155 (by decide) (fun _ => ?_) (fun z9 => absurd z9 (by decide))
  refine aw_iload_n hC dL_act_166 rfl ?_
  refine aw_bipush (v := 11) hC dL_act_167 (by decide) ?_
  refine aw_icmp_ne (tgt := 180) hC dL_act_169 (by decide) (fun _ => ?_) (fun z9 => absurd z9 (by decide))
  refine aw_iload_n hC dL_act_180 rfl ?_
  refine aw_bipush (v := 12) hC dL_act_181 (by decide) ?_
  refine aw_icmp_ne (tgt := 197) hC dL_act_183 (by decide) (fun _ => ?_) (fun z9 => absurd z9 (by decide))
  refine aw_iload_n hC dL_act_197 rfl ?_
  refine aw_bipush (v := 13) hC dL_act_198 (by decide) ?_
  refine aw_icmp_ne (tgt := 211) hC dL_act_200 (by decide) (fun _ => ?_) (fun z9 => absurd z9 (by decide))
  refine aw_iload_n hC dL_act_211 rfl ?_
  refine aw_bipush (v := 14) hC dL_act_212 (by decide) ?_
  refine aw_icmp_ne (tgt := 230) hC dL_act_214 (by decide) (fun _ => ?_) (fun z9 => absurd z9 (by decide))
  refine aw_iload_n hC dL_act_230 rfl ?_
  refine aw_bipush (v := 15) hC dL_act_231 (by decide) ?_
  refine aw_icmp_ne (tgt := 244) hC dL_act_233 (by decide) (fun _ => ?_) (fun z9 => absurd z9 (by decide))
  refine aw_iload_n hC dL_act_244 rfl ?_
  refine aw_bipush (v := 16) hC dL_act_245 (by decide) ?_
  refine aw_icmp_ne (tgt := 261) hC dL_act_247 (by decide) (fun _ => ?_) (fun z9 => absurd z9 (by decide))
  refine aw_iload_n hC dL_act_261 rfl ?_
  refine aw_bipush (v := 17) hC dL_act_262 (by decide) ?_
  refine aw_icmp_ne (tgt := 276) hC dL_act_264 (by decide) (fun _ => ?_) (fun z9 => absurd z9 (by decide))
  refine aw_iload_n hC dL_act_276 rfl ?_
  refine aw_bipush (v := 18) hC dL_act_277 (by decide) ?_
  refine aw_icmp_ne (tgt := 293) hC dL_act_279 (by decide) (fun _ => ?_) (fun z9 => absurd z9 (by decide))
  refine aw_iload_n hC dL_act_293 rfl ?_
  refine aw_bipush (v := 19) hC dL_act_294 (by decide) ?_
  refine aw_icmp_ne (tgt := 307) hC dL_act_296 (by decide) (fun _ => ?_) (fun z9 => absurd z9 (by decide))
  refine aw_iload_n hC dL_act_307 rfl ?_
  refine aw_bipush (v := 20) hC dL_act_308 (by decide) ?_
  refine aw_icmp_ne (tgt := 322) hC dL_act_310 (by decide) (fun _ => ?_) (fun z9 => absurd z9 (by decide))
  refine aw_iload_n hC dL_act_322 rfl ?_
  refine aw_bipush (v := 21) hC dL_act_323 (by decide) ?_
  refine aw_icmp_ne (tgt := 336) hC dL_act_325 (by decide) (fun _ => ?_) (fun z9 => absurd z9 (by decide))
  refine aw_aload_n hC dL_act_336 rfl ?_
  refine aw_iload_n hC dL_act_337 rfl ?_
  refine aw_iload_n hC dL_act_338 rfl ?_
  refine aw_iload_n hC dL_act_339 rfl ?_
  refine aw_iload hC dL_act_340 rfl ?_
  refine kL_82 hC rfl (m_L_more_34 h0 hM) dL_act_342 rfl a_le a_le a_le a_le a_le rfl (exx (fun E m2 T I J R hE hF hG => act_ae hC hq (by decide) (by decide) (by decide) a_le a_le hE hF hG)) (exk (fun w m2 T I J R hF hG => ?_))
  show AW X 3 200 345 [some (.ref 0), some (.int 34), some (.int a), some (.int b), some (.int c), some (.int d), some (.int e), none] [.int w] T I J R
  exact aw_ireturn hC hq rfl dL_act_345 a_le a_le (EK.ret hF hG)
set_option maxRecDepth 100000 in
theorem m_L_act_35 {T : List aT} {I : aI} {J : aJ} {R : aR} {F : Int32 → aI → Prop} {a b c d e : Int32} {m0 : aI} (h0 : GX T I J R m0) (hM : MX11_move 3 200 [.ref 0, .int a, .int b] T I J R (EX F)) : ML_act 3 200 [.ref 0, .int 35, .int a, .int b, .int c, .int d, .int e] T I J R (EK F) := by
  refine a_metW (by decide +kernel) a_le (fun X hC hq => ?_)
  show AW X 0 0 0 [some (.ref 0), some (.int 35), some (.int a), some (.int b), some (.int c), some (.int d), some (.int e), none] [] T I J R
  refine aw_iload_n hC dL_act_0 rfl ?_
  refine aw_if_ne (tgt := 19) hC dL_act_1 (by decide) (fun _ => ?_) (fun z9 => absurd z9 (by decide))
  refine aw_iload_n hC dL_act_19 rfl ?_
  refine aw_iconst (v := 1) hC dL_act_20 (by decide) ?_
  refine aw_icmp_ne (tgt := 39) hC dL_act_21 (by decide) (fun _ => ?_) (fun z9 => absurd z9 (by decide))
  refine aw_iload_n hC dL_act_39 rfl ?_
  refine aw_iconst (v := 2) hC dL_act_40 (by decide) ?_
  refine aw_icmp_ne (tgt := 52) hC dL_act_41 (by decide) (fun _ => ?_) (fun z9 => absurd z9 (by decide))
  refine aw_iload_n hC dL_act_52 rfl ?_
  refine aw_iconst (v := 3) hC dL_act_53 (by decide) ?_
  refine aw_icmp_ne (tgt := 65) hC dL_act_54 (by decide) (fun _ => ?_) (fun z9 => absurd z9 (by decide))
  refine aw_iload_n hC dL_act_65 rfl ?_
  refine aw_iconst (v := 4) hC dL_act_66 (by decide) ?_
  refine aw_icmp_ne (tgt := 79) hC dL_act_67 (by decide) (fun _ => ?_) (fun z9 => absurd z9 (by decide))
  refine aw_iload_n hC dL_act_79 rfl ?_
  refine aw_iconst (v := 5) hC dL_act_80 (by decide) ?_
  refine aw_icmp_ne (tgt := 93) hC dL_act_81 (by decide) (fun _ => ?_) (fun z9 => absurd z9 (by decide))
  refine aw_iload_n hC dL_act_93 rfl ?_
  refine aw_bipush (v := 6) hC dL_act_94 (by decide) ?_
  refine aw_icmp_ne (tgt := 110) hC dL_act_96 (by decide) (fun _ => ?_) (fun z9 => absurd z9 (by decide))
  refine aw_iload_n hC dL_act_110 rfl ?_
  refine aw_bipush (v := 7) hC dL_act_111 (by decide) ?_
  refine aw_icmp_ne (tgt := 124) hC dL_act_113 (by decide) (fun _ => ?_) (fun z9 => absurd z9 (by decide))
  refine aw_iload_n hC dL_act_124 rfl ?_
  refine aw_bipush (v := 8) hC dL_act_125 (by decide) ?_
  refine aw_icmp_ne (tgt := 138) hC dL_act_127 (by decide) (fun _ => ?_) (fun z9 => absurd z9 (by decide))
  refine aw_iload_n hC dL_act_138 rfl ?_
  refine aw_bipush (v := 9) hC dL_act_139 (by decide) ?_
  refine aw_icmp_ne (tgt := 152) hC dL_act_141 (by decide) (fun _ => ?_) (fun z9 => absurd z9 (by decide))
  refine aw_iload_n hC dL_act_152 rfl ?_
  refine aw_bipush (v := 10) hC dL_act_153 (by decide) ?_
  refine aw_icmp_ne (tgt := 166) hC dL_act_155 (by decide) (fun _ => ?_) (fun z9 => absurd z9 (by decide))
  refine aw_iload_n hC dL_act_166 rfl ?_
  refine aw_bipush (v := 11) hC dL_act_167 (by decide) ?_
  refine aw_icmp_ne (tgt := 180) hC dL_act_169 (by decide) (fun _ => ?_) (fun z9 => absurd z9 (by decide))
  refine aw_iload_n hC dL_act_180 rfl ?_
  refine aw_bipush (v := 12) hC dL_act_181 (by decide) ?_
  refine aw_icmp_ne (tgt := 197) hC dL_act_183 (by decide) (fun _ => ?_) (fun z9 => absurd z9 (by decide))
  refine aw_iload_n hC dL_act_197 rfl ?_
  refine aw_bipush (v := 13) hC dL_act_198 (by decide) ?_
  refine aw_icmp_ne (tgt := 211) hC dL_act_200 (by decide) (fun _ => ?_) (fun z9 => absurd z9 (by decide))
  refine aw_iload_n hC dL_act_211 rfl ?_
  refine aw_bipush (v := 14) hC dL_act_212 (by decide) ?_
  refine aw_icmp_ne (tgt := 230) hC dL_act_214 (by decide) (fun _ => ?_) (fun z9 => absurd z9 (by decide))
  refine aw_iload_n hC dL_act_230 rfl ?_
  refine aw_bipush (v := 15) hC dL_act_231 (by decide) ?_
  refine aw_icmp_ne (tgt := 244) hC dL_act_233 (by decide) (fun _ => ?_) (fun z9 => absurd z9 (by decide))
  refine aw_iload_n hC dL_act_244 rfl ?_
  refine aw_bipush (v := 16) hC dL_act_245 (by decide) ?_
  refine aw_icmp_ne (tgt := 261) hC dL_act_247 (by decide) (fun _ => ?_) (fun z9 => absurd z9 (by decide))
  refine aw_iload_n hC dL_act_261 rfl ?_
  refine aw_bipush (v := 17) hC dL_act_262 (by decide) ?_
  refine aw_icmp_ne (tgt := 276) hC dL_act_264 (by decide) (fun _ => ?_) (fun z9 => absurd z9 (by decide))
  refine aw_iload_n hC dL_act_276 rfl ?_
  refine aw_bipush (v := 18) hC dL_act_277 (by decide) ?_
  refine aw_icmp_ne (tgt := 293) hC dL_act_279 (by decide) (fun _ => ?_) (fun z9 => absurd z9 (by decide))
  refine aw_iload_n hC dL_act_293 rfl ?_
  refine aw_bipush (v := 19) hC dL_act_294 (by decide) ?_
  refine aw_icmp_ne (tgt := 307) hC dL_act_296 (by decide) (fun _ => ?_) (fun z9 => absurd z9 (by decide))
  refine aw_iload_n hC dL_act_307 rfl ?_
  refine aw_bipush (v := 20) hC dL_act_308 (by decide) ?_
  refine aw_icmp_ne (tgt := 322) hC dL_act_310 (by decide) (fun _ => ?_) (fun z9 => absurd z9 (by decide))
  refine aw_iload_n hC dL_act_322 rfl ?_
  refine aw_bipush (v := 21) hC dL_act_323 (by decide) ?_
  refine aw_icmp_ne (tgt := 336) hC dL_act_325 (by decide) (fun _ => ?_) (fun z9 => absurd z9 (by decide))
  refine aw_aload_n hC dL_act_336 rfl ?_
  refine aw_iload_n hC dL_act_337 rfl ?_
  refine aw_iload_n hC dL_act_338 rfl ?_
  refine aw_iload_n hC dL_act_339 rfl ?_
  refine aw_iload hC dL_act_340 rfl ?_
  refine kL_82 hC rfl (m_L_more_35 h0 hM) dL_act_342 rfl a_le a_le a_le a_le a_le rfl (exx (fun E m2 T I J R hE hF hG => act_ae hC hq (by decide) (by decide) (by decide) a_le a_le hE hF hG)) (exk (fun w m2 T I J R hF hG => ?_))
  show AW X 3 200 345 [some (.ref 0), some (.int 35), some (.int a), some (.int b), some (.int c), some (.int d), some (.int e), none] [.int w] T I J R
  exact aw_ireturn hC hq rfl dL_act_345 a_le a_le (EK.ret hF hG)
set_option maxRecDepth 100000 in
theorem m_L_act_36 {T : List aT} {I : aI} {J : aJ} {R : aR} {F : Int32 → aI → Prop} {a b c d e : Int32} {m0 : aI} (h0 : GX T I J R m0) (hM : MX11_take 3 200 [.ref 0, .int a, .int b] T I J R (EX F)) : ML_act 3 200 [.ref 0, .int 36, .int a, .int b, .int c, .int d, .int e] T I J R (EK F) := by
  refine a_metW (by decide +kernel) a_le (fun X hC hq => ?_)
  show AW X 0 0 0 [some (.ref 0), some (.int 36), some (.int a), some (.int b), some (.int c), some (.int d), some (.int e), none] [] T I J R
  refine aw_iload_n hC dL_act_0 rfl ?_
  refine aw_if_ne (tgt := 19) hC dL_act_1 (by decide) (fun _ => ?_) (fun z9 => absurd z9 (by decide))
  refine aw_iload_n hC dL_act_19 rfl ?_
  refine aw_iconst (v := 1) hC dL_act_20 (by decide) ?_
  refine aw_icmp_ne (tgt := 39) hC dL_act_21 (by decide) (fun _ => ?_) (fun z9 => absurd z9 (by decide))
  refine aw_iload_n hC dL_act_39 rfl ?_
  refine aw_iconst (v := 2) hC dL_act_40 (by decide) ?_
  refine aw_icmp_ne (tgt := 52) hC dL_act_41 (by decide) (fun _ => ?_) (fun z9 => absurd z9 (by decide))
  refine aw_iload_n hC dL_act_52 rfl ?_
  refine aw_iconst (v := 3) hC dL_act_53 (by decide) ?_
  refine aw_icmp_ne (tgt := 65) hC dL_act_54 (by decide) (fun _ => ?_) (fun z9 => absurd z9 (by decide))
  refine aw_iload_n hC dL_act_65 rfl ?_
  refine aw_iconst (v := 4) hC dL_act_66 (by decide) ?_
  refine aw_icmp_ne (tgt := 79) hC dL_act_67 (by decide) (fun _ => ?_) (fun z9 => absurd z9 (by decide))
  refine aw_iload_n hC dL_act_79 rfl ?_
  refine aw_iconst (v := 5) hC dL_act_80 (by decide) ?_
  refine aw_icmp_ne (tgt := 93) hC dL_act_81 (by decide) (fun _ => ?_) (fun z9 => absurd z9 (by decide))
  refine aw_iload_n hC dL_act_93 rfl ?_
  refine aw_bipush (v := 6) hC dL_act_94 (by decide) ?_
  refine aw_icmp_ne (tgt := 110) hC dL_act_96 (by decide) (fun _ => ?_) (fun z9 => absurd z9 (by decide))
  refine aw_iload_n hC dL_act_110 rfl ?_
  refine aw_bipush (v := 7) hC dL_act_111 (by decide) ?_
  refine aw_icmp_ne (tgt := 124) hC dL_act_113 (by decide) (fun _ => ?_) (fun z9 => absurd z9 (by decide))
  refine aw_iload_n hC dL_act_124 rfl ?_
  refine aw_bipush (v := 8) hC dL_act_125 (by decide) ?_
  refine aw_icmp_ne (tgt := 138) hC dL_act_127 (by decide) (fun _ => ?_) (fun z9 => absurd z9 (by decide))
  refine aw_iload_n hC dL_act_138 rfl ?_
  refine aw_bipush (v := 9) hC dL_act_139 (by decide) ?_
  refine aw_icmp_ne (tgt := 152) hC dL_act_141 (by decide) (fun _ => ?_) (fun z9 => absurd z9 (by decide))
  refine aw_iload_n hC dL_act_152 rfl ?_
  refine aw_bipush (v := 10) hC dL_act_153 (by decide) ?_
  refine aw_icmp_ne (tgt := 166) hC dL_act_155 (by decide) (fun _ => ?_) (fun z9 => absurd z9 (by decide))
  refine aw_iload_n hC dL_act_166 rfl ?_
  refine aw_bipush (v := 11) hC dL_act_167 (by decide) ?_
  refine aw_icmp_ne (tgt := 180) hC dL_act_169 (by decide) (fun _ => ?_) (fun z9 => absurd z9 (by decide))
  refine aw_iload_n hC dL_act_180 rfl ?_
  refine aw_bipush (v := 12) hC dL_act_181 (by decide) ?_
  refine aw_icmp_ne (tgt := 197) hC dL_act_183 (by decide) (fun _ => ?_) (fun z9 => absurd z9 (by decide))
  refine aw_iload_n hC dL_act_197 rfl ?_
  refine aw_bipush (v := 13) hC dL_act_198 (by decide) ?_
  refine aw_icmp_ne (tgt := 211) hC dL_act_200 (by decide) (fun _ => ?_) (fun z9 => absurd z9 (by decide))
  refine aw_iload_n hC dL_act_211 rfl ?_
  refine aw_bipush (v := 14) hC dL_act_212 (by decide) ?_
  refine aw_icmp_ne (tgt := 230) hC dL_act_214 (by decide) (fun _ => ?_) (fun z9 => absurd z9 (by decide))
  refine aw_iload_n hC dL_act_230 rfl ?_
  refine aw_bipush (v := 15) hC dL_act_231 (by decide) ?_
  refine aw_icmp_ne (tgt := 244) hC dL_act_233 (by decide) (fun _ => ?_) (fun z9 => absurd z9 (by decide))
  refine aw_iload_n hC dL_act_244 rfl ?_
  refine aw_bipush (v := 16) hC dL_act_245 (by decide) ?_
  refine aw_icmp_ne (tgt := 261) hC dL_act_247 (by decide) (fun _ => ?_) (fun z9 => absurd z9 (by decide))
  refine aw_iload_n hC dL_act_261 rfl ?_
  refine aw_bipush (v := 17) hC dL_act_262 (by decide) ?_
  refine aw_icmp_ne (tgt := 276) hC dL_act_264 (by decide) (fun _ => ?_) (fun z9 => absurd z9 (by decide))
  refine aw_iload_n hC dL_act_276 rfl ?_
  refine aw_bipush (v := 18) hC dL_act_277 (by decide) ?_
  refine aw_icmp_ne (tgt := 293) hC dL_act_279 (by decide) (fun _ => ?_) (fun z9 => absurd z9 (by decide))
  refine aw_iload_n hC dL_act_293 rfl ?_
  refine aw_bipush (v := 19) hC dL_act_294 (by decide) ?_
  refine aw_icmp_ne (tgt := 307) hC dL_act_296 (by decide) (fun _ => ?_) (fun z9 => absurd z9 (by decide))
  refine aw_iload_n hC dL_act_307 rfl ?_
  refine aw_bipush (v := 20) hC dL_act_308 (by decide) ?_
  refine aw_icmp_ne (tgt := 322) hC dL_act_310 (by decide) (fun _ => ?_) (fun z9 => absurd z9 (by decide))
  refine aw_iload_n hC dL_act_322 rfl ?_
  refine aw_bipush (v := 21) hC dL_act_323 (by decide) ?_
  refine aw_icmp_ne (tgt := 336) hC dL_act_325 (by decide) (fun _ => ?_) (fun z9 => absurd z9 (by decide))
  refine aw_aload_n hC dL_act_336 rfl ?_
  refine aw_iload_n hC dL_act_337 rfl ?_
  refine aw_iload_n hC dL_act_338 rfl ?_
  refine aw_iload_n hC dL_act_339 rfl ?_
  refine aw_iload hC dL_act_340 rfl ?_
  refine kL_82 hC rfl (m_L_more_36 h0 hM) dL_act_342 rfl a_le a_le a_le a_le a_le rfl (exx (fun E m2 T I J R hE hF hG => act_ae hC hq (by decide) (by decide) (by decide) a_le a_le hE hF hG)) (exk (fun w m2 T I J R hF hG => ?_))
  show AW X 3 200 345 [some (.ref 0), some (.int 36), some (.int a), some (.int b), some (.int c), some (.int d), some (.int e), none] [.int w] T I J R
  exact aw_ireturn hC hq rfl dL_act_345 a_le a_le (EK.ret hF hG)
