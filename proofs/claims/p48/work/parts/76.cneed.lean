theorem AMet.mono {y : MethodName} {cc : ByteArray} {nL : Nat} {ret : Option FieldType} {fr lo kc ks : Nat} {hh : List (Nat × Nat × Nat × Nat)} {As : List Value} {T : List aT} {I : aI} {J : aJ} {R : aR} {P P' : aP} (h : AMet y cc nL ret fr lo kc ks hh As T I J R P) (hp : ∀ o T2 I2 J2 R2, T <+: T2 → P o T2 I2 J2 R2 → P' o T2 I2 J2 R2) : AMet y cc nL ret fr lo kc ks hh As T I J R P' := by
  intro l hl D tys ad ws sz h1 h2 h3
  have q := h l hl D tys ad ws sz h1 h2 h3
  intro p e ha hc hk s m args below hf happ hP hK
  obtain ⟨n, oc, g1, g2, g3, g4⟩ := q p e ha hc hk s m args below hf happ hP hK
  refine ⟨n, oc, g1, g2, g3, ?_⟩
  rcases g4 with ⟨⟨⟨v, T2, I2, J2, R2, ad2, e1, e2, e3, e4⟩, hF⟩, hL⟩ | ⟨q9, e1, E, ce, L, ⟨⟨T2, I2, J2, R2, ad2, e3, e4⟩, hF⟩, e5⟩
  · have hpx : T <+: T2 := by obtain ⟨tys2, ws2, z⟩ := e4; exact z.2.2.1
    exact Or.inl ⟨⟨⟨v, T2, I2, J2, R2, ad2, e1, e2, hp _ _ _ _ _ hpx e3, e4⟩, hF⟩, hL⟩
  · have hpx : T <+: T2 := by obtain ⟨tys2, ws2, z⟩ := e4; exact z.2.2.1
    exact Or.inr ⟨q9, e1, E, ce, L, ⟨⟨T2, I2, J2, R2, ad2, hp _ _ _ _ _ hpx e3, e4⟩, hF⟩, e5⟩
/-- the callee throws, and changes nothing -/
def aTh (E : String) (T : List aT) (I : aI) (J : aJ) (R : aR) : aP := fun o T2 I2 J2 R2 => o = .inr E ∧ T2 = T ∧ I2 = I ∧ J2 = J ∧ R2 = R
theorem aTh_i {E : String} {T : List aT} {I : aI} {J : aJ} {R : aR} : aTh E T I J R (.inr E) T I J R := ⟨rfl, rfl, rfl, rfl, rfl⟩
theorem aTh_x {E : String} {T0 : List aT} {X : aX} {c s pc : Nat} {L : List (Option Value)} {T : List aT} {I : aI} {J : aJ} {R : aR} (k : AE X c s pc L E T I J R) : ∀ (E2 : String) (T2 : List aT) (I2 : aI) (J2 : aJ) (R2 : aR), T0 <+: T2 → aTh E T I J R (.inr E2) T2 I2 J2 R2 → AE X c s pc L E2 T2 I2 J2 R2 := by
  rintro E2 T2 I2 J2 R2 - ⟨h, rfl, rfl, rfl, rfl⟩
  cases h; exact k
theorem aTh_k {E : String} {T0 : List aT} {X : aX} {c s pc : Nat} {L : List (Option Value)} {st : List Value} {T : List aT} {I : aI} {J : aJ} {R : aR} : ∀ (v2 : Option Value) (T2 : List aT) (I2 : aI) (J2 : aJ) (R2 : aR), T0 <+: T2 → aTh E T I J R (.inl v2) T2 I2 J2 R2 → AW X c s pc L (v2.toList ++ st) T2 I2 J2 R2 := fun _ _ _ _ _ _ h => nomatch h.1
/-- the words that a throw needs stand in the tables -/
def exT : List Cond := tables_1_1 ++ (tables_1_2 ++ (tables_1_3 ++ (tables_1_4 ++ (tables_1_5 ++ tables_1_6))))
def exPs (ws : List Cond) (ps : List Nat) : Bool := ws.all (fun w => ps.any (fun p => decide (exT[p]? = some w)))
theorem exPs_in {ws : List Cond} {ps : List Nat} (h : exPs (ws.filter goodWord) ps = true) : ∀ w ∈ ws.filter goodWord, w ∈ a_G := fun w hw => by
  have q := List.all_eq_true.mp h w hw
  obtain ⟨p, _, hp⟩ := List.any_eq_true.mp q
  have hm : w ∈ exT := List.mem_of_getElem? (of_decide_eq_true hp)
  have hg := (List.mem_filter.mp hw).2
  rcases List.mem_append.mp hm with z | z
  · exact a_in1 z hg
  · rcases List.mem_append.mp z with z | z
    · exact a_in2 z hg
    · rcases List.mem_append.mp z with z | z
      · exact a_in3 z hg
      · rcases List.mem_append.mp z with z | z
        · exact a_in4 z hg
        · rcases List.mem_append.mp z with z | z
          · exact a_in5 z hg
          · exact a_in6 z hg
abbrev exNm : List String := ["java/lang/RuntimeException", "java/lang/Exception"]
theorem exNm_fit : ∀ n ∈ exNm, Bundle.fit n = true := by decide +kernel
abbrev exI : String := "java/lang/IndexOutOfBoundsException"
theorem exI_fit : Bundle.fit exI = true := by decide +kernel
theorem exI_g : ∀ w ∈ (vx_at0 RX11 365 exI exNm).filter goodWord, w ∈ a_G := exPs_in (ps := [15, 16, 17, 18, 30, 31, 32, 38, 91, 97, 160, 171, 249, 280, 350, 351, 352, 353, 354, 355, 356, 357, 358, 359, 360, 361, 362, 363, 364, 365, 366, 367, 368, 369, 370, 371, 372, 373, 374, 375, 376, 377, 378, 379, 380, 381, 382, 383, 384, 385, 386, 387, 388, 389, 390, 391, 392, 393, 394, 395, 396, 397, 398, 399, 400, 401, 402, 403, 404, 405, 406, 407, 408, 409, 410, 411, 412, 595, 596, 597, 598, 599, 600, 604, 605, 606, 695, 696, 697, 698, 699, 700, 704, 705, 706, 719, 911, 933, 1110, 1184, 1352]) (by decide +kernel)
theorem exI_b : ∀ w ∈ (vx_at0 RX11 365 exI exNm).filter (fun w => !goodWord w), w ∈ a_B := by decide +kernel
abbrev exA : String := "java/lang/IllegalArgumentException"
theorem exA_fit : Bundle.fit exA = true := by decide +kernel
theorem exA_g : ∀ w ∈ (vx_at0 RX11 368 exA exNm).filter goodWord, w ∈ a_G := exPs_in (ps := [15, 16, 17, 19, 30, 31, 32, 38, 91, 97, 160, 171, 249, 280, 353, 354, 355, 356, 357, 358, 359, 360, 361, 362, 363, 364, 365, 366, 367, 368, 369, 370, 371, 372, 373, 374, 375, 376, 377, 378, 379, 380, 381, 382, 383, 384, 385, 386, 387, 388, 389, 390, 394, 395, 396, 397, 398, 399, 400, 401, 402, 403, 404, 405, 406, 407, 408, 409, 410, 411, 412, 592, 593, 594, 595, 596, 597, 598, 599, 600, 601, 602, 603, 604, 605, 606, 695, 696, 697, 698, 699, 700, 704, 705, 706, 719, 912, 933, 1110, 1184, 1352]) (by decide +kernel)
theorem exA_b : ∀ w ∈ (vx_at0 RX11 368 exA exNm).filter (fun w => !goodWord w), w ∈ a_B := by decide +kernel
abbrev exS : String := "java/lang/IllegalStateException"
theorem exS_fit : Bundle.fit exS = true := by decide +kernel
theorem exS_g : ∀ w ∈ (vx_at0 RX11 371 exS exNm).filter goodWord, w ∈ a_G := exPs_in (ps := [15, 16, 17, 20, 30, 31, 32, 38, 91, 97, 160, 171, 249, 280, 353, 354, 355, 356, 357, 358, 359, 360, 361, 362, 363, 364, 365, 366, 367, 368, 369, 370, 371, 372, 373, 374, 375, 376, 377, 378, 379, 380, 381, 382, 383, 384, 385, 386, 387, 388, 389, 390, 394, 395, 396, 397, 398, 399, 400, 401, 402, 403, 404, 405, 406, 407, 408, 409, 410, 411, 412, 595, 596, 597, 598, 599, 600, 604, 605, 606, 692, 693, 694, 695, 696, 697, 698, 699, 700, 701, 702, 703, 704, 705, 706, 719, 913, 933, 1110, 1184, 1352]) (by decide +kernel)
theorem exS_b : ∀ w ∈ (vx_at0 RX11 371 exS exNm).filter (fun w => !goodWord w), w ∈ a_B := by decide +kernel
set_option maxRecDepth 100000 in
theorem m_X11_needIndexT {T : List aT} {I : aI} {J : aJ} {R : aR} {x : Int32} (hx : ¬ x = 0) : MX11_needIndex 0 0 [.int x] T I J R (aPure none T I J R) := by
  refine a_met (by decide +kernel) a_le (fun X hC hq => ?_)
  show AW X 0 0 0 [some (.int x)] [] T I J R
  refine aw_iload_n hC dX11_needIndex_0 rfl ?_
  refine aw_if_ne (tgt := 12) hC dX11_needIndex_1 (by decide) (fun _ => ?_) (fun h => absurd h hx)
  show AW X 0 0 12 [some (.int x)] [] T I J R
  exact aw_return hC hq rfl dX11_needIndex_12 a_le a_le aPure_v
set_option maxRecDepth 100000 in
theorem m_X11_needIndexF {T : List aT} {I : aI} {J : aJ} {R : aR}  : MX11_needIndex 1 6 [.int 0] T I J R (aTh exI T I J R) := by
  refine a_met (by decide +kernel) a_le (fun X hC hq => ?_)
  show AW X 0 0 0 [some (.int 0)] [] T I J R
  refine aw_iload_n hC dX11_needIndex_0 rfl ?_
  refine aw_if_ne (tgt := 12) hC dX11_needIndex_1 (by decide) (fun h => absurd rfl h) (fun _ => ?_)
  show AW X 0 0 4 [some (.int 0)] [] T I J R
  exact aw_throw hC hq exI_fit exNm_fit gW_X11_363 gN_IndexOutOfBoundsException exI_g exI_b dX11_needIndex_4 dX11_needIndex_7 dX11_needIndex_8 dX11_needIndex_11 (by decide) (by decide) a_le a_le aTh_i
set_option maxRecDepth 100000 in
theorem m_X11_needArgumentT {T : List aT} {I : aI} {J : aJ} {R : aR} {x : Int32} (hx : ¬ x = 0) : MX11_needArgument 0 0 [.int x] T I J R (aPure none T I J R) := by
  refine a_met (by decide +kernel) a_le (fun X hC hq => ?_)
  show AW X 0 0 0 [some (.int x)] [] T I J R
  refine aw_iload_n hC dX11_needArgument_0 rfl ?_
  refine aw_if_ne (tgt := 12) hC dX11_needArgument_1 (by decide) (fun _ => ?_) (fun h => absurd h hx)
  show AW X 0 0 12 [some (.int x)] [] T I J R
  exact aw_return hC hq rfl dX11_needArgument_12 a_le a_le aPure_v
set_option maxRecDepth 100000 in
theorem m_X11_needArgumentF {T : List aT} {I : aI} {J : aJ} {R : aR}  : MX11_needArgument 1 6 [.int 0] T I J R (aTh exA T I J R) := by
  refine a_met (by decide +kernel) a_le (fun X hC hq => ?_)
  show AW X 0 0 0 [some (.int 0)] [] T I J R
  refine aw_iload_n hC dX11_needArgument_0 rfl ?_
  refine aw_if_ne (tgt := 12) hC dX11_needArgument_1 (by decide) (fun h => absurd rfl h) (fun _ => ?_)
  show AW X 0 0 4 [some (.int 0)] [] T I J R
  exact aw_throw hC hq exA_fit exNm_fit gW_X11_366 gN_IllegalArgumentException exA_g exA_b dX11_needArgument_4 dX11_needArgument_7 dX11_needArgument_8 dX11_needArgument_11 (by decide) (by decide) a_le a_le aTh_i
set_option maxRecDepth 100000 in
theorem m_X11_needStateT {T : List aT} {I : aI} {J : aJ} {R : aR} {x : Int32} (hx : ¬ x = 0) : MX11_needState 0 0 [.int x] T I J R (aPure none T I J R) := by
  refine a_met (by decide +kernel) a_le (fun X hC hq => ?_)
  show AW X 0 0 0 [some (.int x)] [] T I J R
  refine aw_iload_n hC dX11_needState_0 rfl ?_
  refine aw_if_ne (tgt := 12) hC dX11_needState_1 (by decide) (fun _ => ?_) (fun h => absurd h hx)
  show AW X 0 0 12 [some (.int x)] [] T I J R
  exact aw_return hC hq rfl dX11_needState_12 a_le a_le aPure_v
set_option maxRecDepth 100000 in
theorem m_X11_needStateF {T : List aT} {I : aI} {J : aJ} {R : aR}  : MX11_needState 1 6 [.int 0] T I J R (aTh exS T I J R) := by
  refine a_met (by decide +kernel) a_le (fun X hC hq => ?_)
  show AW X 0 0 0 [some (.int 0)] [] T I J R
  refine aw_iload_n hC dX11_needState_0 rfl ?_
  refine aw_if_ne (tgt := 12) hC dX11_needState_1 (by decide) (fun h => absurd rfl h) (fun _ => ?_)
  show AW X 0 0 4 [some (.int 0)] [] T I J R
  exact aw_throw hC hq exS_fit exNm_fit gW_X11_369 gN_IllegalStateException exS_g exS_b dX11_needState_4 dX11_needState_7 dX11_needState_8 dX11_needState_11 (by decide) (by decide) a_le a_le aTh_i
