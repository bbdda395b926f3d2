set_option maxRecDepth 100000 in
theorem i_X1_init_1 {I : aI} {J : aJ} {R : aR} : MX1_init 6 112 [.ref 1] (a_tags.take 2) I J R (aPure none (a_tags.take 8) (a_fill I 4 10 (fun _ => (-1))) J (a_u (a_u (a_u (a_u (a_u (a_u R 1 0 (some 2)) 1 2 (some 3)) 1 3 (some 4)) 1 4 (some 5)) 1 5 (some 6)) 1 7 (some 7))) := by
  refine a_met (by decide +kernel) a_le (fun X hC hq => ?_)
  show AW X 0 0 0 [some (.ref 1)] [] (a_tags.take 2) I J R
  refine aw_aload_n hC dX1_init_0 rfl ?_
  refine aw_objInit hC dX1_init_1 gL_X1_3 gOI_i gOI_c (by decide) (by decide) ?_
  refine aw_aload_n hC dX1_init_4 rfl ?_
  refine aw_bipush (v := 30) hC dX1_init_5 (by decide) ?_
  refine aw_anewarray (N := 30) (C := "Layerwright$Statement") hC dX1_init_7 gW_X1_9 (by decide) rfl (by decide) a_le a_le ?_
  rw [show (a_tags.take 2).length = 2 from rfl, show a_tags.take 2 ++ [.inl (.object "Layerwright$Statement", 30)] = a_tags.take 3 from rfl]
  show AW X (0 + 1) (0 + 30) 10 [some (.ref 1)] [.ref 2, .ref 1] (a_tags.take 3) I J R
  refine aw_putRF hC dX1_init_10 aF_X1_11 rfl rfl rfl rfl rfl ?_
  refine aw_aload_n hC dX1_init_13 rfl ?_
  refine aw_bipush (v := 6) hC dX1_init_14 (by decide) ?_
  refine aw_newarrayI (N := 6) hC dX1_init_16 gA_int rfl (by decide) a_le a_le ?_
  rw [show (a_tags.take 3).length = 3 from rfl, show a_tags.take 3 ++ [.inl (.int, 6)] = a_tags.take 4 from rfl]
  show AW X ((0 + 1) + 1) ((0 + 30) + 6) 18 [some (.ref 1)] [.ref 3, .ref 1] (a_tags.take 4) I J (a_u R 1 0 (some 2))
  refine aw_putRF hC dX1_init_18 aF_X1_17 rfl rfl rfl rfl rfl ?_
  refine aw_aload_n hC dX1_init_21 rfl ?_
  refine aw_bipush (v := 10) hC dX1_init_22 (by decide) ?_
  refine aw_newarrayI (N := 10) hC dX1_init_24 gA_int rfl (by decide) a_le a_le ?_
  rw [show (a_tags.take 4).length = 4 from rfl, show a_tags.take 4 ++ [.inl (.int, 10)] = a_tags.take 5 from rfl]
  show AW X (((0 + 1) + 1) + 1) (((0 + 30) + 6) + 10) 26 [some (.ref 1)] [.ref 4, .ref 1] (a_tags.take 5) I J (a_u (a_u R 1 0 (some 2)) 1 2 (some 3))
  refine aw_putRF hC dX1_init_26 aF_X1_21 rfl rfl rfl rfl rfl ?_
  refine aw_aload_n hC dX1_init_29 rfl ?_
  refine aw_bipush (v := 60) hC dX1_init_30 (by decide) ?_
  refine aw_newarrayI (N := 60) hC dX1_init_32 gA_int rfl (by decide) a_le a_le ?_
  rw [show (a_tags.take 5).length = 5 from rfl, show a_tags.take 5 ++ [.inl (.int, 60)] = a_tags.take 6 from rfl]
  show AW X ((((0 + 1) + 1) + 1) + 1) ((((0 + 30) + 6) + 10) + 60) 34 [some (.ref 1)] [.ref 5, .ref 1] (a_tags.take 6) I J (a_u (a_u (a_u R 1 0 (some 2)) 1 2 (some 3)) 1 3 (some 4))
  refine aw_putRF hC dX1_init_34 aF_X1_24 rfl rfl rfl rfl rfl ?_
  refine aw_aload_n hC dX1_init_37 rfl ?_
  refine aw_iconst (v := 3) hC dX1_init_38 (by decide) ?_
  refine aw_newarrayI (N := 3) hC dX1_init_39 gA_int rfl (by decide) a_le a_le ?_
  rw [show (a_tags.take 6).length = 6 from rfl, show a_tags.take 6 ++ [.inl (.int, 3)] = a_tags.take 7 from rfl]
  show AW X (((((0 + 1) + 1) + 1) + 1) + 1) (((((0 + 30) + 6) + 10) + 60) + 3) 41 [some (.ref 1)] [.ref 6, .ref 1] (a_tags.take 7) I J (a_u (a_u (a_u (a_u R 1 0 (some 2)) 1 2 (some 3)) 1 3 (some 4)) 1 4 (some 5))
  refine aw_putRF hC dX1_init_41 aF_X1_27 rfl rfl rfl rfl rfl ?_
  refine aw_aload_n hC dX1_init_44 rfl ?_
  refine aw_iconst (v := 3) hC dX1_init_45 (by decide) ?_
  refine aw_newarrayI (N := 3) hC dX1_init_46 gA_int rfl (by decide) a_le a_le ?_
  rw [show (a_tags.take 7).length = 7 from rfl, show a_tags.take 7 ++ [.inl (.int, 3)] = a_tags.take 8 from rfl]
  show AW X ((((((0 + 1) + 1) + 1) + 1) + 1) + 1) ((((((0 + 30) + 6) + 10) + 60) + 3) + 3) 48 [some (.ref 1)] [.ref 7, .ref 1] (a_tags.take 8) I J (a_u (a_u (a_u (a_u (a_u R 1 0 (some 2)) 1 2 (some 3)) 1 3 (some 4)) 1 4 (some 5)) 1 5 (some 6))
  refine aw_putRF hC dX1_init_48 aF_X1_30 rfl rfl rfl rfl rfl ?_
  refine aw_aload_n hC dX1_init_51 rfl ?_
  refine aw_getR hC dX1_init_52 aF_X1_21 rfl rfl rfl ?_
  refine aw_iconst (v := (-1)) hC dX1_init_55 (by decide) ?_
  refine kX1_33 hC rfl (m_J7_fill_53178 (I := I) (n := 10) rfl (by omega) ((-1) : Int32)) dX1_init_56 rfl a_le a_le a_le a_le a_le rfl aPure_x (aPure_k ?_)
  show AW X ((((((0 + 1) + 1) + 1) + 1) + 1) + 1) ((((((0 + 30) + 6) + 10) + 60) + 3) + 3) 59 [some (.ref 1)] [] (a_tags.take 8) (a_fill I 4 10 (fun _ => (-1))) J (a_u (a_u (a_u (a_u (a_u (a_u R 1 0 (some 2)) 1 2 (some 3)) 1 3 (some 4)) 1 4 (some 5)) 1 5 (some 6)) 1 7 (some 7))
  exact aw_return hC hq rfl dX1_init_59 a_le a_le aPure_v
set_option maxRecDepth 100000 in
theorem i_X7_init_9 {I : aI} {J : aJ} {R : aR} : MX7_init 1 10 [.ref 9] (a_tags.take 10) I J R (aPure none (a_tags.take 11) I J (a_u R 9 0 (some 10))) := by
  refine a_met (by decide +kernel) a_le (fun X hC hq => ?_)
  show AW X 0 0 0 [some (.ref 9)] [] (a_tags.take 10) I J R
  refine aw_aload_n hC dX7_init_0 rfl ?_
  refine aw_objInit hC dX7_init_1 gL_X7_3 gOI_i gOI_c (by decide) (by decide) ?_
  refine aw_aload_n hC dX7_init_4 rfl ?_
  refine aw_bipush (v := 10) hC dX7_init_5 (by decide) ?_
  refine aw_newarrayJ (N := 10) hC dX7_init_7 gA_long rfl (by decide) a_le a_le ?_
  rw [show (a_tags.take 10).length = 10 from rfl, show a_tags.take 10 ++ [.inl (.long, 10)] = a_tags.take 11 from rfl]
  show AW X (0 + 1) (0 + 10) 9 [some (.ref 9)] [.ref 10, .ref 9] (a_tags.take 11) I J R
  refine aw_putRF hC dX7_init_9 aF_X7_9 rfl rfl rfl rfl rfl ?_
  exact aw_return hC hq rfl dX7_init_12 a_le a_le aPure_v
set_option maxRecDepth 100000 in
theorem i_X7_init_12 {I : aI} {J : aJ} {R : aR} : MX7_init 1 10 [.ref 12] (a_tags.take 13) I J R (aPure none (a_tags.take 14) I J (a_u R 12 0 (some 13))) := by
  refine a_met (by decide +kernel) a_le (fun X hC hq => ?_)
  show AW X 0 0 0 [some (.ref 12)] [] (a_tags.take 13) I J R
  refine aw_aload_n hC dX7_init_0 rfl ?_
  refine aw_objInit hC dX7_init_1 gL_X7_3 gOI_i gOI_c (by decide) (by decide) ?_
  refine aw_aload_n hC dX7_init_4 rfl ?_
  refine aw_bipush (v := 10) hC dX7_init_5 (by decide) ?_
  refine aw_newarrayJ (N := 10) hC dX7_init_7 gA_long rfl (by decide) a_le a_le ?_
  rw [show (a_tags.take 13).length = 13 from rfl, show a_tags.take 13 ++ [.inl (.long, 10)] = a_tags.take 14 from rfl]
  show AW X (0 + 1) (0 + 10) 9 [some (.ref 12)] [.ref 13, .ref 12] (a_tags.take 14) I J R
  refine aw_putRF hC dX7_init_9 aF_X7_9 rfl rfl rfl rfl rfl ?_
  exact aw_return hC hq rfl dX7_init_12 a_le a_le aPure_v
set_option maxRecDepth 100000 in
theorem i_X7_init_14 {I : aI} {J : aJ} {R : aR} : MX7_init 1 10 [.ref 14] (a_tags.take 15) I J R (aPure none (a_tags.take 16) I J (a_u R 14 0 (some 15))) := by
  refine a_met (by decide +kernel) a_le (fun X hC hq => ?_)
  show AW X 0 0 0 [some (.ref 14)] [] (a_tags.take 15) I J R
  refine aw_aload_n hC dX7_init_0 rfl ?_
  refine aw_objInit hC dX7_init_1 gL_X7_3 gOI_i gOI_c (by decide) (by decide) ?_
  refine aw_aload_n hC dX7_init_4 rfl ?_
  refine aw_bipush (v := 10) hC dX7_init_5 (by decide) ?_
  refine aw_newarrayJ (N := 10) hC dX7_init_7 gA_long rfl (by decide) a_le a_le ?_
  rw [show (a_tags.take 15).length = 15 from rfl, show a_tags.take 15 ++ [.inl (.long, 10)] = a_tags.take 16 from rfl]
  show AW X (0 + 1) (0 + 10) 9 [some (.ref 14)] [.ref 15, .ref 14] (a_tags.take 16) I J R
  refine aw_putRF hC dX7_init_9 aF_X7_9 rfl rfl rfl rfl rfl ?_
  exact aw_return hC hq rfl dX7_init_12 a_le a_le aPure_v
set_option maxRecDepth 100000 in
theorem i_X10_init_8 {I : aI} {J : aJ} {R : aR} : MX10_init 10 133 [.ref 8, .ref 1] (a_tags.take 9) I J R (aPure none (a_tags.take 19) I J (a_u (a_u (a_u (a_u (a_u (a_u (a_u (a_u (a_u (a_u (a_u R 9 0 (some 10)) 8 1 (some 9)) 8 4 (some 11)) 12 0 (some 13)) 8 5 (some 12)) 14 0 (some 15)) 8 6 (some 14)) 8 7 (some 16)) 8 8 (some 17)) 8 9 (some 18)) 8 0 (some 1))) := by
  refine a_met (by decide +kernel) a_le (fun X hC hq => ?_)
  show AW X 0 0 0 [some (.ref 8), some (.ref 1)] [] (a_tags.take 9) I J R
  refine aw_aload_n hC dX10_init_0 rfl ?_
  refine aw_objInit hC dX10_init_1 gL_X10_3 gOI_i gOI_c (by decide) (by decide) ?_
  refine aw_aload_n hC dX10_init_4 rfl ?_
  refine aw_new hC dX10_init_5 aK_X7 gW_X10_9 gB_X7 gN_X7 a_le a_le ?_
  rw [show (a_tags.take 9).length = 9 from rfl, show a_tags.take 9 ++ [.inr 7] = a_tags.take 10 from rfl]
  show AW X (0 + 1) (0 + a_nf 7) 8 [some (.ref 8), some (.ref 1)] [.ref 9, .ref 8] (a_tags.take 10) I J R
  refine aw_dup hC dX10_init_8 rfl ?_
  refine kX10_11 hC rfl (i_X7_init_9 (I := I) (J := J) (R := R)) dX10_init_9 rfl a_le a_le a_le a_le a_le rfl aPure_x (aPure_k ?_)
  show AW X ((0 + 1) + 1) ((0 + a_nf 7) + 10) 12 [some (.ref 8), some (.ref 1)] [.ref 9, .ref 8] (a_tags.take 11) I J (a_u R 9 0 (some 10))
  refine aw_putRF hC dX10_init_12 aF_X10_12 rfl rfl rfl rfl rfl ?_
  refine aw_aload_n hC dX10_init_15 rfl ?_
  refine aw_bipush (v := 10) hC dX10_init_16 (by decide) ?_
  refine aw_newarrayI (N := 10) hC dX10_init_18 gA_int rfl (by decide) a_le a_le ?_
  rw [show (a_tags.take 11).length = 11 from rfl, show a_tags.take 11 ++ [.inl (.int, 10)] = a_tags.take 12 from rfl]
  show AW X (((0 + 1) + 1) + 1) (((0 + a_nf 7) + 10) + 10) 20 [some (.ref 8), some (.ref 1)] [.ref 11, .ref 8] (a_tags.take 12) I J (a_u (a_u R 9 0 (some 10)) 8 1 (some 9))
  refine aw_putRF hC dX10_init_20 aF_X10_18 rfl rfl rfl rfl rfl ?_
  refine aw_aload_n hC dX10_init_23 rfl ?_
  refine aw_new hC dX10_init_24 aK_X7 gW_X10_9 gB_X7 gN_X7 a_le a_le ?_
  rw [show (a_tags.take 12).length = 12 from rfl, show a_tags.take 12 ++ [.inr 7] = a_tags.take 13 from rfl]
  show AW X ((((0 + 1) + 1) + 1) + 1) ((((0 + a_nf 7) + 10) + 10) + a_nf 7) 27 [some (.ref 8), some (.ref 1)] [.ref 12, .ref 8] (a_tags.take 13) I J (a_u (a_u (a_u R 9 0 (some 10)) 8 1 (some 9)) 8 4 (some 11))
  refine aw_dup hC dX10_init_27 rfl ?_
  refine kX10_11 hC rfl (i_X7_init_12 (I := I) (J := J) (R := a_u (a_u (a_u R 9 0 (some 10)) 8 1 (some 9)) 8 4 (some 11))) dX10_init_28 rfl a_le a_le a_le a_le a_le rfl aPure_x (aPure_k ?_)
  show AW X (((((0 + 1) + 1) + 1) + 1) + 1) (((((0 + a_nf 7) + 10) + 10) + a_nf 7) + 10) 31 [some (.ref 8), some (.ref 1)] [.ref 12, .ref 8] (a_tags.take 14) I J (a_u (a_u (a_u (a_u R 9 0 (some 10)) 8 1 (some 9)) 8 4 (some 11)) 12 0 (some 13))
  refine aw_putRF hC dX10_init_31 aF_X10_22 rfl rfl rfl rfl rfl ?_
  refine aw_aload_n hC dX10_init_34 rfl ?_
  refine aw_new hC dX10_init_35 aK_X7 gW_X10_9 gB_X7 gN_X7 a_le a_le ?_
  rw [show (a_tags.take 14).length = 14 from rfl, show a_tags.take 14 ++ [.inr 7] = a_tags.take 15 from rfl]
  show AW X ((((((0 + 1) + 1) + 1) + 1) + 1) + 1) ((((((0 + a_nf 7) + 10) + 10) + a_nf 7) + 10) + a_nf 7) 38 [some (.ref 8), some (.ref 1)] [.ref 14, .ref 8] (a_tags.take 15) I J (a_u (a_u (a_u (a_u (a_u R 9 0 (some 10)) 8 1 (some 9)) 8 4 (some 11)) 12 0 (some 13)) 8 5 (some 12))
  refine aw_dup hC dX10_init_38 rfl ?_
  refine kX10_11 hC rfl (i_X7_init_14 (I := I) (J := J) (R := a_u (a_u (a_u (a_u (a_u R 9 0 (some 10)) 8 1 (some 9)) 8 4 (some 11)) 12 0 (some 13)) 8 5 (some 12))) dX10_init_39 rfl a_le a_le a_le a_le a_le rfl aPure_x (aPure_k ?_)
  show AW X (((((((0 + 1) + 1) + 1) + 1) + 1) + 1) + 1) (((((((0 + a_nf 7) + 10) + 10) + a_nf 7) + 10) + a_nf 7) + 10) 42 [some (.ref 8), some (.ref 1)] [.ref 14, .ref 8] (a_tags.take 16) I J (a_u (a_u (a_u (a_u (a_u (a_u R 9 0 (some 10)) 8 1 (some 9)) 8 4 (some 11)) 12 0 (some 13)) 8 5 (some 12)) 14 0 (some 15))
  refine aw_putRF hC dX10_init_42 aF_X10_25 rfl rfl rfl rfl rfl ?_
  refine aw_aload_n hC dX10_init_45 rfl ?_
  refine aw_bipush (v := 30) hC dX10_init_46 (by decide) ?_
  refine aw_anewarray (N := 30) (C := "Layerwright$Statement") hC dX10_init_48 gW_X10_28 (by decide) rfl (by decide) a_le a_le ?_
  rw [show (a_tags.take 16).length = 16 from rfl, show a_tags.take 16 ++ [.inl (.object "Layerwright$Statement", 30)] = a_tags.take 17 from rfl]
  show AW X ((((((((0 + 1) + 1) + 1) + 1) + 1) + 1) + 1) + 1) ((((((((0 + a_nf 7) + 10) + 10) + a_nf 7) + 10) + a_nf 7) + 10) + 30) 51 [some (.ref 8), some (.ref 1)] [.ref 16, .ref 8] (a_tags.take 17) I J (a_u (a_u (a_u (a_u (a_u (a_u (a_u R 9 0 (some 10)) 8 1 (some 9)) 8 4 (some 11)) 12 0 (some 13)) 8 5 (some 12)) 14 0 (some 15)) 8 6 (some 14))
  refine aw_putRF hC dX10_init_51 aF_X10_30 rfl rfl rfl rfl rfl ?_
  refine aw_aload_n hC dX10_init_54 rfl ?_
  refine aw_bipush (v := 30) hC dX10_init_55 (by decide) ?_
  refine aw_newarrayI (N := 30) hC dX10_init_57 gA_int rfl (by decide) a_le a_le ?_
  rw [show (a_tags.take 17).length = 17 from rfl, show a_tags.take 17 ++ [.inl (.int, 30)] = a_tags.take 18 from rfl]
  show AW X (((((((((0 + 1) + 1) + 1) + 1) + 1) + 1) + 1) + 1) + 1) (((((((((0 + a_nf 7) + 10) + 10) + a_nf 7) + 10) + a_nf 7) + 10) + 30) + 30) 59 [some (.ref 8), some (.ref 1)] [.ref 17, .ref 8] (a_tags.take 18) I J (a_u (a_u (a_u (a_u (a_u (a_u (a_u (a_u R 9 0 (some 10)) 8 1 (some 9)) 8 4 (some 11)) 12 0 (some 13)) 8 5 (some 12)) 14 0 (some 15)) 8 6 (some 14)) 8 7 (some 16))
  refine aw_putRF hC dX10_init_59 aF_X10_34 rfl rfl rfl rfl rfl ?_
  refine aw_aload_n hC dX10_init_62 rfl ?_
  refine aw_bipush (v := 30) hC dX10_init_63 (by decide) ?_
  refine aw_newarrayI (N := 30) hC dX10_init_65 gA_int rfl (by decide) a_le a_le ?_
  rw [show (a_tags.take 18).length = 18 from rfl, show a_tags.take 18 ++ [.inl (.int, 30)] = a_tags.take 19 from rfl]
  show AW X ((((((((((0 + 1) + 1) + 1) + 1) + 1) + 1) + 1) + 1) + 1) + 1) ((((((((((0 + a_nf 7) + 10) + 10) + a_nf 7) + 10) + a_nf 7) + 10) + 30) + 30) + 30) 67 [some (.ref 8), some (.ref 1)] [.ref 18, .ref 8] (a_tags.take 19) I J (a_u (a_u (a_u (a_u (a_u (a_u (a_u (a_u (a_u R 9 0 (some 10)) 8 1 (some 9)) 8 4 (some 11)) 12 0 (some 13)) 8 5 (some 12)) 14 0 (some 15)) 8 6 (some 14)) 8 7 (some 16)) 8 8 (some 17))
  refine aw_putRF hC dX10_init_67 aF_X10_37 rfl rfl rfl rfl rfl ?_
  refine aw_aload_n hC dX10_init_70 rfl ?_
  refine aw_aload_n hC dX10_init_71 rfl ?_
  refine aw_putRF hC dX10_init_72 aF_X10_40 rfl rfl rfl rfl rfl ?_
  exact aw_return hC hq rfl dX10_init_75 a_le a_le aPure_v
set_option maxRecDepth 100000 in
theorem i_X9_init_27 {I : aI} {J : aJ} {R : aR} : MX9_init 1 3 [.ref 27] (a_tags.take 28) I J R (aPure none (a_tags.take 29) I J (a_u R 27 0 (some 28))) := by
  refine a_met (by decide +kernel) a_le (fun X hC hq => ?_)
  show AW X 0 0 0 [some (.ref 27)] [] (a_tags.take 28) I J R
  refine aw_aload_n hC dX9_init_0 rfl ?_
  refine aw_objInit hC dX9_init_1 gL_X9_3 gOI_i gOI_c (by decide) (by decide) ?_
  refine aw_aload_n hC dX9_init_4 rfl ?_
  refine aw_iconst (v := 3) hC dX9_init_5 (by decide) ?_
  refine aw_newarrayI (N := 3) hC dX9_init_6 gA_int rfl (by decide) a_le a_le ?_
  rw [show (a_tags.take 28).length = 28 from rfl, show a_tags.take 28 ++ [.inl (.int, 3)] = a_tags.take 29 from rfl]
  show AW X (0 + 1) (0 + 3) 8 [some (.ref 27)] [.ref 28, .ref 27] (a_tags.take 29) I J R
  refine aw_putRF hC dX9_init_8 aF_X9_9 rfl rfl rfl rfl rfl ?_
  exact aw_return hC hq rfl dX9_init_11 a_le a_le aPure_v
set_option maxRecDepth 100000 in
theorem i_X9_init_29 {I : aI} {J : aJ} {R : aR} : MX9_init 1 3 [.ref 29] (a_tags.take 30) I J R (aPure none (a_tags.take 31) I J (a_u R 29 0 (some 30))) := by
  refine a_met (by decide +kernel) a_le (fun X hC hq => ?_)
  show AW X 0 0 0 [some (.ref 29)] [] (a_tags.take 30) I J R
  refine aw_aload_n hC dX9_init_0 rfl ?_
  refine aw_objInit hC dX9_init_1 gL_X9_3 gOI_i gOI_c (by decide) (by decide) ?_
  refine aw_aload_n hC dX9_init_4 rfl ?_
  refine aw_iconst (v := 3) hC dX9_init_5 (by decide) ?_
  refine aw_newarrayI (N := 3) hC dX9_init_6 gA_int rfl (by decide) a_le a_le ?_
  rw [show (a_tags.take 30).length = 30 from rfl, show a_tags.take 30 ++ [.inl (.int, 3)] = a_tags.take 31 from rfl]
  show AW X (0 + 1) (0 + 3) 8 [some (.ref 29)] [.ref 30, .ref 29] (a_tags.take 31) I J R
  refine aw_putRF hC dX9_init_8 aF_X9_9 rfl rfl rfl rfl rfl ?_
  exact aw_return hC hq rfl dX9_init_11 a_le a_le aPure_v
set_option maxRecDepth 100000 in
theorem i_X9_init_31 {I : aI} {J : aJ} {R : aR} : MX9_init 1 3 [.ref 31] (a_tags.take 32) I J R (aPure none (a_tags.take 33) I J (a_u R 31 0 (some 32))) := by
  refine a_met (by decide +kernel) a_le (fun X hC hq => ?_)
  show AW X 0 0 0 [some (.ref 31)] [] (a_tags.take 32) I J R
  refine aw_aload_n hC dX9_init_0 rfl ?_
  refine aw_objInit hC dX9_init_1 gL_X9_3 gOI_i gOI_c (by decide) (by decide) ?_
  refine aw_aload_n hC dX9_init_4 rfl ?_
  refine aw_iconst (v := 3) hC dX9_init_5 (by decide) ?_
  refine aw_newarrayI (N := 3) hC dX9_init_6 gA_int rfl (by decide) a_le a_le ?_
  rw [show (a_tags.take 32).length = 32 from rfl, show a_tags.take 32 ++ [.inl (.int, 3)] = a_tags.take 33 from rfl]
  show AW X (0 + 1) (0 + 3) 8 [some (.ref 31)] [.ref 32, .ref 31] (a_tags.take 33) I J R
  refine aw_putRF hC dX9_init_8 aF_X9_9 rfl rfl rfl rfl rfl ?_
  exact aw_return hC hq rfl dX9_init_11 a_le a_le aPure_v
set_option maxRecDepth 100000 in
theorem i_X4_init_19 {I : aI} {J : aJ} {R : aR} : MX4_init 13 456 [.ref 19] (a_tags.take 20) I J R (aPure none (a_tags.take 33) I J (a_u (a_u (a_u (a_u (a_u (a_u (a_u (a_u (a_u (a_u (a_u (a_u (a_u R 19 0 (some 20)) 19 1 (some 21)) 19 3 (some 22)) 19 4 (some 23)) 19 5 (some 24)) 19 7 (some 25)) 19 9 (some 26)) 27 0 (some 28)) 20 0 (some 27)) 29 0 (some 30)) 20 1 (some 29)) 31 0 (some 32)) 20 2 (some 31))) := by
  refine a_met (by decide +kernel) a_le (fun X hC hq => ?_)
  show AW X 0 0 0 [some (.ref 19), none] [] (a_tags.take 20) I J R
  refine aw_aload_n hC dX4_init_0 rfl ?_
  refine aw_objInit hC dX4_init_1 gL_X4_3 gOI_i gOI_c (by decide) (by decide) ?_
  refine aw_aload_n hC dX4_init_4 rfl ?_
  refine aw_iconst (v := 3) hC dX4_init_5 (by decide) ?_
  refine aw_anewarray (N := 3) (C := "Layerwright$Type") hC dX4_init_6 gW_X4_9 (by decide) rfl (by decide) a_le a_le ?_
  rw [show (a_tags.take 20).length = 20 from rfl, show a_tags.take 20 ++ [.inl (.object "Layerwright$Type", 3)] = a_tags.take 21 from rfl]
  show AW X (0 + 1) (0 + 3) 9 [some (.ref 19), none] [.ref 20, .ref 19] (a_tags.take 21) I J R
  refine aw_putRF hC dX4_init_9 aF_X4_11 rfl rfl rfl rfl rfl ?_
  refine aw_aload_n hC dX4_init_12 rfl ?_
  refine aw_iconst (v := 4) hC dX4_init_13 (by decide) ?_
  refine aw_anewarray (N := 4) (C := "Layerwright$Generator") hC dX4_init_14 gW_X4_17 (by decide) rfl (by decide) a_le a_le ?_
  rw [show (a_tags.take 21).length = 21 from rfl, show a_tags.take 21 ++ [.inl (.object "Layerwright$Generator", 4)] = a_tags.take 22 from rfl]
  show AW X ((0 + 1) + 1) ((0 + 3) + 4) 17 [some (.ref 19), none] [.ref 21, .ref 19] (a_tags.take 22) I J (a_u R 19 0 (some 20))
  refine aw_putRF hC dX4_init_17 aF_X4_19 rfl rfl rfl rfl rfl ?_
  refine aw_aload_n hC dX4_init_20 rfl ?_
  refine aw_bipush (v := 60) hC dX4_init_21 (by decide) ?_
  refine aw_newarrayI (N := 60) hC dX4_init_23 gA_int rfl (by decide) a_le a_le ?_
  rw [show (a_tags.take 22).length = 22 from rfl, show a_tags.take 22 ++ [.inl (.int, 60)] = a_tags.take 23 from rfl]
  show AW X (((0 + 1) + 1) + 1) (((0 + 3) + 4) + 60) 25 [some (.ref 19), none] [.ref 22, .ref 19] (a_tags.take 23) I J (a_u (a_u R 19 0 (some 20)) 19 1 (some 21))
  refine aw_putRF hC dX4_init_25 aF_X4_23 rfl rfl rfl rfl rfl ?_
  refine aw_aload_n hC dX4_init_28 rfl ?_
  refine aw_sipush (v := 180) hC dX4_init_29 (by decide) ?_
  refine aw_newarrayI (N := 180) hC dX4_init_32 gA_int rfl (by decide) a_le a_le ?_
  rw [show (a_tags.take 23).length = 23 from rfl, show a_tags.take 23 ++ [.inl (.int, 180)] = a_tags.take 24 from rfl]
  show AW X ((((0 + 1) + 1) + 1) + 1) ((((0 + 3) + 4) + 60) + 180) 34 [some (.ref 19), none] [.ref 23, .ref 19] (a_tags.take 24) I J (a_u (a_u (a_u R 19 0 (some 20)) 19 1 (some 21)) 19 3 (some 22))
  refine aw_putRF hC dX4_init_34 aF_X4_27 rfl rfl rfl rfl rfl ?_
  refine aw_aload_n hC dX4_init_37 rfl ?_
  refine aw_bipush (v := 60) hC dX4_init_38 (by decide) ?_
  refine aw_newarrayZ (N := 60) hC dX4_init_40 gA_boolean rfl (by decide) a_le a_le ?_
  rw [show (a_tags.take 24).length = 24 from rfl, show a_tags.take 24 ++ [.inl (.boolean, 60)] = a_tags.take 25 from rfl]
  show AW X (((((0 + 1) + 1) + 1) + 1) + 1) (((((0 + 3) + 4) + 60) + 180) + 60) 42 [some (.ref 19), none] [.ref 24, .ref 19] (a_tags.take 25) I J (a_u (a_u (a_u (a_u R 19 0 (some 20)) 19 1 (some 21)) 19 3 (some 22)) 19 4 (some 23))
  refine aw_putRF hC dX4_init_42 aF_X4_30 rfl rfl rfl rfl rfl ?_
  refine aw_aload_n hC dX4_init_45 rfl ?_
  refine aw_bipush (v := 64) hC dX4_init_46 (by decide) ?_
  refine aw_anewarray (N := 64) (C := "Layerwright$Entry") hC dX4_init_48 gW_X4_34 (by decide) rfl (by decide) a_le a_le ?_
  rw [show (a_tags.take 25).length = 25 from rfl, show a_tags.take 25 ++ [.inl (.object "Layerwright$Entry", 64)] = a_tags.take 26 from rfl]
  show AW X ((((((0 + 1) + 1) + 1) + 1) + 1) + 1) ((((((0 + 3) + 4) + 60) + 180) + 60) + 64) 51 [some (.ref 19), none] [.ref 25, .ref 19] (a_tags.take 26) I J (a_u (a_u (a_u (a_u (a_u R 19 0 (some 20)) 19 1 (some 21)) 19 3 (some 22)) 19 4 (some 23)) 19 5 (some 24))
  refine aw_putRF hC dX4_init_51 aF_X4_36 rfl rfl rfl rfl rfl ?_
  refine aw_aload_n hC dX4_init_54 rfl ?_
  refine aw_bipush (v := 64) hC dX4_init_55 (by decide) ?_
  refine aw_newarrayI (N := 64) hC dX4_init_57 gA_int rfl (by decide) a_le a_le ?_
  rw [show (a_tags.take 26).length = 26 from rfl, show a_tags.take 26 ++ [.inl (.int, 64)] = a_tags.take 27 from rfl]
  show AW X (((((((0 + 1) + 1) + 1) + 1) + 1) + 1) + 1) (((((((0 + 3) + 4) + 60) + 180) + 60) + 64) + 64) 59 [some (.ref 19), none] [.ref 26, .ref 19] (a_tags.take 27) I J (a_u (a_u (a_u (a_u (a_u (a_u R 19 0 (some 20)) 19 1 (some 21)) 19 3 (some 22)) 19 4 (some 23)) 19 5 (some 24)) 19 7 (some 25))
  refine aw_putRF hC dX4_init_59 aF_X4_40 rfl rfl rfl rfl rfl ?_
  refine aw_iconst (v := 0) hC dX4_init_62 (by decide) ?_
  refine aw_istore_n (L2 := [some (.ref 19), some (.int 0)]) hC dX4_init_63 rfl (by decide) rfl ?_
  refine aw_iload_n hC dX4_init_64 rfl ?_
  refine aw_iconst (v := 3) hC dX4_init_65 (by decide) ?_
  refine aw_icmp_ge (tgt := 88) hC dX4_init_66 (by decide) (fun h1 => absurd h1 (by decide)) (fun _ => ?_)
  show AW X (((((((0 + 1) + 1) + 1) + 1) + 1) + 1) + 1) (((((((0 + 3) + 4) + 60) + 180) + 60) + 64) + 64) 69 [some (.ref 19), some (.int 0)] [] (a_tags.take 27) I J (a_u (a_u (a_u (a_u (a_u (a_u (a_u R 19 0 (some 20)) 19 1 (some 21)) 19 3 (some 22)) 19 4 (some 23)) 19 5 (some 24)) 19 7 (some 25)) 19 9 (some 26))
  refine aw_aload_n hC dX4_init_69 rfl ?_
  refine aw_getR hC dX4_init_70 aF_X4_11 rfl rfl rfl ?_
  refine aw_iload_n hC dX4_init_73 rfl ?_
  refine aw_new hC dX4_init_74 aK_X9 gW_X4_9 gB_X9 gN_X9 a_le a_le ?_
  rw [show (a_tags.take 27).length = 27 from rfl, show a_tags.take 27 ++ [.inr 9] = a_tags.take 28 from rfl]
  show AW X ((((((((0 + 1) + 1) + 1) + 1) + 1) + 1) + 1) + 1) ((((((((0 + 3) + 4) + 60) + 180) + 60) + 64) + 64) + a_nf 9) 77 [some (.ref 19), some (.int 0)] [.ref 27, .int 0, .ref 20] (a_tags.take 28) I J (a_u (a_u (a_u (a_u (a_u (a_u (a_u R 19 0 (some 20)) 19 1 (some 21)) 19 3 (some 22)) 19 4 (some 23)) 19 5 (some 24)) 19 7 (some 25)) 19 9 (some 26))
  refine aw_dup hC dX4_init_77 rfl ?_
  refine kX4_43 hC rfl (i_X9_init_27 (I := I) (J := J) (R := a_u (a_u (a_u (a_u (a_u (a_u (a_u R 19 0 (some 20)) 19 1 (some 21)) 19 3 (some 22)) 19 4 (some 23)) 19 5 (some 24)) 19 7 (some 25)) 19 9 (some 26))) dX4_init_78 rfl a_le a_le a_le a_le a_le rfl aPure_x (aPure_k ?_)
  show AW X (((((((((0 + 1) + 1) + 1) + 1) + 1) + 1) + 1) + 1) + 1) (((((((((0 + 3) + 4) + 60) + 180) + 60) + 64) + 64) + a_nf 9) + 3) 81 [some (.ref 19), some (.int 0)] [.ref 27, .int 0, .ref 20] (a_tags.take 29) I J (a_u (a_u (a_u (a_u (a_u (a_u (a_u (a_u R 19 0 (some 20)) 19 1 (some 21)) 19 3 (some 22)) 19 4 (some 23)) 19 5 (some 24)) 19 7 (some 25)) 19 9 (some 26)) 27 0 (some 28))
  refine aw_aastoreR_k (j := 0) hC dX4_init_81 rfl (by decide) (by unfold vp_in; decide) rfl rfl ?_
  refine aw_iinc (v := 1) (L2 := [some (.ref 19), some (.int 1)]) hC dX4_init_82 rfl (by decide) (by decide) rfl ?_
  refine aw_goto (tgt := 64) hC dX4_init_85 (by decide) ?_
  refine aw_iload_n hC dX4_init_64 rfl ?_
  refine aw_iconst (v := 3) hC dX4_init_65 (by decide) ?_
  refine aw_icmp_ge (tgt := 88) hC dX4_init_66 (by decide) (fun h2 => absurd h2 (by decide)) (fun _ => ?_)
  show AW X (((((((((0 + 1) + 1) + 1) + 1) + 1) + 1) + 1) + 1) + 1) (((((((((0 + 3) + 4) + 60) + 180) + 60) + 64) + 64) + a_nf 9) + 3) 69 [some (.ref 19), some (.int 1)] [] (a_tags.take 29) I J (a_u (a_u (a_u (a_u (a_u (a_u (a_u (a_u (a_u R 19 0 (some 20)) 19 1 (some 21)) 19 3 (some 22)) 19 4 (some 23)) 19 5 (some 24)) 19 7 (some 25)) 19 9 (some 26)) 27 0 (some 28)) 20 0 (some 27))
  refine aw_aload_n hC dX4_init_69 rfl ?_
  refine aw_getR hC dX4_init_70 aF_X4_11 rfl rfl rfl ?_
  refine aw_iload_n hC dX4_init_73 rfl ?_
  refine aw_new hC dX4_init_74 aK_X9 gW_X4_9 gB_X9 gN_X9 a_le a_le ?_
  rw [show (a_tags.take 29).length = 29 from rfl, show a_tags.take 29 ++ [.inr 9] = a_tags.take 30 from rfl]
  show AW X ((((((((((0 + 1) + 1) + 1) + 1) + 1) + 1) + 1) + 1) + 1) + 1) ((((((((((0 + 3) + 4) + 60) + 180) + 60) + 64) + 64) + a_nf 9) + 3) + a_nf 9) 77 [some (.ref 19), some (.int 1)] [.ref 29, .int 1, .ref 20] (a_tags.take 30) I J (a_u (a_u (a_u (a_u (a_u (a_u (a_u (a_u (a_u R 19 0 (some 20)) 19 1 (some 21)) 19 3 (some 22)) 19 4 (some 23)) 19 5 (some 24)) 19 7 (some 25)) 19 9 (some 26)) 27 0 (some 28)) 20 0 (some 27))
  refine aw_dup hC dX4_init_77 rfl ?_
  refine kX4_43 hC rfl (i_X9_init_29 (I := I) (J := J) (R := a_u (a_u (a_u (a_u (a_u (a_u (a_u (a_u (a_u R 19 0 (some 20)) 19 1 (some 21)) 19 3 (some 22)) 19 4 (some 23)) 19 5 (some 24)) 19 7 (some 25)) 19 9 (some 26)) 27 0 (some 28)) 20 0 (some 27))) dX4_init_78 rfl a_le a_le a_le a_le a_le rfl aPure_x (aPure_k ?_)
  show AW X (((((((((((0 + 1) + 1) + 1) + 1) + 1) + 1) + 1) + 1) + 1) + 1) + 1) (((((((((((0 + 3) + 4) + 60) + 180) + 60) + 64) + 64) + a_nf 9) + 3) + a_nf 9) + 3) 81 [some (.ref 19), some (.int 1)] [.ref 29, .int 1, .ref 20] (a_tags.take 31) I J (a_u (a_u (a_u (a_u (a_u (a_u (a_u (a_u (a_u (a_u R 19 0 (some 20)) 19 1 (some 21)) 19 3 (some 22)) 19 4 (some 23)) 19 5 (some 24)) 19 7 (some 25)) 19 9 (some 26)) 27 0 (some 28)) 20 0 (some 27)) 29 0 (some 30))
  refine aw_aastoreR_k (j := 1) hC dX4_init_81 rfl (by decide) (by unfold vp_in; decide) rfl rfl ?_
  refine aw_iinc (v := 2) (L2 := [some (.ref 19), some (.int 2)]) hC dX4_init_82 rfl (by decide) (by decide) rfl ?_
  refine aw_goto (tgt := 64) hC dX4_init_85 (by decide) ?_
  refine aw_iload_n hC dX4_init_64 rfl ?_
  refine aw_iconst (v := 3) hC dX4_init_65 (by decide) ?_
  refine aw_icmp_ge (tgt := 88) hC dX4_init_66 (by decide) (fun h3 => absurd h3 (by decide)) (fun _ => ?_)
  show AW X (((((((((((0 + 1) + 1) + 1) + 1) + 1) + 1) + 1) + 1) + 1) + 1) + 1) (((((((((((0 + 3) + 4) + 60) + 180) + 60) + 64) + 64) + a_nf 9) + 3) + a_nf 9) + 3) 69 [some (.ref 19), some (.int 2)] [] (a_tags.take 31) I J (a_u (a_u (a_u (a_u (a_u (a_u (a_u (a_u (a_u (a_u (a_u R 19 0 (some 20)) 19 1 (some 21)) 19 3 (some 22)) 19 4 (some 23)) 19 5 (some 24)) 19 7 (some 25)) 19 9 (some 26)) 27 0 (some 28)) 20 0 (some 27)) 29 0 (some 30)) 20 1 (some 29))
  refine aw_aload_n hC dX4_init_69 rfl ?_
  refine aw_getR hC dX4_init_70 aF_X4_11 rfl rfl rfl ?_
  refine aw_iload_n hC dX4_init_73 rfl ?_
  refine aw_new hC dX4_init_74 aK_X9 gW_X4_9 gB_X9 gN_X9 a_le a_le ?_
  rw [show (a_tags.take 31).length = 31 from rfl, show a_tags.take 31 ++ [.inr 9] = a_tags.take 32 from rfl]
  show AW X ((((((((((((0 + 1) + 1) + 1) + 1) + 1) + 1) + 1) + 1) + 1) + 1) + 1) + 1) ((((((((((((0 + 3) + 4) + 60) + 180) + 60) + 64) + 64) + a_nf 9) + 3) + a_nf 9) + 3) + a_nf 9) 77 [some (.ref 19), some (.int 2)] [.ref 31, .int 2, .ref 20] (a_tags.take 32) I J (a_u (a_u (a_u (a_u (a_u (a_u (a_u (a_u (a_u (a_u (a_u R 19 0 (some 20)) 19 1 (some 21)) 19 3 (some 22)) 19 4 (some 23)) 19 5 (some 24)) 19 7 (some 25)) 19 9 (some 26)) 27 0 (some 28)) 20 0 (some 27)) 29 0 (some 30)) 20 1 (some 29))
  refine aw_dup hC dX4_init_77 rfl ?_
  refine kX4_43 hC rfl (i_X9_init_31 (I := I) (J := J) (R := a_u (a_u (a_u (a_u (a_u (a_u (a_u (a_u (a_u (a_u (a_u R 19 0 (some 20)) 19 1 (some 21)) 19 3 (some 22)) 19 4 (some 23)) 19 5 (some 24)) 19 7 (some 25)) 19 9 (some 26)) 27 0 (some 28)) 20 0 (some 27)) 29 0 (some 30)) 20 1 (some 29))) dX4_init_78 rfl a_le a_le a_le a_le a_le rfl aPure_x (aPure_k ?_)
  show AW X (((((((((((((0 + 1) + 1) + 1) + 1) + 1) + 1) + 1) + 1) + 1) + 1) + 1) + 1) + 1) (((((((((((((0 + 3) + 4) + 60) + 180) + 60) + 64) + 64) + a_nf 9) + 3) + a_nf 9) + 3) + a_nf 9) + 3) 81 [some (.ref 19), some (.int 2)] [.ref 31, .int 2, .ref 20] (a_tags.take 33) I J (a_u (a_u (a_u (a_u (a_u (a_u (a_u (a_u (a_u (a_u (a_u (a_u R 19 0 (some 20)) 19 1 (some 21)) 19 3 (some 22)) 19 4 (some 23)) 19 5 (some 24)) 19 7 (some 25)) 19 9 (some 26)) 27 0 (some 28)) 20 0 (some 27)) 29 0 (some 30)) 20 1 (some 29)) 31 0 (some 32))
  refine aw_aastoreR_k (j := 2) hC dX4_init_81 rfl (by decide) (by unfold vp_in; decide) rfl rfl ?_
  refine aw_iinc (v := 3) (L2 := [some (.ref 19), some (.int 3)]) hC dX4_init_82 rfl (by decide) (by decide) rfl ?_
  refine aw_goto (tgt := 64) hC dX4_init_85 (by decide) ?_
  refine aw_iload_n hC dX4_init_64 rfl ?_
  refine aw_iconst (v := 3) hC dX4_init_65 (by decide) ?_
  refine aw_icmp_ge (tgt := 88) hC dX4_init_66 (by decide) (fun _ => ?_) (fun h4 => absurd h4 (by decide))
  show AW X (((((((((((((0 + 1) + 1) + 1) + 1) + 1) + 1) + 1) + 1) + 1) + 1) + 1) + 1) + 1) (((((((((((((0 + 3) + 4) + 60) + 180) + 60) + 64) + 64) + a_nf 9) + 3) + a_nf 9) + 3) + a_nf 9) + 3) 88 [some (.ref 19), some (.int 3)] [] (a_tags.take 33) I J (a_u (a_u (a_u (a_u (a_u (a_u (a_u (a_u (a_u (a_u (a_u (a_u (a_u R 19 0 (some 20)) 19 1 (some 21)) 19 3 (some 22)) 19 4 (some 23)) 19 5 (some 24)) 19 7 (some 25)) 19 9 (some 26)) 27 0 (some 28)) 20 0 (some 27)) 29 0 (some 30)) 20 1 (some 29)) 31 0 (some 32)) 20 2 (some 31))
  exact aw_return hC hq rfl dX4_init_88 a_le a_le aPure_v
set_option maxRecDepth 100000 in
theorem i_X2_init_33 {I : aI} {J : aJ} {R : aR} : MX2_init 4 576 [.ref 33, .ref 8, .ref 19] (a_tags.take 34) I J R (aPure none (a_tags.take 38) I J (a_u (a_u (a_u (a_u (a_u (a_u R 33 0 (some 34)) 33 1 (some 35)) 33 4 (some 36)) 33 6 (some 37)) 33 2 (some 8)) 33 3 (some 19))) := by
  refine a_met (by decide +kernel) a_le (fun X hC hq => ?_)
  show AW X 0 0 0 [some (.ref 33), some (.ref 8), some (.ref 19)] [] (a_tags.take 34) I J R
  refine aw_aload_n hC dX2_init_0 rfl ?_
  refine aw_objInit hC dX2_init_1 gL_X2_3 gOI_i gOI_c (by decide) (by decide) ?_
  refine aw_aload_n hC dX2_init_4 rfl ?_
  refine aw_sipush (v := 192) hC dX2_init_5 (by decide) ?_
  refine aw_newarrayI (N := 192) hC dX2_init_8 gA_int rfl (by decide) a_le a_le ?_
  rw [show (a_tags.take 34).length = 34 from rfl, show a_tags.take 34 ++ [.inl (.int, 192)] = a_tags.take 35 from rfl]
  show AW X (0 + 1) (0 + 192) 10 [some (.ref 33), some (.ref 8), some (.ref 19)] [.ref 34, .ref 33] (a_tags.take 35) I J R
  refine aw_putRF hC dX2_init_10 aF_X2_9 rfl rfl rfl rfl rfl ?_
  refine aw_aload_n hC dX2_init_13 rfl ?_
  refine aw_sipush (v := 128) hC dX2_init_14 (by decide) ?_
  refine aw_newarrayI (N := 128) hC dX2_init_17 gA_int rfl (by decide) a_le a_le ?_
  rw [show (a_tags.take 35).length = 35 from rfl, show a_tags.take 35 ++ [.inl (.int, 128)] = a_tags.take 36 from rfl]
  show AW X ((0 + 1) + 1) ((0 + 192) + 128) 19 [some (.ref 33), some (.ref 8), some (.ref 19)] [.ref 35, .ref 33] (a_tags.take 36) I J (a_u R 33 0 (some 34))
  refine aw_putRF hC dX2_init_19 aF_X2_15 rfl rfl rfl rfl rfl ?_
  refine aw_aload_n hC dX2_init_22 rfl ?_
  refine aw_bipush (v := 64) hC dX2_init_23 (by decide) ?_
  refine aw_newarrayI (N := 64) hC dX2_init_25 gA_int rfl (by decide) a_le a_le ?_
  rw [show (a_tags.take 36).length = 36 from rfl, show a_tags.take 36 ++ [.inl (.int, 64)] = a_tags.take 37 from rfl]
  show AW X (((0 + 1) + 1) + 1) (((0 + 192) + 128) + 64) 27 [some (.ref 33), some (.ref 8), some (.ref 19)] [.ref 36, .ref 33] (a_tags.take 37) I J (a_u (a_u R 33 0 (some 34)) 33 1 (some 35))
  refine aw_putRF hC dX2_init_27 aF_X2_18 rfl rfl rfl rfl rfl ?_
  refine aw_aload_n hC dX2_init_30 rfl ?_
  refine aw_sipush (v := 192) hC dX2_init_31 (by decide) ?_
  refine aw_newarrayI (N := 192) hC dX2_init_34 gA_int rfl (by decide) a_le a_le ?_
  rw [show (a_tags.take 37).length = 37 from rfl, show a_tags.take 37 ++ [.inl (.int, 192)] = a_tags.take 38 from rfl]
  show AW X ((((0 + 1) + 1) + 1) + 1) ((((0 + 192) + 128) + 64) + 192) 36 [some (.ref 33), some (.ref 8), some (.ref 19)] [.ref 37, .ref 33] (a_tags.take 38) I J (a_u (a_u (a_u R 33 0 (some 34)) 33 1 (some 35)) 33 4 (some 36))
  refine aw_putRF hC dX2_init_36 aF_X2_21 rfl rfl rfl rfl rfl ?_
  refine aw_aload_n hC dX2_init_39 rfl ?_
  refine aw_aload_n hC dX2_init_40 rfl ?_
  refine aw_putRF hC dX2_init_41 aF_X2_24 rfl rfl rfl rfl rfl ?_
  refine aw_aload_n hC dX2_init_44 rfl ?_
  refine aw_aload_n hC dX2_init_45 rfl ?_
  refine aw_putRF hC dX2_init_46 aF_X2_28 rfl rfl rfl rfl rfl ?_
  exact aw_return hC hq rfl dX2_init_49 a_le a_le aPure_v
set_option maxRecDepth 100000 in
theorem i_X0_init_38 {I : aI} {J : aJ} {R : aR} : MX0_init 2 128 [.ref 38, .ref 19, .ref 33] (a_tags.take 39) I J R (aPure none (a_tags.take 41) I J (a_u (a_u (a_u (a_u R 38 6 (some 39)) 38 7 (some 40)) 38 1 (some 19)) 38 2 (some 33))) := by
  refine a_met (by decide +kernel) a_le (fun X hC hq => ?_)
  show AW X 0 0 0 [some (.ref 38), some (.ref 19), some (.ref 33)] [] (a_tags.take 39) I J R
  refine aw_aload_n hC dX0_init_0 rfl ?_
  refine aw_objInit hC dX0_init_1 gL_X0_3 gOI_i gOI_c (by decide) (by decide) ?_
  refine aw_aload_n hC dX0_init_4 rfl ?_
  refine aw_bipush (v := 64) hC dX0_init_5 (by decide) ?_
  refine aw_newarrayZ (N := 64) hC dX0_init_7 gA_boolean rfl (by decide) a_le a_le ?_
  rw [show (a_tags.take 39).length = 39 from rfl, show a_tags.take 39 ++ [.inl (.boolean, 64)] = a_tags.take 40 from rfl]
  show AW X (0 + 1) (0 + 64) 9 [some (.ref 38), some (.ref 19), some (.ref 33)] [.ref 39, .ref 38] (a_tags.take 40) I J R
  refine aw_putRF hC dX0_init_9 aF_X0_9 rfl rfl rfl rfl rfl ?_
  refine aw_aload_n hC dX0_init_12 rfl ?_
  refine aw_bipush (v := 64) hC dX0_init_13 (by decide) ?_
  refine aw_newarrayI (N := 64) hC dX0_init_15 gA_int rfl (by decide) a_le a_le ?_
  rw [show (a_tags.take 40).length = 40 from rfl, show a_tags.take 40 ++ [.inl (.int, 64)] = a_tags.take 41 from rfl]
  show AW X ((0 + 1) + 1) ((0 + 64) + 64) 17 [some (.ref 38), some (.ref 19), some (.ref 33)] [.ref 40, .ref 38] (a_tags.take 41) I J (a_u R 38 6 (some 39))
  refine aw_putRF hC dX0_init_17 aF_X0_15 rfl rfl rfl rfl rfl ?_
  refine aw_aload_n hC dX0_init_20 rfl ?_
  refine aw_aload_n hC dX0_init_21 rfl ?_
  refine aw_putRF hC dX0_init_22 aF_X0_19 rfl rfl rfl rfl rfl ?_
  refine aw_aload_n hC dX0_init_25 rfl ?_
  refine aw_aload_n hC dX0_init_26 rfl ?_
  refine aw_putRF hC dX0_init_27 aF_X0_23 rfl rfl rfl rfl rfl ?_
  exact aw_return hC hq rfl dX0_init_30 a_le a_le aPure_v
set_option maxRecDepth 100000 in
theorem i_X11_init_0 {I : aI} {J : aJ} {R : aR} : MX11_init 43 1510 [.ref 0] (a_tags.take 1) I J R (aPure none (a_tags.take 44) (a_fill I 4 10 (fun _ => (-1))) J (a_u (a_u (a_u (a_u (a_u (a_u (a_u (a_u (a_u (a_u (a_u (a_u (a_u (a_u (a_u (a_u (a_u (a_u (a_u (a_u (a_u (a_u (a_u (a_u (a_u (a_u (a_u (a_u (a_u (a_u (a_u (a_u (a_u (a_u (a_u (a_u (a_u (a_u (a_u (a_u (a_u (a_u (a_u (a_u (a_u (a_u (a_u (a_u R 1 0 (some 2)) 1 2 (some 3)) 1 3 (some 4)) 1 4 (some 5)) 1 5 (some 6)) 1 7 (some 7)) 0 0 (some 1)) 9 0 (some 10)) 8 1 (some 9)) 8 4 (some 11)) 12 0 (some 13)) 8 5 (some 12)) 14 0 (some 15)) 8 6 (some 14)) 8 7 (some 16)) 8 8 (some 17)) 8 9 (some 18)) 8 0 (some 1)) 0 1 (some 8)) 19 0 (some 20)) 19 1 (some 21)) 19 3 (some 22)) 19 4 (some 23)) 19 5 (some 24)) 19 7 (some 25)) 19 9 (some 26)) 27 0 (some 28)) 20 0 (some 27)) 29 0 (some 30)) 20 1 (some 29)) 31 0 (some 32)) 20 2 (some 31)) 0 2 (some 19)) 33 0 (some 34)) 33 1 (some 35)) 33 4 (some 36)) 33 6 (some 37)) 33 2 (some 8)) 33 3 (some 19)) 0 3 (some 33)) 38 6 (some 39)) 38 7 (some 40)) 38 1 (some 19)) 38 2 (some 33)) 0 4 (some 38)) 0 5 (some 41)) 0 6 (some 42)) 0 8 (some 43))) := by
  refine a_met (by decide +kernel) a_le (fun X hC hq => ?_)
  show AW X 0 0 0 [some (.ref 0)] [] (a_tags.take 1) I J R
  refine aw_aload_n hC dX11_init_0 rfl ?_
  refine aw_objInit hC dX11_init_1 gL_X11_1 gOI_i gOI_c (by decide) (by decide) ?_
  refine aw_aload_n hC dX11_init_4 rfl ?_
  refine aw_new hC dX11_init_5 aK_X1 gW_X11_7 gB_X1 gN_X1 a_le a_le ?_
  rw [show (a_tags.take 1).length = 1 from rfl, show a_tags.take 1 ++ [.inr 1] = a_tags.take 2 from rfl]
  show AW X (0 + 1) (0 + a_nf 1) 8 [some (.ref 0)] [.ref 1, .ref 0] (a_tags.take 2) I J R
  refine aw_dup hC dX11_init_8 rfl ?_
  refine kX11_9 hC rfl (i_X1_init_1 (I := I) (J := J) (R := R)) dX11_init_9 rfl a_le a_le a_le a_le a_le rfl aPure_x (aPure_k ?_)
  show AW X ((0 + 1) + 6) ((0 + a_nf 1) + 112) 12 [some (.ref 0)] [.ref 1, .ref 0] (a_tags.take 8) (a_fill I 4 10 (fun _ => (-1))) J (a_u (a_u (a_u (a_u (a_u (a_u R 1 0 (some 2)) 1 2 (some 3)) 1 3 (some 4)) 1 4 (some 5)) 1 5 (some 6)) 1 7 (some 7))
  refine aw_putRF hC dX11_init_12 aF_X11_10 rfl rfl rfl rfl rfl ?_
  refine aw_aload_n hC dX11_init_15 rfl ?_
  refine aw_new hC dX11_init_16 aK_X10 gW_X11_16 gB_X10 gN_X10 a_le a_le ?_
  rw [show (a_tags.take 8).length = 8 from rfl, show a_tags.take 8 ++ [.inr 10] = a_tags.take 9 from rfl]
  show AW X (((0 + 1) + 6) + 1) (((0 + a_nf 1) + 112) + a_nf 10) 19 [some (.ref 0)] [.ref 8, .ref 0] (a_tags.take 9) (a_fill I 4 10 (fun _ => (-1))) J (a_u (a_u (a_u (a_u (a_u (a_u (a_u R 1 0 (some 2)) 1 2 (some 3)) 1 3 (some 4)) 1 4 (some 5)) 1 5 (some 6)) 1 7 (some 7)) 0 0 (some 1))
  refine aw_dup hC dX11_init_19 rfl ?_
  refine aw_aload_n hC dX11_init_20 rfl ?_
  refine aw_getR hC dX11_init_21 aF_X11_10 rfl rfl rfl ?_
  refine kX11_18 hC rfl (i_X10_init_8 (I := a_fill I 4 10 (fun _ => (-1))) (J := J) (R := a_u (a_u (a_u (a_u (a_u (a_u (a_u R 1 0 (some 2)) 1 2 (some 3)) 1 3 (some 4)) 1 4 (some 5)) 1 5 (some 6)) 1 7 (some 7)) 0 0 (some 1))) dX11_init_24 rfl a_le a_le a_le a_le a_le rfl aPure_x (aPure_k ?_)
  show AW X ((((0 + 1) + 6) + 1) + 10) ((((0 + a_nf 1) + 112) + a_nf 10) + 133) 27 [some (.ref 0)] [.ref 8, .ref 0] (a_tags.take 19) (a_fill I 4 10 (fun _ => (-1))) J (a_u (a_u (a_u (a_u (a_u (a_u (a_u (a_u (a_u (a_u (a_u (a_u (a_u (a_u (a_u (a_u (a_u (a_u R 1 0 (some 2)) 1 2 (some 3)) 1 3 (some 4)) 1 4 (some 5)) 1 5 (some 6)) 1 7 (some 7)) 0 0 (some 1)) 9 0 (some 10)) 8 1 (some 9)) 8 4 (some 11)) 12 0 (some 13)) 8 5 (some 12)) 14 0 (some 15)) 8 6 (some 14)) 8 7 (some 16)) 8 8 (some 17)) 8 9 (some 18)) 8 0 (some 1))
  refine aw_putRF hC dX11_init_27 aF_X11_21 rfl rfl rfl rfl rfl ?_
  refine aw_aload_n hC dX11_init_30 rfl ?_
  refine aw_new hC dX11_init_31 aK_X4 gW_X11_25 gB_X4 gN_X4 a_le a_le ?_
  rw [show (a_tags.take 19).length = 19 from rfl, show a_tags.take 19 ++ [.inr 4] = a_tags.take 20 from rfl]
  show AW X (((((0 + 1) + 6) + 1) + 10) + 1) (((((0 + a_nf 1) + 112) + a_nf 10) + 133) + a_nf 4) 34 [some (.ref 0)] [.ref 19, .ref 0] (a_tags.take 20) (a_fill I 4 10 (fun _ => (-1))) J (a_u (a_u (a_u (a_u (a_u (a_u (a_u (a_u (a_u (a_u (a_u (a_u (a_u (a_u (a_u (a_u (a_u (a_u (a_u R 1 0 (some 2)) 1 2 (some 3)) 1 3 (some 4)) 1 4 (some 5)) 1 5 (some 6)) 1 7 (some 7)) 0 0 (some 1)) 9 0 (some 10)) 8 1 (some 9)) 8 4 (some 11)) 12 0 (some 13)) 8 5 (some 12)) 14 0 (some 15)) 8 6 (some 14)) 8 7 (some 16)) 8 8 (some 17)) 8 9 (some 18)) 8 0 (some 1)) 0 1 (some 8))
  refine aw_dup hC dX11_init_34 rfl ?_
  refine kX11_27 hC rfl (i_X4_init_19 (I := a_fill I 4 10 (fun _ => (-1))) (J := J) (R := a_u (a_u (a_u (a_u (a_u (a_u (a_u (a_u (a_u (a_u (a_u (a_u (a_u (a_u (a_u (a_u (a_u (a_u (a_u R 1 0 (some 2)) 1 2 (some 3)) 1 3 (some 4)) 1 4 (some 5)) 1 5 (some 6)) 1 7 (some 7)) 0 0 (some 1)) 9 0 (some 10)) 8 1 (some 9)) 8 4 (some 11)) 12 0 (some 13)) 8 5 (some 12)) 14 0 (some 15)) 8 6 (some 14)) 8 7 (some 16)) 8 8 (some 17)) 8 9 (some 18)) 8 0 (some 1)) 0 1 (some 8))) dX11_init_35 rfl a_le a_le a_le a_le a_le rfl aPure_x (aPure_k ?_)
  show AW X ((((((0 + 1) + 6) + 1) + 10) + 1) + 13) ((((((0 + a_nf 1) + 112) + a_nf 10) + 133) + a_nf 4) + 456) 38 [some (.ref 0)] [.ref 19, .ref 0] (a_tags.take 33) (a_fill I 4 10 (fun _ => (-1))) J (a_u (a_u (a_u (a_u (a_u (a_u (a_u (a_u (a_u (a_u (a_u (a_u (a_u (a_u (a_u (a_u (a_u (a_u (a_u (a_u (a_u (a_u (a_u (a_u (a_u (a_u (a_u (a_u (a_u (a_u (a_u (a_u R 1 0 (some 2)) 1 2 (some 3)) 1 3 (some 4)) 1 4 (some 5)) 1 5 (some 6)) 1 7 (some 7)) 0 0 (some 1)) 9 0 (some 10)) 8 1 (some 9)) 8 4 (some 11)) 12 0 (some 13)) 8 5 (some 12)) 14 0 (some 15)) 8 6 (some 14)) 8 7 (some 16)) 8 8 (some 17)) 8 9 (some 18)) 8 0 (some 1)) 0 1 (some 8)) 19 0 (some 20)) 19 1 (some 21)) 19 3 (some 22)) 19 4 (some 23)) 19 5 (some 24)) 19 7 (some 25)) 19 9 (some 26)) 27 0 (some 28)) 20 0 (some 27)) 29 0 (some 30)) 20 1 (some 29)) 31 0 (some 32)) 20 2 (some 31))
  refine aw_putRF hC dX11_init_38 aF_X11_28 rfl rfl rfl rfl rfl ?_
  refine aw_aload_n hC dX11_init_41 rfl ?_
  refine aw_new hC dX11_init_42 aK_X2 gW_X11_32 gB_X2 gN_X2 a_le a_le ?_
  rw [show (a_tags.take 33).length = 33 from rfl, show a_tags.take 33 ++ [.inr 2] = a_tags.take 34 from rfl]
  show AW X (((((((0 + 1) + 6) + 1) + 10) + 1) + 13) + 1) (((((((0 + a_nf 1) + 112) + a_nf 10) + 133) + a_nf 4) + 456) + a_nf 2) 45 [some (.ref 0)] [.ref 33, .ref 0] (a_tags.take 34) (a_fill I 4 10 (fun _ => (-1))) J (a_u (a_u (a_u (a_u (a_u (a_u (a_u (a_u (a_u (a_u (a_u (a_u (a_u (a_u (a_u (a_u (a_u (a_u (a_u (a_u (a_u (a_u (a_u (a_u (a_u (a_u (a_u (a_u (a_u (a_u (a_u (a_u (a_u R 1 0 (some 2)) 1 2 (some 3)) 1 3 (some 4)) 1 4 (some 5)) 1 5 (some 6)) 1 7 (some 7)) 0 0 (some 1)) 9 0 (some 10)) 8 1 (some 9)) 8 4 (some 11)) 12 0 (some 13)) 8 5 (some 12)) 14 0 (some 15)) 8 6 (some 14)) 8 7 (some 16)) 8 8 (some 17)) 8 9 (some 18)) 8 0 (some 1)) 0 1 (some 8)) 19 0 (some 20)) 19 1 (some 21)) 19 3 (some 22)) 19 4 (some 23)) 19 5 (some 24)) 19 7 (some 25)) 19 9 (some 26)) 27 0 (some 28)) 20 0 (some 27)) 29 0 (some 30)) 20 1 (some 29)) 31 0 (some 32)) 20 2 (some 31)) 0 2 (some 19))
  refine aw_dup hC dX11_init_45 rfl ?_
  refine aw_aload_n hC dX11_init_46 rfl ?_
  refine aw_getR hC dX11_init_47 aF_X11_21 rfl rfl rfl ?_
  refine aw_aload_n hC dX11_init_50 rfl ?_
  refine aw_getR hC dX11_init_51 aF_X11_28 rfl rfl rfl ?_
  refine kX11_34 hC rfl (i_X2_init_33 (I := a_fill I 4 10 (fun _ => (-1))) (J := J) (R := a_u (a_u (a_u (a_u (a_u (a_u (a_u (a_u (a_u (a_u (a_u (a_u (a_u (a_u (a_u (a_u (a_u (a_u (a_u (a_u (a_u (a_u (a_u (a_u (a_u (a_u (a_u (a_u (a_u (a_u (a_u (a_u (a_u R 1 0 (some 2)) 1 2 (some 3)) 1 3 (some 4)) 1 4 (some 5)) 1 5 (some 6)) 1 7 (some 7)) 0 0 (some 1)) 9 0 (some 10)) 8 1 (some 9)) 8 4 (some 11)) 12 0 (some 13)) 8 5 (some 12)) 14 0 (some 15)) 8 6 (some 14)) 8 7 (some 16)) 8 8 (some 17)) 8 9 (some 18)) 8 0 (some 1)) 0 1 (some 8)) 19 0 (some 20)) 19 1 (some 21)) 19 3 (some 22)) 19 4 (some 23)) 19 5 (some 24)) 19 7 (some 25)) 19 9 (some 26)) 27 0 (some 28)) 20 0 (some 27)) 29 0 (some 30)) 20 1 (some 29)) 31 0 (some 32)) 20 2 (some 31)) 0 2 (some 19))) dX11_init_54 rfl a_le a_le a_le a_le a_le rfl aPure_x (aPure_k ?_)
  show AW X ((((((((0 + 1) + 6) + 1) + 10) + 1) + 13) + 1) + 4) ((((((((0 + a_nf 1) + 112) + a_nf 10) + 133) + a_nf 4) + 456) + a_nf 2) + 576) 57 [some (.ref 0)] [.ref 33, .ref 0] (a_tags.take 38) (a_fill I 4 10 (fun _ => (-1))) J (a_u (a_u (a_u (a_u (a_u (a_u (a_u (a_u (a_u (a_u (a_u (a_u (a_u (a_u (a_u (a_u (a_u (a_u (a_u (a_u (a_u (a_u (a_u (a_u (a_u (a_u (a_u (a_u (a_u (a_u (a_u (a_u (a_u (a_u (a_u (a_u (a_u (a_u (a_u R 1 0 (some 2)) 1 2 (some 3)) 1 3 (some 4)) 1 4 (some 5)) 1 5 (some 6)) 1 7 (some 7)) 0 0 (some 1)) 9 0 (some 10)) 8 1 (some 9)) 8 4 (some 11)) 12 0 (some 13)) 8 5 (some 12)) 14 0 (some 15)) 8 6 (some 14)) 8 7 (some 16)) 8 8 (some 17)) 8 9 (some 18)) 8 0 (some 1)) 0 1 (some 8)) 19 0 (some 20)) 19 1 (some 21)) 19 3 (some 22)) 19 4 (some 23)) 19 5 (some 24)) 19 7 (some 25)) 19 9 (some 26)) 27 0 (some 28)) 20 0 (some 27)) 29 0 (some 30)) 20 1 (some 29)) 31 0 (some 32)) 20 2 (some 31)) 0 2 (some 19)) 33 0 (some 34)) 33 1 (some 35)) 33 4 (some 36)) 33 6 (some 37)) 33 2 (some 8)) 33 3 (some 19))
  refine aw_putRF hC dX11_init_57 aF_X11_37 rfl rfl rfl rfl rfl ?_
  refine aw_aload_n hC dX11_init_60 rfl ?_
  refine aw_new hC dX11_init_61 aK_X0 gW_X11_41 gB_X0 gN_X0 a_le a_le ?_
  rw [show (a_tags.take 38).length = 38 from rfl, show a_tags.take 38 ++ [.inr 0] = a_tags.take 39 from rfl]
  show AW X (((((((((0 + 1) + 6) + 1) + 10) + 1) + 13) + 1) + 4) + 1) (((((((((0 + a_nf 1) + 112) + a_nf 10) + 133) + a_nf 4) + 456) + a_nf 2) + 576) + a_nf 0) 64 [some (.ref 0)] [.ref 38, .ref 0] (a_tags.take 39) (a_fill I 4 10 (fun _ => (-1))) J (a_u (a_u (a_u (a_u (a_u (a_u (a_u (a_u (a_u (a_u (a_u (a_u (a_u (a_u (a_u (a_u (a_u (a_u (a_u (a_u (a_u (a_u (a_u (a_u (a_u (a_u (a_u (a_u (a_u (a_u (a_u (a_u (a_u (a_u (a_u (a_u (a_u (a_u (a_u (a_u R 1 0 (some 2)) 1 2 (some 3)) 1 3 (some 4)) 1 4 (some 5)) 1 5 (some 6)) 1 7 (some 7)) 0 0 (some 1)) 9 0 (some 10)) 8 1 (some 9)) 8 4 (some 11)) 12 0 (some 13)) 8 5 (some 12)) 14 0 (some 15)) 8 6 (some 14)) 8 7 (some 16)) 8 8 (some 17)) 8 9 (some 18)) 8 0 (some 1)) 0 1 (some 8)) 19 0 (some 20)) 19 1 (some 21)) 19 3 (some 22)) 19 4 (some 23)) 19 5 (some 24)) 19 7 (some 25)) 19 9 (some 26)) 27 0 (some 28)) 20 0 (some 27)) 29 0 (some 30)) 20 1 (some 29)) 31 0 (some 32)) 20 2 (some 31)) 0 2 (some 19)) 33 0 (some 34)) 33 1 (some 35)) 33 4 (some 36)) 33 6 (some 37)) 33 2 (some 8)) 33 3 (some 19)) 0 3 (some 33))
  refine aw_dup hC dX11_init_64 rfl ?_
  refine aw_aload_n hC dX11_init_65 rfl ?_
  refine aw_getR hC dX11_init_66 aF_X11_28 rfl rfl rfl ?_
  refine aw_aload_n hC dX11_init_69 rfl ?_
  refine aw_getR hC dX11_init_70 aF_X11_37 rfl rfl rfl ?_
  refine kX11_43 hC rfl (i_X0_init_38 (I := a_fill I 4 10 (fun _ => (-1))) (J := J) (R := a_u (a_u (a_u (a_u (a_u (a_u (a_u (a_u (a_u (a_u (a_u (a_u (a_u (a_u (a_u (a_u (a_u (a_u (a_u (a_u (a_u (a_u (a_u (a_u (a_u (a_u (a_u (a_u (a_u (a_u (a_u (a_u (a_u (a_u (a_u (a_u (a_u (a_u (a_u (a_u R 1 0 (some 2)) 1 2 (some 3)) 1 3 (some 4)) 1 4 (some 5)) 1 5 (some 6)) 1 7 (some 7)) 0 0 (some 1)) 9 0 (some 10)) 8 1 (some 9)) 8 4 (some 11)) 12 0 (some 13)) 8 5 (some 12)) 14 0 (some 15)) 8 6 (some 14)) 8 7 (some 16)) 8 8 (some 17)) 8 9 (some 18)) 8 0 (some 1)) 0 1 (some 8)) 19 0 (some 20)) 19 1 (some 21)) 19 3 (some 22)) 19 4 (some 23)) 19 5 (some 24)) 19 7 (some 25)) 19 9 (some 26)) 27 0 (some 28)) 20 0 (some 27)) 29 0 (some 30)) 20 1 (some 29)) 31 0 (some 32)) 20 2 (some 31)) 0 2 (some 19)) 33 0 (some 34)) 33 1 (some 35)) 33 4 (some 36)) 33 6 (some 37)) 33 2 (some 8)) 33 3 (some 19)) 0 3 (some 33))) dX11_init_73 rfl a_le a_le a_le a_le a_le rfl aPure_x (aPure_k ?_)
  show AW X ((((((((((0 + 1) + 6) + 1) + 10) + 1) + 13) + 1) + 4) + 1) + 2) ((((((((((0 + a_nf 1) + 112) + a_nf 10) + 133) + a_nf 4) + 456) + a_nf 2) + 576) + a_nf 0) + 128) 76 [some (.ref 0)] [.ref 38, .ref 0] (a_tags.take 41) (a_fill I 4 10 (fun _ => (-1))) J (a_u (a_u (a_u (a_u (a_u (a_u (a_u (a_u (a_u (a_u (a_u (a_u (a_u (a_u (a_u (a_u (a_u (a_u (a_u (a_u (a_u (a_u (a_u (a_u (a_u (a_u (a_u (a_u (a_u (a_u (a_u (a_u (a_u (a_u (a_u (a_u (a_u (a_u (a_u (a_u (a_u (a_u (a_u (a_u R 1 0 (some 2)) 1 2 (some 3)) 1 3 (some 4)) 1 4 (some 5)) 1 5 (some 6)) 1 7 (some 7)) 0 0 (some 1)) 9 0 (some 10)) 8 1 (some 9)) 8 4 (some 11)) 12 0 (some 13)) 8 5 (some 12)) 14 0 (some 15)) 8 6 (some 14)) 8 7 (some 16)) 8 8 (some 17)) 8 9 (some 18)) 8 0 (some 1)) 0 1 (some 8)) 19 0 (some 20)) 19 1 (some 21)) 19 3 (some 22)) 19 4 (some 23)) 19 5 (some 24)) 19 7 (some 25)) 19 9 (some 26)) 27 0 (some 28)) 20 0 (some 27)) 29 0 (some 30)) 20 1 (some 29)) 31 0 (some 32)) 20 2 (some 31)) 0 2 (some 19)) 33 0 (some 34)) 33 1 (some 35)) 33 4 (some 36)) 33 6 (some 37)) 33 2 (some 8)) 33 3 (some 19)) 0 3 (some 33)) 38 6 (some 39)) 38 7 (some 40)) 38 1 (some 19)) 38 2 (some 33))
  refine aw_putRF hC dX11_init_76 aF_X11_46 rfl rfl rfl rfl rfl ?_
  refine aw_aload_n hC dX11_init_79 rfl ?_
  refine aw_bipush (v := 8) hC dX11_init_80 (by decide) ?_
  refine aw_newarrayI (N := 8) hC dX11_init_82 gA_int rfl (by decide) a_le a_le ?_
  rw [show (a_tags.take 41).length = 41 from rfl, show a_tags.take 41 ++ [.inl (.int, 8)] = a_tags.take 42 from rfl]
  show AW X (((((((((((0 + 1) + 6) + 1) + 10) + 1) + 13) + 1) + 4) + 1) + 2) + 1) (((((((((((0 + a_nf 1) + 112) + a_nf 10) + 133) + a_nf 4) + 456) + a_nf 2) + 576) + a_nf 0) + 128) + 8) 84 [some (.ref 0)] [.ref 41, .ref 0] (a_tags.take 42) (a_fill I 4 10 (fun _ => (-1))) J (a_u (a_u (a_u (a_u (a_u (a_u (a_u (a_u (a_u (a_u (a_u (a_u (a_u (a_u (a_u (a_u (a_u (a_u (a_u (a_u (a_u (a_u (a_u (a_u (a_u (a_u (a_u (a_u (a_u (a_u (a_u (a_u (a_u (a_u (a_u (a_u (a_u (a_u (a_u (a_u (a_u (a_u (a_u (a_u (a_u R 1 0 (some 2)) 1 2 (some 3)) 1 3 (some 4)) 1 4 (some 5)) 1 5 (some 6)) 1 7 (some 7)) 0 0 (some 1)) 9 0 (some 10)) 8 1 (some 9)) 8 4 (some 11)) 12 0 (some 13)) 8 5 (some 12)) 14 0 (some 15)) 8 6 (some 14)) 8 7 (some 16)) 8 8 (some 17)) 8 9 (some 18)) 8 0 (some 1)) 0 1 (some 8)) 19 0 (some 20)) 19 1 (some 21)) 19 3 (some 22)) 19 4 (some 23)) 19 5 (some 24)) 19 7 (some 25)) 19 9 (some 26)) 27 0 (some 28)) 20 0 (some 27)) 29 0 (some 30)) 20 1 (some 29)) 31 0 (some 32)) 20 2 (some 31)) 0 2 (some 19)) 33 0 (some 34)) 33 1 (some 35)) 33 4 (some 36)) 33 6 (some 37)) 33 2 (some 8)) 33 3 (some 19)) 0 3 (some 33)) 38 6 (some 39)) 38 7 (some 40)) 38 1 (some 19)) 38 2 (some 33)) 0 4 (some 38))
  refine aw_putRF hC dX11_init_84 aF_X11_50 rfl rfl rfl rfl rfl ?_
  refine aw_aload_n hC dX11_init_87 rfl ?_
  refine aw_bipush (v := 8) hC dX11_init_88 (by decide) ?_
  refine aw_newarrayJ (N := 8) hC dX11_init_90 gA_long rfl (by decide) a_le a_le ?_
  rw [show (a_tags.take 42).length = 42 from rfl, show a_tags.take 42 ++ [.inl (.long, 8)] = a_tags.take 43 from rfl]
  show AW X ((((((((((((0 + 1) + 6) + 1) + 10) + 1) + 13) + 1) + 4) + 1) + 2) + 1) + 1) ((((((((((((0 + a_nf 1) + 112) + a_nf 10) + 133) + a_nf 4) + 456) + a_nf 2) + 576) + a_nf 0) + 128) + 8) + 8) 92 [some (.ref 0)] [.ref 42, .ref 0] (a_tags.take 43) (a_fill I 4 10 (fun _ => (-1))) J (a_u (a_u (a_u (a_u (a_u (a_u (a_u (a_u (a_u (a_u (a_u (a_u (a_u (a_u (a_u (a_u (a_u (a_u (a_u (a_u (a_u (a_u (a_u (a_u (a_u (a_u (a_u (a_u (a_u (a_u (a_u (a_u (a_u (a_u (a_u (a_u (a_u (a_u (a_u (a_u (a_u (a_u (a_u (a_u (a_u (a_u R 1 0 (some 2)) 1 2 (some 3)) 1 3 (some 4)) 1 4 (some 5)) 1 5 (some 6)) 1 7 (some 7)) 0 0 (some 1)) 9 0 (some 10)) 8 1 (some 9)) 8 4 (some 11)) 12 0 (some 13)) 8 5 (some 12)) 14 0 (some 15)) 8 6 (some 14)) 8 7 (some 16)) 8 8 (some 17)) 8 9 (some 18)) 8 0 (some 1)) 0 1 (some 8)) 19 0 (some 20)) 19 1 (some 21)) 19 3 (some 22)) 19 4 (some 23)) 19 5 (some 24)) 19 7 (some 25)) 19 9 (some 26)) 27 0 (some 28)) 20 0 (some 27)) 29 0 (some 30)) 20 1 (some 29)) 31 0 (some 32)) 20 2 (some 31)) 0 2 (some 19)) 33 0 (some 34)) 33 1 (some 35)) 33 4 (some 36)) 33 6 (some 37)) 33 2 (some 8)) 33 3 (some 19)) 0 3 (some 33)) 38 6 (some 39)) 38 7 (some 40)) 38 1 (some 19)) 38 2 (some 33)) 0 4 (some 38)) 0 5 (some 41))
  refine aw_putRF hC dX11_init_92 aF_X11_54 rfl rfl rfl rfl rfl ?_
  refine aw_aload_n hC dX11_init_95 rfl ?_
  refine aw_bipush (v := 40) hC dX11_init_96 (by decide) ?_
  refine aw_anewarray (N := 40) (C := "Layerwright$Plan") hC dX11_init_98 gW_X11_58 (by decide) rfl (by decide) a_le a_le ?_
  rw [show (a_tags.take 43).length = 43 from rfl, show a_tags.take 43 ++ [.inl (.object "Layerwright$Plan", 40)] = a_tags.take 44 from rfl]
  show AW X (((((((((((((0 + 1) + 6) + 1) + 10) + 1) + 13) + 1) + 4) + 1) + 2) + 1) + 1) + 1) (((((((((((((0 + a_nf 1) + 112) + a_nf 10) + 133) + a_nf 4) + 456) + a_nf 2) + 576) + a_nf 0) + 128) + 8) + 8) + 40) 101 [some (.ref 0)] [.ref 43, .ref 0] (a_tags.take 44) (a_fill I 4 10 (fun _ => (-1))) J (a_u (a_u (a_u (a_u (a_u (a_u (a_u (a_u (a_u (a_u (a_u (a_u (a_u (a_u (a_u (a_u (a_u (a_u (a_u (a_u (a_u (a_u (a_u (a_u (a_u (a_u (a_u (a_u (a_u (a_u (a_u (a_u (a_u (a_u (a_u (a_u (a_u (a_u (a_u (a_u (a_u (a_u (a_u (a_u (a_u (a_u (a_u R 1 0 (some 2)) 1 2 (some 3)) 1 3 (some 4)) 1 4 (some 5)) 1 5 (some 6)) 1 7 (some 7)) 0 0 (some 1)) 9 0 (some 10)) 8 1 (some 9)) 8 4 (some 11)) 12 0 (some 13)) 8 5 (some 12)) 14 0 (some 15)) 8 6 (some 14)) 8 7 (some 16)) 8 8 (some 17)) 8 9 (some 18)) 8 0 (some 1)) 0 1 (some 8)) 19 0 (some 20)) 19 1 (some 21)) 19 3 (some 22)) 19 4 (some 23)) 19 5 (some 24)) 19 7 (some 25)) 19 9 (some 26)) 27 0 (some 28)) 20 0 (some 27)) 29 0 (some 30)) 20 1 (some 29)) 31 0 (some 32)) 20 2 (some 31)) 0 2 (some 19)) 33 0 (some 34)) 33 1 (some 35)) 33 4 (some 36)) 33 6 (some 37)) 33 2 (some 8)) 33 3 (some 19)) 0 3 (some 33)) 38 6 (some 39)) 38 7 (some 40)) 38 1 (some 19)) 38 2 (some 33)) 0 4 (some 38)) 0 5 (some 41)) 0 6 (some 42))
  refine aw_putRF hC dX11_init_101 aF_X11_60 rfl rfl rfl rfl rfl ?_
  exact aw_return hC hq rfl dX11_init_104 a_le a_le aPure_v
