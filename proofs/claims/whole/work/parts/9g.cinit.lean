set_option maxRecDepth 100000 in
theorem i_X1_init_1 {I : aI} {J : aJ} {R : aR} : MX1_init 6 112 [.ref 1] (a_tags.take 2) I J R (aPure none (a_tags.take 8) (a_fill I 4 10 (fun _ => (-1))) J (a_u (a_u (a_u (a_u (a_u (a_u R 1 0 (some 2)) 1 2 (some 3)) 1 3 (some 4)) 1 4 (some 5)) 1 5 (some 6)) 1 7 (some 7))) := by
  refine a_met (by decide +kernel) a_le (fun X hC hq => ?_)
  show AW X 0 0 0 [some (.ref 1)] [] (a_tags.take 2) I J R
  refine aw_aload_n hC dX1_init_0 rfl ?_
  refine aw_objInit hC dX1_init_1 gL_X1_3 gOI_i gOI_c (by decide) (by decide) ?_
  refine aw_aload_n hC dX1_init_4 rfl ?_
  refine aw_bipush (v := 30) hC dX1_init_5 (by decide) ?_
  refine aw_anewarray (N := 30) (C := "Layerwright$Statement") hC dX1_init_7 gW_X1_9 (by decide) rfl (by decide) a_le a_le ?_
  rw [show (a_tags.take 2).length = 2 from rfl, show a_tags.take 2 ++ [.inl (.object "Layerwright$Statement", 30)] = a_tags.take 3 from rfl]
  show AW X (0 + 1) (0 + 30) 10 [some (.ref 1)] [.ref 2, .ref 1] (a_tags.take 3) I J R
  refine aw_putRF hC dX1_init_10 aF_X1_11 rfl rfl rfl rfl rfl ?_
  refine aw_aload_n hC dX1_init_13 rfl ?_
  refine aw_bipush (v := 6) hC dX1_init_14 (by decide) ?_
  refine aw_newarrayI (N := 6) hC dX1_init_16 gA_int rfl (by decide) a_le a_le ?_
  rw [show (a_tags.take 3).length = 3 from rfl, show a_tags.take 3 ++ [.inl (.int, 6)] = a_tags.take 4 from rfl]
  show AW X ((0 + 1) + 1) ((0 + 30) + 6) 18 [some (.ref 1)] [.ref 3, .ref 1] (a_tags.take 4) I J (a_u R 1 0 (some 2))
  refine aw_putRF hC dX1_init_18 aF_X1_17 rfl rfl rfl rfl rfl ?_
  refine aw_aload_n hC dX1_init_21 rfl ?_
  refine aw_bipush (v := 10) hC dX1_init_22 (by decide) ?_
  refine aw_newarrayI (N := 10) hC dX1_init_24 gA_int rfl (by decide) a_le a_le ?_
  rw [show (a_tags.take 4).length = 4 from rfl, show a_tags.take 4 ++ [.inl (.int, 10)] = a_tags.take 5 from rfl]
  show AW X (((0 + 1) + 1) + 1) (((0 + 30) + 6) + 10) 26 [some (.ref 1)] [.ref 4, .ref 1] (a_tags.take 5) I J (a_u (a_u R 1 0 (some 2)) 1 2 (some 3))
  refine aw_putRF hC dX1_init_26 aF_X1_21 rfl rfl rfl rfl rfl ?_
  refine aw_aload_n hC dX1_init_29 rfl ?_
  refine aw_bipush (v := 60) hC dX1_init_30 (by decide) ?_
  refine aw_newarrayI (N := 60) hC dX1_init_32 gA_int rfl (by decide) a_le a_le ?_
  rw [show (a_tags.take 5).length = 5 from rfl, show a_tags.take 5 ++ [.inl (.int, 60)] = a_tags.take 6 from rfl]
  show AW X ((((0 + 1) + 1) + 1) + 1) ((((0 + 30) + 6) + 10) + 60) 34 [some (.ref 1)] [.ref 5, .ref 1] (a_tags.take 6) I J (a_u (a_u (a_u R 1 0 (some 2)) 1 2 (some 3)) 1 3 (some 4))
  refine aw_putRF hC dX1_init_34 aF_X1_24 rfl rfl rfl rfl rfl ?_
  refine aw_aload_n hC dX1_init_37 rfl ?_
  refine aw_iconst (v := 3) hC dX1_init_38 (by decide) ?_
  refine aw_newarrayI (N := 3) hC dX1_init_39 gA_int rfl (by decide) a_le a_le ?_
  rw [show (a_tags.take 6).length = 6 from rfl, show a_tags.take 6 ++ [.inl (.int, 3)] = a_tags.take 7 from rfl]
  show AW X (((((0 + 1) + 1) + 1) + 1) + 1) (((((0 + 30) + 6) + 10) + 60) + 3) 41 [some (.ref 1)] [.ref 6, .ref 1] (a_tags.take 7) I J (a_u (a_u (a_u (a_u R 1 0 (some 2)) 1 2 (some 3)) 1 3 (some 4)) 1 4 (some 5))
  refine aw_putRF hC dX1_init_41 aF_X1_27 rfl rfl rfl rfl rfl ?_
  refine aw_aload_n hC dX1_init_44 rfl ?_
  refine aw_iconst (v := 3) hC dX1_init_45 (by decide) ?_
  refine aw_newarrayI (N := 3) hC dX1_init_46 gA_int rfl (by decide) a_le a_le ?_
  rw [show (a_tags.take 7).length = 7 from rfl, show a_tags.take 7 ++ [.inl (.int, 3)] = a_tags.take 8 from rfl]
  show AW X ((((((0 + 1) + 1) + 1) + 1) + 1) + 1) ((((((0 + 30) + 6) + 10) + 60) + 3) + 3) 48 [some (.ref 1)] [.ref 7, .ref 1] (a_tags.take 8) I J (a_u (a_u (a_u (a_u (a_u R 1 0 (some 2)) 1 2 (some 3)) 1 3 (some 4)) 1 4 (some 5)) 1 5 (some 6))
  refine aw_putRF hC dX1_init_48 aF_X1_30 rfl rfl rfl rfl rfl ?_
  refine aw_aload_n hC dX1_init_51 rfl ?_
  refine aw_getR hC dX1_init_52 aF_X1_21 rfl rfl rfl ?_
  refine aw_iconst (v := (-1)) hC dX1_init_55 (by decide) ?_
  refine kX1_33 hC rfl (m_J7_fill_53178 (I := I) (n := 10) rfl (by omega) ((-1) : Int32)) dX1_init_56 rfl a_le a_le a_le a_le a_le rfl aPure_x (aPure_k ?_)
  show AW X ((((((0 + 1) + 1) + 1) + 1) + 1) + 1) ((((((0 + 30) + 6) + 10) + 60) + 3) + 3) 59 [some (.ref 1)] [] (a_tags.take 8) (a_fill I 4 10 (fun _ => (-1))) J (a_u (a_u (a_u (a_u (a_u (a_u R 1 0 (some 2)) 1 2 (some 3)) 1 3 (some 4)) 1 4 (some 5)) 1 5 (some 6)) 1 7 (some 7))
  exact aw_return hC hq rfl dX1_init_59 a_le a_le aPure_v
set_option maxRecDepth 100000 in
theorem i_X7_init_9 {I : aI} {J : aJ} {R : aR} : MX7_init 1 10 [.ref 9] (a_tags.take 10) I J R (aPure none (a_tags.take 11) I J (a_u R 9 0 (some 10))) := by
  refine a_met (by decide +kernel) a_le (fun X hC hq => ?_)
  show AW X 0 0 0 [some (.ref 9)] [] (a_tags.take 10) I J R
  refine aw_aload_n hC dX7_init_0 rfl ?_
  refine aw_objInit hC dX7_init_1 gL_X7_3 gOI_i gOI_c (by decide) (by decide) ?_
  refine aw_aload_n hC dX7_init_4 rfl ?_
  refine aw_bipush (v := 10) hC dX7_init_5 (by decide) ?_
  refine aw_newarrayJ (N := 10) hC dX7_init_7 gA_long rfl (by decide) a_le a_le ?_
  rw [show (a_tags.take 10).length = 10 from rfl, show a_tags.take 10 ++ [.inl (.long, 10)] = a_tags.take 11 from rfl]
  show AW X (0 + 1) (0 + 10) 9 [some (.ref 9)] [.ref 10, .ref 9] (a_tags.take 11) I J R
  refine aw_putRF hC dX7_init_9 aF_X7_9 rfl rfl rfl rfl rfl ?_
  exact aw_return hC hq rfl dX7_init_12 a_le a_le aPure_v
set_option maxRecDepth 100000 in
theorem i_X7_init_12 {I : aI} {J : aJ} {R : aR} : MX7_init 1 10 [.ref 12] (a_tags.take 13) I J R (aPure none (a_tags.take 14) I J (a_u R 12 0 (some 13))) := by
  refine a_met (by decide +kernel) a_le (fun X hC hq => ?_)
  show AW X 0 0 0 [some (.ref 12)] [] (a_tags.take 13) I J R
  refine aw_aload_n hC dX7_init_0 rfl ?_
  refine aw_objInit hC dX7_init_1 gL_X7_3 gOI_i gOI_c (by decide) (by decide) ?_
  refine aw_aload_n hC dX7_init_4 rfl ?_
  refine aw_bipush (v := 10) hC dX7_init_5 (by decide) ?_
  refine aw_newarrayJ (N := 10) hC dX7_init_7 gA_long rfl (by decide) a_le a_le ?_
  rw [show (a_tags.take 13).length = 13 from rfl, show a_tags.take 13 ++ [.inl (.long, 10)] = a_tags.take 14 from rfl]
  show AW X (0 + 1) (0 + 10) 9 [some (.ref 12)] [.ref 13, .ref 12] (a_tags.take 14) I J R
  refine aw_putRF hC dX7_init_9 aF_X7_9 rfl rfl rfl rfl rfl ?_
  exact aw_return hC hq rfl dX7_init_12 a_le a_le aPure_v
set_option maxRecDepth 100000 in
theorem i_X7_init_14 {I : aI} {J : aJ} {R : aR} : MX7_init 1 10 [.ref 14] (a_tags.take 15) I J R (aPure none (a_tags.take 16) I J (a_u R 14 0 (some 15))) := by
  refine a_met (by decide +kernel) a_le (fun X hC hq => ?_)
  show AW X 0 0 0 [some (.ref 14)] [] (a_tags.take 15) I J R
  refine aw_aload_n hC dX7_init_0 rfl ?_
  refine aw_objInit hC dX7_init_1 gL_X7_3 gOI_i gOI_c (by decide) (by decide) ?_
  refine aw_aload_n hC dX7_init_4 rfl ?_
  refine aw_bipush (v := 10) hC dX7_init_5 (by decide) ?_
  refine aw_newarrayJ (N := 10) hC dX7_init_7 gA_long rfl (by decide) a_le a_le ?_
  rw [show (a_tags.take 15).length = 15 from rfl, show a_tags.take 15 ++ [.inl (.long, 10)] = a_tags.take 16 from rfl]
  show AW X (0 + 1) (0 + 10) 9 [some (.ref 14)] [.ref 15, .ref 14] (a_tags.take 16) I J R
  refine aw_putRF hC dX7_init_9 aF_X7_9 rfl rfl rfl rfl rfl ?_
  exact aw_return hC hq rfl dX7_init_12 a_le a_le aPure_v
set_option maxRecDepth 100000 in
theorem i_X10_init_8 {I : aI} {J : aJ} {R : aR} : MX10_init 10 133 [.ref 8, .ref 1] (a_tags.take 9) I J R (aPure none (a_tags.take 19) I J (a_u (a_u (a_u (a_u (a_u (a_u (a_u (a_u (a_u (a_u (a_u R 9 0 (some 10)) 8 1 (some 9)) 8 4 (some 11)) 12 0 (some 13)) 8 5 (some 12)) 14 0 (some 15)) 8 6 (some 14)) 8 7 (some 16)) 8 8 (some 17)) 8 9 (some 18)) 8 0 (some 1))) := by
  refine a_met (by decide +kernel) a_le (fun X hC hq => ?_)
  show AW X 0 0 0 [some (.ref 8), some (.ref 1)] [] (a_tags.take 9) I J R
  refine aw_aload_n hC dX10_init_0 rfl ?_
  refine aw_objInit hC dX10_init_1 gL_X10_3 gOI_i gOI_c (by decide) (by decide) ?_
  refine aw_aload_n hC dX10_init_4 rfl ?_
  refine aw_new hC dX10_init_5 aK_X7 gW_X10_9 gB_X7 gN_X7 a_le a_le ?_
  rw [show (a_tags.take 9).length = 9 from rfl, show a_tags.take 9 ++ [.inr 7] = a_tags.take 10 from rfl]
  show AW X (0 + 1) (0 + a_nf 7) 8 [some (.ref 8), some (.ref 1)] [.ref 9, .ref 8] (a_tags.take 10) I J R
  refine aw_dup hC dX10_init_8 rfl ?_
  refine kX10_11 hC rfl (i_X7_init_9 (I := I) (J := J) (R := R)) dX10_init_9 rfl a_le a_le a_le a_le a_le rfl aPure_x (aPure_k ?_)
  show AW X ((0 + 1) + 1) ((0 + a_nf 7) + 10) 12 [some (.ref 8), some (.ref 1)] [.ref 9, .ref 8] (a_tags.take 11) I J (a_u R 9 0 (some 10))
  refine aw_putRF hC dX10_init_12 aF_X10_12 rfl rfl rfl rfl rfl ?_
  refine aw_aload_n hC dX10_init_15 rfl ?_
  refine aw_bipush (v := 10) hC dX10_init_16 (by decide) ?_
  refine aw_newarrayI (N := 10) hC dX10_init_18 gA_int rfl (by decide) a_le a_le ?_
  rw [show (a_tags.take 11).length = 11 from rfl, show a_tags.take 11 ++ [.inl (.int, 10)] = a_tags.take 12 from rfl]
  show AW X (((0 + 1) + 1) + 1) (((0 + a_nf 7) + 10) + 10) 20 [some (.ref 8), some (.ref 1)] [.ref 11, .ref 8] (a_tags.take 12) I J (a_u (a_u R 9 0 (some 10)) 8 1 (some 9))
  refine aw_putRF hC dX10_init_20 aF_X10_18 rfl rfl rfl rfl rfl ?_
  refine aw_aload_n hC dX10_init_23 rfl ?_
  refine aw_new hC dX10_init_24 aK_X7 gW_X10_9 gB_X7 gN_X7 a_le a_le ?_
  rw [show (a_tags.take 12).length = 12 from rfl, show a_tags.take 12 ++ [.inr 7] = a_tags.take 13 from rfl]
  show AW X ((((0 + 1) + 1) + 1) + 1) ((((0 + a_nf 7) + 10) + 10) + a_nf 7) 27 [some (.ref 8), some (.ref 1)] [.ref 12, .ref 8] (a_tags.take 13) I J (a_u (a_u (a_u R 9 0 (some 10)) 8 1 (some 9)) 8 4 (some 11))
  refine aw_dup hC dX10_init_27 rfl ?_
  refine kX10_11 hC rfl (i_X7_init_12 (I := I) (J := J) (R := a_u (a_u (a_u R 9 0 (some 10)) 8 1 (some 9)) 8 4 (some 11))) dX10_init_28 rfl a_le a_le a_le a_le a_le rfl aPure_x (aPure_k ?_)
  show AW X (((((0 + 1) + 1) + 1) + 1) + 1) (((((0 + a_nf 7) + 10) + 10) + a_nf 7) + 10) 31 [some (.ref 8), some (.ref 1)] [.ref 12, .ref 8] (a_tags.take 14) I J (a_u (a_u (a_u (a_u R 9 0 (some 10)) 8 1 (some 9)) 8 4 (some 11)) 12 0 (some 13))
  refine aw_putRF hC dX10_init_31 aF_X10_22 rfl rfl rfl rfl rfl ?_
  refine aw_aload_n hC dX10_init_34 rfl ?_
  refine aw_new hC dX10_init_35 aK_X7 gW_X10_9 gB_X7 gN_X7 a_le a_le ?_
  rw [show (a_tags.take 14).length = 14 from rfl, show a_tags.take 14 ++ [.inr 7] = a_tags.take 15 from rfl]
  show AW X ((((((0 + 1) + 1) + 1) + 1) + 1) + 1) ((((((0 + a_nf 7) + 10) + 10) + a_nf 7) + 10) + a_nf 7) 38 [some (.ref 8), some (.ref 1)] [.ref 14, .ref 8] (a_tags.take 15) I J (a_u (a_u (a_u (a_u (a_u R 9 0 (some 10)) 8 1 (some 9)) 8 4 (some 11)) 12 0 (some 13)) 8 5 (some 12))
  refine aw_dup hC dX10_init_38 rfl ?_
  refine kX10_11 hC rfl (i_X7_init_14 (I := I) (J := J) (R := a_u (a_u (a_u (a_u (a_u R 9 0 (some 10)) 8 1 (some 9)) 8 4 (some 11)) 12 0 (some 13)) 8 5 (some 12))) dX10_init_39 rfl a_le a_le a_le a_le a_le rfl aPure_x (aPure_k ?_)
  show AW X (((((((0 + 1) + 1) + 1) + 1) + 1) + 1) + 1) (((((((0 + a_nf 7) + 10) + 10) + a_nf 7) + 10) + a_nf 7) + 10) 42 [some (.ref 8), some (.ref 1)] [.ref 14, .ref 8] (a_tags.take 16) I J (a_u (a_u (a_u (a_u (a_u (a_u R 9 0 (some 10)) 8 1 (some 9)) 8 4 (some 11)) 12 0 (some 13)) 8 5 (some 12)) 14 0 (some 15))
  refine aw_putRF hC dX10_init_42 aF_X10_25 rfl rfl rfl rfl rfl ?_
  refine aw_aload_n hC dX10_init_45 rfl ?_
  refine aw_bipush (v := 30) hC dX10_init_46 (by decide) ?_
  refine aw_anewarray (N := 30) (C := "Layerwright$Statement") hC dX10_init_48 gW_X10_28 (by decide) rfl (by decide) a_le a_le ?_
  rw [show (a_tags.take 16).length = 16 from rfl, show a_tags.take 16 ++ [.inl (.object "Layerwright$Statement", 30)] = a_tags.take 17 from rfl]
  show AW X ((((((((0 + 1) + 1) + 1) + 1) + 1) + 1) + 1) + 1) ((((((((0 + a_nf 7) + 10) + 10) + a_nf 7) + 10) + a_nf 7) + 10) + 30) 51 [some (.ref 8), some (.ref 1)] [.ref 16, .ref 8] (a_tags.take 17) I J (a_u (a_u (a_u (a_u (a_u (a_u (a_u R 9 0 (some 10)) 8 1 (some 9)) 8 4 (some 11)) 12 0 (some 13)) 8 5 (some 12)) 14 0 (some 15)) 8 6 (some 14))
  refine aw_putRF hC dX10_init_51 aF_X10_30 rfl rfl rfl rfl rfl ?_
  refine aw_aload_n hC dX10_init_54 rfl ?_
  refine aw_bipush (v := 30) hC dX10_init_55 (by decide) ?_
  refine aw_newarrayI (N := 30) hC dX10_init_57 gA_int rfl (by decide) a_le a_le ?_
  rw [show (a_tags.take 17).length = 17 from rfl, show a_tags.take 17 ++ [.inl (.int, 30)] = a_tags.take 18 from rfl]
  show AW X (((((((((0 + 1) + 1) + 1) + 1) + 1) + 1) + 1) + 1) + 1) (((((((((0 + a_nf 7) + 10) + 10) + a_nf 7) + 10) + a_nf 7) + 10) + 30) + 30) 59 [some (.ref 8), some (.ref 1)] [.ref 17, .ref 8] (a_tags.take 18) I J (a_u (a_u (a_u (a_u (a_u (a_u (a_u (a_u R 9 0 (some 10)) 8 1 (some 9)) 8 4 (some 11)) 12 0 (some 13)) 8 5 (some 12)) 14 0 (some 15)) 8 6 (some 14)) 8 7 (some 16))
  refine aw_putRF hC dX10_init_59 aF_X10_34 rfl rfl rfl rfl rfl ?_
  refine aw_aload_n hC dX10_init_62 rfl ?_
  refine aw_bipush (v := 30) hC dX10_init_63 (by decide) ?_
  refine aw_newarrayI (N := 30) hC dX10_init_65 gA_int rfl (by decide) a_le a_le ?_
  rw [show (a_tags.take 18).length = 18 from rfl, show a_tags.take 18 ++ [.inl (.int, 30)] = a_tags.take 19 from rfl]
  show AW X ((((((((((0 + 1) + 1) + 1) + 1) + 1) + 1) + 1) + 1) + 1) + 1) ((((((((((0 + a_nf 7) + 10) + 10) + a_nf 7) + 10) + a_nf 7) + 10) + 30) + 30) + 30) 67 [some (.ref 8), some (.ref 1)] [.ref 18, .ref 8] (a_tags.take 19) I J (a_u (a_u (a_u (a_u (a_u (a_u (a_u (a_u (a_u R 9 0 (some 10)) 8 1 (some 9)) 8 4 (some 11)) 12 0 (some 13)) 8 5 (some 12)) 14 0 (some 15)) 8 6 (some 14)) 8 7 (some 16)) 8 8 (some 17))
  refine aw_putRF hC dX10_init_67 aF_X10_37 rfl rfl rfl rfl rfl ?_
  refine aw_aload_n hC dX10_init_70 rfl ?_
  refine aw_aload_n hC dX10_init_71 rfl ?_
  refine aw_putRF hC dX10_init_72 aF_X10_40 rfl rfl rfl rfl rfl ?_
  exact aw_return hC hq rfl dX10_init_75 a_le a_le aPure_v
set_option maxRecDepth 100000 in
theorem i_X9_init_27 {I : aI} {J : aJ} {R : aR} : MX9_init 1 3 [.ref 27] (a_tags.take 28) I J R (aPure none (a_tags.take 29) I J (a_u R 27 0 (some 28))) := by
  refine a_met (by decide +kernel) a_le (fun X hC hq => ?_)
  show AW X 0 0 0 [some (.ref 27)] [] (a_tags.take 28) I J R
  refine aw_aload_n hC dX9_init_0 rfl ?_
  refine aw_objInit hC dX9_init_1 gL_X9_3 gOI_i gOI_c (by decide) (by decide) ?_
  refine aw_aload_n hC dX9_init_4 rfl ?_
  refine aw_iconst (v := 3) hC dX9_init_5 (by decide) ?_
  refine aw_newarrayI (N := 3) hC dX9_init_6 gA_int rfl (by decide) a_le a_le ?_
  rw [show (a_tags.take 28).length = 28 from rfl, show a_tags.take 28 ++ [.inl (.int, 3)] = a_tags.take 29 from rfl]
  show AW X (0 + 1) (0 + 3) 8 [some (.ref 27)] [.ref 28, .ref 27] (a_tags.take 29) I J R
  refine aw_putRF hC dX9_init_8 aF_X9_9 rfl rfl rfl rfl rfl ?_
  exact aw_return hC hq rfl dX9_init_11 a_le a_le aPure_v
set_option maxRecDepth 100000 in
theorem i_X9_init_29 {I : aI} {J : aJ} {R : aR} : MX9_init 1 3 [.ref 29] (a_tags.take 30) I J R (aPure none (a_tags.take 31) I J (a_u R 29 0 (some 30))) := by
  refine a_met (by decide +kernel) a_le (fun X hC hq => ?_)
  show AW X 0 0 0 [some (.ref 29)] [] (a_tags.take 30) I J R
  refine aw_aload_n hC dX9_init_0 rfl ?_
  refine aw_objInit hC dX9_init_1 gL_X9_3 gOI_i gOI_c (by decide) (by decide) ?_
  refine aw_aload_n hC dX9_init_4 rfl ?_
  refine aw_iconst (v := 3) hC dX9_init_5 (by decide) ?_
  refine aw_newarrayI (N := 3) hC dX9_init_6 gA_int rfl (by decide) a_le a_le ?_
  rw [show (a_tags.take 30).length = 30 from rfl, show a_tags.take 30 ++ [.inl (.int, 3)] = a_tags.take 31 from rfl]
  show AW X (0 + 1) (0 + 3) 8 [some (.ref 29)] [.ref 30, .ref 29] (a_tags.take 31) I J R
  refine aw_putRF hC dX9_init_8 aF_X9_9 rfl rfl rfl rfl rfl ?_
  exact aw_return hC hq rfl dX9_init_11 a_le a_le aPure_v
set_option maxRecDepth 100000 in
theorem i_X9_init_31 {I : aI} {J : aJ} {R : aR} : MX9_init 1 3 [.ref 31] (a_tags.take 32) I J R (aPure none (a_tags.take 33) I J (a_u R 31 0 (some 32))) := by
  refine a_met (by decide +kernel) a_le (fun X hC hq => ?_)
  show AW X 0 0 0 [some (.ref 31)] [] (a_tags.take 32) I J R
  refine aw_aload_n hC dX9_init_0 rfl ?_
  refine aw_objInit hC dX9_init_1 gL_X9_3 gOI_i gOI_c (by decide) (by decide) ?_
  refine aw_aload_n hC dX9_init_4 rfl ?_
  refine aw_iconst (v := 3) hC dX9_init_5 (by decide) ?_
  refine aw_newarrayI (N := 3) hC dX9_init_6 gA_int rfl (by decide) a_le a_le ?_
  rw [show (a_tags.take 32).length = 32 from rfl, show a_tags.take 32 ++ [.inl (.int, 3)] = a_tags.take 33 from rfl]
  show AW X (0 + 1) (0 + 3) 8 [some (.ref 31)] [.ref 32, .ref 31] (a_tags.take 33) I J R
  refine aw_putRF hC dX9_init_8 aF_X9_9 rfl rfl rfl rfl rfl ?_
  exact aw_return hC hq rfl dX9_init_11 a_le a_le aPure_v
set_option maxRecDepth 100000 in
theorem i_X4_init_19 {I : aI} {J : aJ} {R : aR} : MX4_init 13 456 [.ref 19] (a_tags.take 20) I J R (aPure none (a_tags.take 33) I J (a_u (a_u (a_u (a_u (a_u (a_u (a_u (a_u (a_u (a_u (a_u (a_u (a_u R 19 0 (some 20)) 19 1 (some 21)) 19 3 (some 22)) 19 4 (some 23)) 19 5 (some 24)) 19 7 (some 25)) 19 9 (some 26)) 27 0 (some 28)) 20 0 (some 27)) 29 0 (some 30)) 20 1 (some 29)) 31 0 (some 32)) 20 2 (some 31))) := by
  refine a_met (by decide +kernel) a_le (fun X hC hq => ?_)
  show AW X 0 0 0 [some (.ref 19), none] [] (a_tags.take 20) I J R
  refine aw_aload_n hC dX4_init_0 rfl ?_
  refine aw_objInit hC dX4_init_1 gL_X4_3 gOI_i gOI_c (by decide) (by decide) ?_
  refine aw_aload_n hC dX4_init_4 rfl ?_
  refine aw_iconst (v := 3) hC dX4_init_5 (by decide) ?_
  refine aw_anewarray (N := 3) (C := "Layerwright$Type") hC dX4_init_6 gW_X4_9 (by decide) rfl (by decide) a_le a_le ?_
  rw [show (a_tags.take 20).length = 20 from rfl, show a_tags.take 20 ++ [.inl (.object "Layerwright$Type", 3)] = a_tags.take 21 from rfl]
  show AW X (0 + 1) (0 + 3) 9 [some (.ref 19), none] [.ref 20, .ref 19] (a_tags.take 21) I J R
  refine aw_putRF hC dX4_init_9 aF_X4_11 rfl rfl rfl rfl rfl ?_
  refine aw_aload_n hC dX4_init_12 rfl ?_
  refine aw_iconst (v := 4) hC dX4_init_13 (by decide) ?_
  refine aw_anewarray (N := 4) (C := "Layerwright$Generator") hC dX4_init_14 gW_X4_17 (by decide) rfl (by decide) a_le a_le ?_
  rw [show (a_tags.take 21).length = 21 from rfl, show a_tags.take 21 ++ [.inl (.object "Layerwright$Generator", 4)] = a_tags.take 22 from rfl]
  show AW X ((0 + 1) + 1) ((0 + 3) + 4) 17 [some (.ref 19), none] [.ref 21, .ref 19] (a_tags.take 22) I J (a_u R 19 0 (some 20))
  refine aw_putRF hC dX4_init_17 aF_X4_19 rfl rfl rfl rfl rfl ?_
  refine aw_aload_n hC dX4_init_20 rfl ?_
  refine aw_bipush (v := 60) hC dX4_init_21 (by decide) ?_
  refine aw_newarrayI (N := 60) hC dX4_init_23 gA_int rfl (by decide) a_le a_le ?_
  rw [show (a_tags.take 22).length = 22 from rfl, show a_tags.take 22 ++ [.inl (.int, 60)] = a_tags.take 23 from rfl]
  show AW X (((0 + 1) + 1) + 1) (((0 + 3) + 4) + 60) 25 [some (.ref 19), none] [.ref 22, .ref 19] (a_tags.take 23) I J (a_u (a_u R 19 0 (some 20)) 19 1 (some 21))
  refine aw_putRF hC dX4_init_25 aF_X4_23 rfl rfl rfl rfl rfl ?_
  refine aw_aload_n hC dX4_init_28 rfl ?_
  refine aw_sipush (v := 180) hC dX4_init_29 (by decide) ?_
  refine aw_newarrayI (N := 180) hC dX4_init_32 gA_int rfl (by decide) a_le a_le ?_
  rw [show (a_tags.take 23).length = 23 from rfl, show a_tags.take 23 ++ [.inl (.int, 180)] = a_tags.take 24 from rfl]
  show AW X ((((0 + 1) + 1) + 1) + 1) ((((0 + 3) + 4) + 60) + 180) 34 [some (.ref 19), none] [.ref 23, .ref 19] (a_tags.take 24) I J (a_u (a_u (a_u R 19 0 (some 20)) 19 1 (some 21)) 19 3 (some 22))
  refine aw_putRF hC dX4_init_34 aF_X4_27 rfl rfl rfl rfl rfl ?_
  refine aw_aload_n hC dX4_init_37 rfl ?_
  refine aw_bipush (v := 60) hC dX4_init_38 (by decide) ?_
  refine aw_newarrayZ (N := 60) hC dX4_init_40 gA_boolean rfl (by decide) a_le a_le ?_
  rw [show (a_tags.take 24).length = 24 from rfl, show a_tags.take 24 ++ [.inl (.boolean, 60)] = a_tags.take 25 from rfl]
  show AW X (((((0 + 1) + 1) + 1) + 1) + 1) (((((0 + 3) + 4) + 60) + 180) + 60) 42 [some (.ref 19), none] [.ref 24, .ref 19] (a_tags.take 25) I J (a_u (a_u (a_u (a_u R 19 0 (some 20)) 19 1 (some 21)) 19 3 (some 22)) 19 4 (some 23))
  refine aw_putRF hC dX4_init_42 aF_X4_30 rfl rfl rfl rfl rfl ?_
  refine aw_aload_n hC dX4_init_45 rfl ?_
  refine aw_bipush (v := 64) hC dX4_init_46 (by decide) ?_
  refine aw_anewarray (N := 64) (C := "Layerwright$Entry") hC dX4_init_48 gW_X4_34 (by decide) rfl (by decide) a_le a_le ?_
  rw [show (a_tags.take 25).length = 25 from rfl, show a_tags.take 25 ++ [.inl (.object "Layerwright$Entry", 64)] = a_tags.take 26 from rfl]
  show AW X ((((((0 + 1) + 1) + 1) + 1) + 1) + 1) ((((((0 + 3) + 4) + 60) + 180) + 60) + 64) 51 [some (.ref 19), none] [.ref 25, .ref 19] (a_tags.take 26) I J (a_u (a_u (a_u (a_u (a_u R 19 0 (some 20)) 19 1 (some 21)) 19 3 (some 22)) 19 4 (some 23)) 19 5 (some 24))
  refine aw_putRF hC dX4_init_51 aF_X4_36 rfl rfl rfl rfl rfl ?_
  refine aw_aload_n hC dX4_init_54 rfl ?_
  refine aw_bipush (v := 64) hC dX4_init_55 (by decide) ?_
  refine aw_newarrayI (N := 64) hC dX4_init_57 gA_int rfl (by decide) a_le a_le ?_
  rw [show (a_tags.take 26).length = 26 from rfl, show a_tags.take 26 ++ [.inl (.int, 64)] = a_tags.take 27 from rfl]
  show AW X (((((((0 + 1) + 1) + 1) + 1) + 1) + 1) + 1) (((((((0 + 3) + 4) + 60) + 180) + 60) + 64) + 64) 59 [some (.ref 19), none] [.ref 26, .ref 19] (a_tags.take 27) I J (a_u (a_u (a_u (a_u (a_u (a_u R 19 0 (some 20)) 19 1 (some 21)) 19 3 (some 22)) 19 4 (some 23)) 19 5 (some 24)) 19 7 (some 25))
  refine aw_putRF hC dX4_init_59 aF_X4_40 rfl rfl rfl rfl rfl ?_
  refine aw_iconst (v := 0) hC dX4_init_62 (by decide) ?_
  refine aw_istore_n (L2 := [some (.ref 19), some (.int 0)]) hC dX4_init_63 rfl (by decide) rfl ?_
  refine aw_iload_n hC dX4_init_64 rfl ?_
  refine aw_iconst (v := 3) hC dX4_init_65 (by decide) ?_
  refine aw_icmp_ge (tgt := 88) hC dX4_init_66 (by decide) (fun h1 => absurd h1 (by decide)) (fun _ => ?_)
  show AW X (((((((0 + 1) + 1) + 1) + 1) + 1) + 1) + 1) (((((((0 + 3) + 4) + 60) + 180) + 60) + 64) + 64) 69 [some (.ref 19), some (.int 0)] [] (a_tags.take 27) I J (a_u (a_u (a_u (a_u (a_u (a_u (a_u R 19 0 (some 20)) 19 1 (some 21)) 19 3 (some 22)) 19 4 (some 23)) 19 5 (some 24)) 19 7 (some 25)) 19 9 (some 26))
  refine aw_aload_n hC dX4_init_69 rfl ?_
  refine aw_getR hC dX4_init_70 aF_X4_11 rfl rfl rfl ?_
  refine aw_iload_n hC dX4_init_73 rfl ?_
  refine aw_new hC dX4_init_74 aK_X9 gW_X4_9 gB_X9 gN_X9 a_le a_le ?_
  rw [show (a_tags.take 27).length = 27 from rfl, show a_tags.take 27 ++ [.inr 9] = a_tags.take 28 from rfl]
  show AW X ((((((((0 + 1) + 1) + 1) + 1) + 1) + 1) + 1) + 1) ((((((((0 + 3) + 4) + 60) + 180) + 60) + 64) + 64) + a_nf 9) 77 [some (.ref 19), some (.int 0)] [.ref 27, .int 0, .ref 20] (a_tags.take 28) I J (a_u (a_u (a_u (a_u (a_u (a_u (a_u R 19 0 (some 20)) 19 1 (some 21)) 19 3 (some 22)) 19 4 (some 23)) 19 5 (some 24)) 19 7 (some 25)) 19 9 (some 26))
  refine aw_dup hC dX4_init_77 rfl ?_
  refine kX4_43 hC rfl (i_X9_init_27 (I := I) (J := J) (R := a_u (a_u (a_u (a_u (a_u (a_u (a_u R 19 0 (some 20)) 19 1 (some 21)) 19 3 (some 22)) 19 4 (some 23)) 19 5 (some 24)) 19 7 (some 25)) 19 9 (some 26))) dX4_init_78 rfl a_le a_le a_le a_le a_le rfl aPure_x (aPure_k ?_)
  show AW X (((((((((0 + 1) + 1) + 1) + 1) + 1) + 1) + 1) + 1) + 1) (((((((((0 + 3) + 4) + 60) + 180) + 60) + 64) + 64) + a_nf 9) + 3) 81 [some (.ref 19), some (.int 0)] [.ref 27, .int 0, .ref 20] (a_tags.take 29) I J (a_u (a_u (a_u (a_u (a_u (a_u (a_u (a_u R 19 0 (some 20)) 19 1 (some 21)) 19 3 (some 22)) 19 4 (some 23)) 19 5 (some 24)) 19 7 (some 25)) 19 9 (some 26)) 27 0 (some 28))
  refine aw_aastoreR_k (j := 0) hC dX4_init_81 rfl (by decide) (by unfold vp_in; decide) rfl rfl ?_
  refine aw_iinc (v := 1) (L2 := [some (.ref 19), some (.int 1)]) hC dX4_init_82 rfl (by decide) (by decide) rfl ?_
  refine aw_goto (tgt := 64) hC dX4_init_85 (by decide) ?_
  refine aw_iload_n hC dX4_init_64 rfl ?_
  refine aw_iconst (v := 3) hC dX4_init_65 (by decide) ?_
  refine aw_icmp_ge (tgt := 88) hC dX4_init_66 (by decide) (fun h2 => absurd h2 (by decide)) (fun _ => ?_)
  show AW X (((((((((0 + 1) + 1) + 1) + 1) + 1) + 1) + 1) + 1) + 1) (((((((((0 + 3) + 4) + 60) + 180) + 60) + 64) + 64) + a_nf 9) + 3) 69 [some (.ref 19), some (.int 1)] [] (a_tags.take 29) I J (a_u (a_u (a_u (a_u (a_u (a_u (a_u (a_u (a_u R 19 0 (some 20)) 19 1 (some 21)) 19 3 (some 22)) 19 4 (some 23)) 19 5 (some 24)) 19 7 (some 25)) 19 9 (some 26)) 27 0 (some 28)) 20 0 (some 27))
  refine aw_aload_n hC dX4_init_69 rfl ?_
  refine aw_getR hC dX4_init_70 aF_X4_11 rfl rfl rfl ?_
  refine aw_iload_n hC dX4_init_73 rfl ?_
  refine aw_new hC dX4_init_74 aK_X9 gW_X4_9 gB_X9 gN_X9 a_le a_le ?_
  rw [show (a_tags.take 29).length = 29 from rfl, show a_tags.take 29 ++ [.inr 9] = a_tags.take 30 from rfl]
  show AW X ((((((((((0 + 1) + 1) + 1) + 1) + 1) + 1) + 1) + 1) + 1) + 1) ((((((((((0 + 3) + 4) + 60) + 180) + 60) + 64) + 64) + a_nf 9) + 3) + a_nf 9) 77 [some (.ref 19), some (.int 1)] [.ref 29, .int 1, .ref 20] (a_tags.take 30) I J (a_u (a_u (a_u (a_u (a_u (a_u (a_u (a_u (a_u R 19 0 (some 20)) 19 1 (some 21)) 19 3 (some 22)) 19 4 (some 23)) 19 5 (some 24)) 19 7 (some 25)) 19 9 (some 26)) 27 0 (some 28)) 20 0 (some 27))
  refine aw_dup hC dX4_init_77 rfl ?_
  refine kX4_43 hC rfl (i_X9_init_29 (I := I) (J := J) (R := a_u (a_u (a_u (a_u (a_u (a_u (a_u (a_u (a_u R 19 0 (some 20)) 19 1 (some 21)) 19 3 (some 22)) 19 4 (some 23)) 19 5 (some 24)) 19 7 (some 25)) 19 9 (some 26)) 27 0 (some 28)) 20 0 (some 27))) dX4_init_78 rfl a_le a_le a_le a_le a_le rfl aPure_x (aPure_k ?_)
  show AW X (((((((((((0 + 1) + 1) + 1) + 1) + 1) + 1) + 1) + 1) + 1) + 1) + 1) (((((((((((0 + 3) + 4) + 60) + 180) + 60) + 64) + 64) + a_nf 9) + 3) + a_nf 9) + 3) 81 [some (.ref 19), some (.int 1)] [.ref 29, .int 1, .ref 20] (a_tags.take 31) I J (a_u (a_u (a_u (a_u (a_u (a_u (a_u (a_u (a_u (a_u R 19 0 (some 20)) 19 1 (some 21)) 19 3 (some 22)) 19 4 (some 23)) 19 5 (some 24)) 19 7 (some 25)) 19 9 (some 26)) 27 0 (some 28)) 20 0 (some 27)) 29 0 (some 30))
  refine aw_aastoreR_k (j := 1) hC dX4_init_81 rfl (by decide) (by unfold vp_in; decide) rfl rfl ?_
  refine aw_iinc (v := 2) (L2 := [some (.ref 19), some (.int 2)]) hC dX4_init_82 rfl (by decide) (by decide) rfl ?_
  refine aw_goto (tgt := 64) hC dX4_init_85 (by decide) ?_
  refine aw_iload_n hC dX4_init_64 rfl ?_
  refine aw_iconst (v := 3) hC dX4_init_65 (by decide) ?_
  refine aw_icmp_ge (tgt := 88) hC dX4_init_66 (by decide) (fun h3 => absurd h3 (by decide)) (fun _ => ?_)
  show AW X (((((((((((0 + 1) + 1) + 1) + 1) + 1) + 1) + 1) + 1) + 1) + 1) + 1) (((((((((((0 + 3) + 4) + 60) + 180) + 60) + 64) + 64) + a_nf 9) + 3) + a_nf 9) + 3) 69 [some (.ref 19), some (.int 2)] [] (a_tags.take 31) I J (a_u (a_u (a_u (a_u (a_u (a_u (a_u (a_u (a_u (a_u (a_u R 19 0 (some 20)) 19 1 (some 21)) 19 3 (some 22)) 19 4 (some 23)) 19 5 (some 24)) 19 7 (some 25)) 19 9 (some 26)) 27 0 (some 28)) 20 0 (some 27)) 29 0 (some 30)) 20 1 (some 29))
  refine aw_aload_n hC dX4_init_69 rfl ?_
  refine aw_getR hC dX4_init_70 aF_X4_11 rfl rfl rfl ?_
  refine aw_iload_n hC dX4_init_73 rfl ?_
  refine aw_new hC dX4_init_74 aK_X9 gW_X4_9 gB_X9 gN_X9 a_le a_le ?_
  rw [show (a_tags.take 31).length = 31 from rfl, show a_tags.take 31 ++ [.inr 9] = a_tags.take 32 from rfl]
  show AW X ((((((((((((0 + 1) + 1) + 1) + 1) + 1) + 1) + 1) + 1) + 1) + 1) + 1) + 1) ((((((((((((0 + 3) + 4) + 60) + 180) + 60) + 64) + 64) + a_nf 9) + 3) + a_nf 9) + 3) + a_nf 9) 77 [some (.ref 19), some (.int 2)] [.ref 31, .int 2, .ref 20] (a_tags.take 32) I J (a_u (a_u (a_u (a_u (a_u (a_u (a_u (a_u (a_u (a_u (a_u R 19 0 (some 20)) 19 1 (some 21)) 19 3 (some 22)) 19 4 (some 23)) 19 5 (some 24)) 19 7 (some 25)) 19 9 (some 26)) 27 0 (some 28)) 20 0 (some 27)) 29 0 (some 30)) 20 1 (some 29))
  refine aw_dup hC dX4_init_77 rfl ?_
  refine kX4_43 hC rfl (i_X9_init_31 (I := I) (J := J) (R := a_u (a_u (a_u (a_u (a_u (a_u (a_u (a_u (a_u (a_u (a_u R 19 0 (some 20)) 19 1 (some 21)) 19 3 (some 22)) 19 4 (some 23)) 19 5 (some 24)) 19 7 (some 25)) 19 9 (some 26)) 27 0 (some 28)) 20 0 (some 27)) 29 0 (some 30)) 20 1 (some 29))) dX4_init_78 rfl a_le a_le a_le a_le a_le rfl aPure_x (aPure_k ?_)
  show AW X (((((((((((((0 + 1) + 1) + 1) + 1) + 1) + 1) + 1) + 1) + 1) + 1) + 1) + 1) + 1) (((((((((((((0 + 3) + 4) + 60) + 180) + 60) + 64) + 64) + a_nf 9) + 3) + a_nf 9) + 3) + a_nf 9) + 3) 81 [some (.ref 19), some (.int 2)] [.ref 31, .int 2, .ref 20] (a_tags.take 33) I J (a_u (a_u (a_u (a_u (a_u (a_u (a_u (a_u (a_u (a_u (a_u (a_u R 19 0 (some 20)) 19 1 (some 21)) 19 3 (some 22)) 19 4 (some 23)) 19 5 (some 24)) 19 7 (some 25)) 19 9 (some 26)) 27 0 (some 28)) 20 0 (some 27)) 29 0 (some 30)) 20 1 (some 29)) 31 0 (some 32))
  refine aw_aastoreR_k (j := 2) hC dX4_init_81 rfl (by decide) (by unfold vp_in; decide) rfl rfl ?_
  refine aw_iinc (v := 3) (L2 := [some (.ref 19), some (.int 3)]) hC dX4_init_82 rfl (by decide) (by decide) rfl ?_
  refine aw_goto (tgt := 64) hC dX4_init_85 (by decide) ?_
  refine aw_iload_n hC dX4_init_64 rfl ?_
  refine aw_iconst (v := 3) hC dX4_init_65 (by decide) ?_
  refine aw_icmp_ge (tgt := 88) hC dX4_init_66 (by decide) (fun _ => ?_) (fun h4 => absurd h4 (by decide))
  show AW X (((((((((((((0 + 1) + 1) + 1) + 1) + 1) + 1) + 1) + 1) + 1) + 1) + 1) + 1) + 1) (((((((((((((0 + 3) + 4) + 60) + 180) + 60) + 64) + 64) + a_nf 9) + 3) + a_nf 9) + 3) + a_nf 9) + 3) 88 [some (.ref 19), some (.int 3)] [] (a_tags.take 33) I J (a_u (a_u (a_u (a_u (a_u (a_u (a_u (a_u (a_u (a_u (a_u (a_u (a_u R 19 0 (some 20)) 19 1 (some 21)) 19 3 (some 22)) 19 4 (some 23)) 19 5 (some 24)) 19 7 (some 25)) 19 9 (some 26)) 27 0 (some 28)) 20 0 (some 27)) 29 0 (some 30)) 20 1 (some 29)) 31 0 (some 32)) 20 2 (some 31))
  exact aw_return hC hq rfl dX4_init_88 a_le a_le aPure_v
set_option maxRecDepth 100000 in
theorem i_X2_init_33 {I : aI} {J : aJ} {R : aR} : MX2_init 4 576 [.ref 33, .ref 8, .ref 19] (a_tags.take 34) I J R (aPure none (a_tags.take 38) I J (a_u (a_u (a_u (a_u (a_u (a_u R 33 0 (some 34)) 33 1 (some 35)) 33 4 (some 36)) 33 6 (some 37)) 33 2 (some 8)) 33 3 (some 19))) := by
  refine a_met (by decide +kernel) a_le (fun X hC hq => ?_)
  show AW X 0 0 0 [some (.ref 33), some (.ref 8), some (.ref 19)] [] (a_tags.take 34) I J R
  refine aw_aload_n hC dX2_init_0 rfl ?_
  refine aw_objInit hC dX2_init_1 gL_X2_3 gOI_i gOI_c (by decide) (by decide) ?_
  refine aw_aload_n hC dX2_init_4 rfl ?_
  refine aw_sipush (v := 192) hC dX2_init_5 (by decide) ?_
  refine aw_newarrayI (N := 192) hC dX2_init_8 gA_int rfl (by decide) a_le a_le ?_
  rw [show (a_tags.take 34).length = 34 from rfl, show a_tags.take 34 ++ [.inl (.int, 192)] = a_tags.take 35 from rfl]
  show AW X (0 + 1) (0 + 192) 10 [some (.ref 33), some (.ref 8), some (.ref 19)] [.ref 34, .ref 33] (a_tags.take 35) I J R
  refine aw_putRF hC dX2_init_10 aF_X2_9 rfl rfl rfl rfl rfl ?_
  refine aw_aload_n hC dX2_init_13 rfl ?_
  refine aw_sipush (v := 128) hC dX2_init_14 (by decide) ?_
  refine aw_newarrayI (N := 128) hC dX2_init_17 gA_int rfl (by decide) a_le a_le ?_
  rw [show (a_tags.take 35).length = 35 from rfl, show a_tags.take 35 ++ [.inl (.int, 128)] = a_tags.take 36 from rfl]
  show AW X ((0 + 1) + 1) ((0 + 192) + 128) 19 [some (.ref 33), some (.ref 8), some (.ref 19)] [.ref 35, .ref 33] (a_tags.take 36) I J (a_u R 33 0 (some 34))
  refine aw_putRF hC dX2_init_19 aF_X2_15 rfl rfl rfl rfl rfl ?_
  refine aw_aload_n hC dX2_init_22 rfl ?_
  refine aw_bipush (v := 64) hC dX2_init_23 (by decide) ?_
  refine aw_newarrayI (N := 64) hC dX2_init_25 gA_int rfl (by decide) a_le a_le ?_
  rw [show (a_tags.take 36).length = 36 from rfl, show a_tags.take 36 ++ [.inl (.int, 64)] = a_tags.take 37 from rfl]
  show AW X (((0 + 1) + 1) + 1) (((0 + 192) + 128) + 64) 27 [some (.ref 33), some (.ref 8), some (.ref 19)] [.ref 36, .ref 33] (a_tags.take 37) I J (a_u (a_u R 33 0 (some 34)) 33 1 (some 35))
  refine aw_putRF hC dX2_init_27 aF_X2_18 rfl rfl rfl rfl rfl ?_
  refine aw_aload_n hC dX2_init_30 rfl ?_
  refine aw_sipush (v := 192) hC dX2_init_31 (by decide) ?_
  refine aw_newarrayI (N := 192) hC dX2_init_34 gA_int rfl (by decide) a_le a_le ?_
  rw [show (a_tags.take 37).length = 37 from rfl, show a_tags.take 37 ++ [.inl (.int, 192)] = a_tags.take 38 from rfl]
  show AW X ((((0 + 1) + 1) + 1) + 1) ((((0 + 192) + 128) + 64) + 192) 36 [some (.ref 33), some (.ref 8), some (.ref 19)] [.ref 37, .ref 33] (a_tags.take 38) I J (a_u (a_u (a_u R 33 0 (some 34)) 33 1 (some 35)) 33 4 (some 36))
  refine aw_putRF hC dX2_init_36 aF_X2_21 rfl rfl rfl rfl rfl ?_
  refine aw_aload_n hC dX2_init_39 rfl ?_
  refine aw_aload_n hC dX2_init_40 rfl ?_
  refine aw_putRF hC dX2_init_41 aF_X2_24 rfl rfl rfl rfl rfl ?_
  refine aw_aload_n hC dX2_init_44 rfl ?_
  refine aw_aload_n hC dX2_init_45 rfl ?_
  refine aw_putRF hC dX2_init_46 aF_X2_28 rfl rfl rfl rfl rfl ?_
  exact aw_return hC hq rfl dX2_init_49 a_le a_le aPure_v
set_option maxRecDepth 100000 in
theorem i_X0_init_38 {I : aI} {J : aJ} {R : aR} : MX0_init 2 128 [.ref 38, .ref 19, .ref 33] (a_tags.take 39) I J R (aPure none (a_tags.take 41) I J (a_u (a_u (a_u (a_u R 38 6 (some 39)) 38 7 (some 40)) 38 1 (some 19)) 38 2 (some 33))) := by
  refine a_met (by decide +kernel) a_le (fun X hC hq => ?_)
  show AW X 0 0 0 [some (.ref 38), some (.ref 19), some (.ref 33)] [] (a_tags.take 39) I J R
  refine aw_aload_n hC dX0_init_0 rfl ?_
  refine aw_objInit hC dX0_init_1 gL_X0_3 gOI_i gOI_c (by decide) (by decide) ?_
  refine aw_aload_n hC dX0_init_4 rfl ?_
  refine aw_bipush (v := 64) hC dX0_init_5 (by decide) ?_
  refine aw_newarrayZ (N := 64) hC dX0_init_7 gA_boolean rfl (by decide) a_le a_le ?_
  rw [show (a_tags.take 39).length = 39 from rfl, show a_tags.take 39 ++ [.inl (.boolean, 64)] = a_tags.take 40 from rfl]
  show AW X (0 + 1) (0 + 64) 9 [some (.ref 38), some (.ref 19), some (.ref 33)] [.ref 39, .ref 38] (a_tags.take 40) I J R
  refine aw_putRF hC dX0_init_9 aF_X0_9 rfl rfl rfl rfl rfl ?_
  refine aw_aload_n hC dX0_init_12 rfl ?_
  refine aw_bipush (v := 64) hC dX0_init_13 (by decide) ?_
  refine aw_newarrayI (N := 64) hC dX0_init_15 gA_int rfl (by decide) a_le a_le ?_
  rw [show (a_tags.take 40).length = 40 from rfl, show a_tags.take 40 ++ [.inl (.int, 64)] = a_tags.take 41 from rfl]
  show AW X ((0 + 1) + 1) ((0 + 64) + 64) 17 [some (.ref 38), some (.ref 19), some (.ref 33)] [.ref 40, .ref 38] (a_tags.take 41) I J (a_u R 38 6 (some 39))
  refine aw_putRF hC dX0_init_17 aF_X0_15 rfl rfl rfl rfl rfl ?_
  refine aw_aload_n hC dX0_init_20 rfl ?_
  refine aw_aload_n hC dX0_init_21 rfl ?_
  refine aw_putRF hC dX0_init_22 aF_X0_19 rfl rfl rfl rfl rfl ?_
  refine aw_aload_n hC dX0_init_25 rfl ?_
  refine aw_aload_n hC dX0_init_26 rfl ?_
  refine aw_putRF hC dX0_init_27 aF_X0_23 rfl rfl rfl rfl rfl ?_
  exact aw_return hC hq rfl dX0_init_30 a_le a_le aPure_v
set_option maxRecDepth 100000 in
theorem i_X11_init_0 {I : aI} {J : aJ} {R : aR} : MX11_init 43 1510 [.ref 0] (a_tags.take 1) I J R (aPure none (a_tags.take 44) (a_fill I 4 10 (fun _ => (-1))) J (a_u (a_u (a_u (a_u (a_u (a_u (a_u (a_u (a_u (a_u (a_u (a_u (a_u (a_u (a_u (a_u (a_u (a_u (a_u (a_u (a_u (a_u (a_u (a_u (a_u (a_u (a_u (a_u (a_u (a_u (a_u (a_u (a_u (a_u (a_u (a_u (a_u (a_u (a_u (a_u (a_u (a_u (a_u (a_u (a_u (a_u (a_u (a_u R 1 0 (some 2)) 1 2 (some 3)) 1 3 (some 4)) 1 4 (some 5)) 1 5 (some 6)) 1 7 (some 7)) 0 0 (some 1)) 9 0 (some 10)) 8 1 (some 9)) 8 4 (some 11)) 12 0 (some 13)) 8 5 (some 12)) 14 0 (some 15)) 8 6 (some 14)) 8 7 (some 16)) 8 8 (some 17)) 8 9 (some 18)) 8 0 (some 1)) 0 1 (some 8)) 19 0 (some 20)) 19 1 (some 21)) 19 3 (some 22)) 19 4 (some 23)) 19 5 (some 24)) 19 7 (some 25)) 19 9 (some 26)) 27 0 (some 28)) 20 0 (some 27)) 29 0 (some 30)) 20 1 (some 29)) 31 0 (some 32)) 20 2 (some 31)) 0 2 (some 19)) 33 0 (some 34)) 33 1 (some 35)) 33 4 (some 36)) 33 6 (some 37)) 33 2 (some 8)) 33 3 (some 19)) 0 3 (some 33)) 38 6 (some 39)) 38 7 (some 40)) 38 1 (some 19)) 38 2 (some 33)) 0 4 (some 38)) 0 5 (some 41)) 0 6 (some 42)) 0 8 (some 43))) := by
  refine a_met (by decide +kernel) a_le (fun X hC hq => ?_)
  show AW X 0 0 0 [some (.ref 0)] [] (a_tags.take 1) I J R
  refine aw_aload_n hC dX11_init_0 rfl ?_
  refine aw_objInit hC dX11_init_1 gL_X11_1 gOI_i gOI_c (by decide) (by decide) ?_
  refine aw_aload_n hC dX11_init_4 rfl ?_
  refine aw_new hC dX11_init_5 aK_X1 gW_X11_7 gB_X1 gN_X1 a_le a_le ?_
  rw [show (a_tags.take 1).length = 1 from rfl, show a_tags.take 1 ++ [.inr 1] = a_tags.take 2 from rfl]
  show AW X (0 + 1) (0 + a_nf 1) 8 [some (.ref 0)] [.ref 1, .ref 0] (a_tags.take 2) I J R
  refine aw_dup hC dX11_init_8 rfl ?_
  refine kX11_9 hC rfl (i_X1_init_1 (I := I) (J := J) (R := R)) dX11_init_9 rfl a_le a_le a_le a_le a_le rfl aPure_x (aPure_k ?_)
  show AW X ((0 + 1) + 6) ((0 + a_nf 1) + 112) 12 [some (.ref 0)] [.ref 1, .ref 0] (a_tags.take 8) (a_fill I 4 10 (fun _ => (-1))) J (a_u (a_u (a_u (a_u (a_u (a_u R 1 0 (some 2)) 1 2 (some 3)) 1 3 (some 4)) 1 4 (some 5)) 1 5 (some 6)) 1 7 (some 7))
  refine aw_putRF hC dX11_init_12 aF_X11_10 rfl rfl rfl rfl rfl ?_
  refine aw_aload_n hC dX11_init_15 rfl ?_
  refine aw_new hC dX11_init_16 aK_X10 gW_X11_16 gB_X10 gN_X10 a_le a_le ?_
  rw [show (a_tags.take 8).length = 8 from rfl, show a_tags.take 8 ++ [.inr 10] = a_tags.take 9 from rfl]
  show AW X (((0 + 1) + 6) + 1) (((0 + a_nf 1) + 112) + a_nf 10) 19 [some (.ref 0)] [.ref 8, .ref 0] (a_tags.take 9) (a_fill I 4 10 (fun _ => (-1))) J (a_u (a_u (a_u (a_u (a_u (a_u (a_u R 1 0 (some 2)) 1 2 (some 3)) 1 3 (some 4)) 1 4 (some 5)) 1 5 (some 6)) 1 7 (some 7)) 0 0 (some 1))
  refine aw_dup hC dX11_init_19 rfl ?_
  refine aw_aload_n hC dX11_init_20 rfl ?_
  refine aw_getR hC dX11_init_21 aF_X11_10 rfl rfl rfl ?_
  refine kX11_18 hC rfl (i_X10_init_8 (I := a_fill I 4 10 (fun _ => (-1))) (J := J) (R := a_u (a_u (a_u (a_u (a_u (a_u (a_u R 1 0 (some 2)) 1 2 (some 3)) 1 3 (some 4)) 1 4 (some 5)) 1 5 (some 6)) 1 7 (some 7)) 0 0 (some 1))) dX11_init_24 rfl a_le a_le a_le a_le a_le rfl aPure_x (aPure_k ?_)
  show AW X ((((0 + 1) + 6) + 1) + 10) ((((0 + a_nf 1) + 112) + a_nf 10) + 133) 27 [some (.ref 0)] [.ref 8, .ref 0] (a_tags.take 19) (a_fill I 4 10 (fun _ => (-1))) J (a_u (a_u (a_u (a_u (a_u (a_u (a_u (a_u (a_u (a_u (a_u (a_u (a_u (a_u (a_u (a_u (a_u (a_u R 1 0 (some 2)) 1 2 (some 3)) 1 3 (some 4)) 1 4 (some 5)) 1 5 (some 6)) 1 7 (some 7)) 0 0 (some 1)) 9 0 (some 10)) 8 1 (some 9)) 8 4 (some 11)) 12 0 (some 13)) 8 5 (some 12)) 14 0 (some 15)) 8 6 (some 14)) 8 7 (some 16)) 8 8 (some 17)) 8 9 (some 18)) 8 0 (some 1))
  refine aw_putRF hC dX11_init_27 aF_X11_21 rfl rfl rfl rfl rfl ?_
  refine aw_aload_n hC dX11_init_30 rfl ?_
  refine aw_new hC dX11_init_31 aK_X4 gW_X11_25 gB_X4 gN_X4 a_le a_le ?_
  rw [show (a_tags.take 19).length = 19 from rfl, show a_tags.take 19 ++ [.inr 4] = a_tags.take 20 from rfl]
  show AW X (((((0 + 1) + 6) + 1) + 10) + 1) (((((0 + a_nf 1) + 112) + a_nf 10) + 133) + a_nf 4) 34 [some (.ref 0)] [.ref 19, .ref 0] (a_tags.take 20) (a_fill I 4 10 (fun _ => (-1))) J (a_u (a_u (a_u (a_u (a_u (a_u (a_u (a_u (a_u (a_u (a_u (a_u (a_u (a_u (a_u (a_u (a_u (a_u (a_u R 1 0 (some 2)) 1 2 (some 3)) 1 3 (some 4)) 1 4 (some 5)) 1 5 (some 6)) 1 7 (some 7)) 0 0 (some 1)) 9 0 (some 10)) 8 1 (some 9)) 8 4 (some 11)) 12 0 (some 13)) 8 5 (some 12)) 14 0 (some 15)) 8 6 (some 14)) 8 7 (some 16)) 8 8 (some 17)) 8 9 (some 18)) 8 0 (some 1)) 0 1 (some 8))
  refine aw_dup hC dX11_init_34 rfl ?_
  refine kX11_27 hC rfl (i_X4_init_19 (I := a_fill I 4 10 (fun _ => (-1))) (J := J) (R := a_u (a_u (a_u (a_u (a_u (a_u (a_u (a_u (a_u (a_u (a_u (a_u (a_u (a_u (a_u (a_u (a_u (a_u (a_u R 1 0 (some 2)) 1 2 (some 3)) 1 3 (some 4)) 1 4 (some 5)) 1 5 (some 6)) 1 7 (some 7)) 0 0 (some 1)) 9 0 (some 10)) 8 1 (some 9)) 8 4 (some 11)) 12 0 (some 13)) 8 5 (some 12)) 14 0 (some 15)) 8 6 (some 14)) 8 7 (some 16)) 8 8 (some 17)) 8 9 (some 18)) 8 0 (some 1)) 0 1 (some 8))) dX11_init_35 rfl a_le a_le a_le a_le a_le rfl aPure_x (aPure_k ?_)
  show AW X ((((((0 + 1) + 6) + 1) + 10) + 1) + 13) ((((((0 + a_nf 1) + 112) + a_nf 10) + 133) + a_nf 4) + 456) 38 [some (.ref 0)] [.ref 19, .ref 0] (a_tags.take 33) (a_fill I 4 10 (fun _ => (-1))) J (a_u (a_u (a_u (a_u (a_u (a_u (a_u (a_u (a_u (a_u (a_u (a_u (a_u (a_u (a_u (a_u (a_u (a_u (a_u (a_u (a_u (a_u (a_u (a_u (a_u (a_u (a_u (a_u (a_u (a_u (a_u (a_u R 1 0 (some 2)) 1 2 (some 3)) 1 3 (some 4)) 1 4 (some 5)) 1 5 (some 6)) 1 7 (some 7)) 0 0 (some 1)) 9 0 (some 10)) 8 1 (some 9)) 8 4 (some 11)) 12 0 (some 13)) 8 5 (some 12)) 14 0 (some 15)) 8 6 (some 14)) 8 7 (some 16)) 8 8 (some 17)) 8 9 (some 18)) 8 0 (some 1)) 0 1 (some 8)) 19 0 (some 20)) 19 1 (some 21)) 19 3 (some 22)) 19 4 (some 23)) 19 5 (some 24)) 19 7 (some 25)) 19 9 (some 26)) 27 0 (some 28)) 20 0 (some 27)) 29 0 (some 30)) 20 1 (some 29)) 31 0 (some 32)) 20 2 (some 31))
  refine aw_putRF hC dX11_init_38 aF_X11_28 rfl rfl rfl rfl rfl ?_
  refine aw_aload_n hC dX11_init_41 rfl ?_
  refine aw_new hC dX11_init_42 aK_X2 gW_X11_32 gB_X2 gN_X2 a_le a_le ?_
  rw [show (a_tags.take 33).length = 33 from rfl, show a_tags.take 33 ++ [.inr 2] = a_tags.take 34 from rfl]
  show AW X (((((((0 + 1) + 6) + 1) + 10) + 1) + 13) + 1) (((((((0 + a_nf 1) + 112) + a_nf 10) + 133) + a_nf 4) + 456) + a_nf 2) 45 [some (.ref 0)] [.ref 33, .ref 0] (a_tags.take 34) (a_fill I 4 10 (fun _ => (-1))) J (a_u (a_u (a_u (a_u (a_u (a_u (a_u (a_u (a_u (a_u (a_u (a_u (a_u (a_u (a_u (a_u (a_u (a_u (a_u (a_u (a_u (a_u (a_u (a_u (a_u (a_u (a_u (a_u (a_u (a_u (a_u (a_u (a_u R 1 0 (some 2)) 1 2 (some 3)) 1 3 (some 4)) 1 4 (some 5)) 1 5 (some 6)) 1 7 (some 7)) 0 0 (some 1)) 9 0 (some 10)) 8 1 (some 9)) 8 4 (some 11)) 12 0 (some 13)) 8 5 (some 12)) 14 0 (some 15)) 8 6 (some 14)) 8 7 (some 16)) 8 8 (some 17)) 8 9 (some 18)) 8 0 (some 1)) 0 1 (some 8)) 19 0 (some 20)) 19 1 (some 21)) 19 3 (some 22)) 19 4 (some 23)) 19 5 (some 24)) 19 7 (some 25)) 19 9 (some 26)) 27 0 (some 28)) 20 0 (some 27)) 29 0 (some 30)) 20 1 (some 29)) 31 0 (some 32)) 20 2 (some 31)) 0 2 (some 19))
  refine aw_dup hC dX11_init_45 rfl ?_
  refine aw_aload_n hC dX11_init_46 rfl ?_
  refine aw_getR hC dX11_init_47 aF_X11_21 rfl rfl rfl ?_
  refine aw_aload_n hC dX11_init_50 rfl ?_
  refine aw_getR hC dX11_init_51 aF_X11_28 rfl rfl rfl ?_
  refine kX11_34 hC rfl (i_X2_init_33 (I := a_fill I 4 10 (fun _ => (-1))) (J := J) (R := a_u (a_u (a_u (a_u (a_u (a_u (a_u (a_u (a_u (a_u (a_u (a_u (a_u (a_u (a_u (a_u (a_u (a_u (a_u (a_u (a_u (a_u (a_u (a_u (a_u (a_u (a_u (a_u (a_u (a_u (a_u (a_u (a_u R 1 0 (some 2)) 1 2 (some 3)) 1 3 (some 4)) 1 4 (some 5)) 1 5 (some 6)) 1 7 (some 7)) 0 0 (some 1)) 9 0 (some 10)) 8 1 (some 9)) 8 4 (some 11)) 12 0 (some 13)) 8 5 (some 12)) 14 0 (some 15)) 8 6 (some 14)) 8 7 (some 16)) 8 8 (some 17)) 8 9 (some 18)) 8 0 (some 1)) 0 1 (some 8)) 19 0 (some 20)) 19 1 (some 21)) 19 3 (some 22)) 19 4 (some 23)) 19 5 (some 24)) 19 7 (some 25)) 19 9 (some 26)) 27 0 (some 28)) 20 0 (some 27)) 29 0 (some 30)) 20 1 (some 29)) 31 0 (some 32)) 20 2 (some 31)) 0 2 (some 19))) dX11_init_54 rfl a_le a_le a_le a_le a_le rfl aPure_x (aPure_k ?_)
  show AW X ((((((((0 + 1) + 6) + 1) + 10) + 1) + 13) + 1) + 4) ((((((((0 + a_nf 1) + 112) + a_nf 10) + 133) + a_nf 4) + 456) + a_nf 2) + 576) 57 [some (.ref 0)] [.ref 33, .ref 0] (a_tags.take 38) (a_fill I 4 10 (fun _ => (-1))) J (a_u (a_u (a_u (a_u (a_u (a_u (a_u (a_u (a_u (a_u (a_u (a_u (a_u (a_u (a_u (a_u (a_u (a_u (a_u (a_u (a_u (a_u (a_u (a_u (a_u (a_u (a_u (a_u (a_u (a_u (a_u (a_u (a_u (a_u (a_u (a_u (a_u (a_u (a_u R 1 0 (some 2)) 1 2 (some 3)) 1 3 (some 4)) 1 4 (some 5)) 1 5 (some 6)) 1 7 (some 7)) 0 0 (some 1)) 9 0 (some 10)) 8 1 (some 9)) 8 4 (some 11)) 12 0 (some 13)) 8 5 (some 12)) 14 0 (some 15)) 8 6 (some 14)) 8 7 (some 16)) 8 8 (some 17)) 8 9 (some 18)) 8 0 (some 1)) 0 1 (some 8)) 19 0 (some 20)) 19 1 (some 21)) 19 3 (some 22)) 19 4 (some 23)) 19 5 (some 24)) 19 7 (some 25)) 19 9 (some 26)) 27 0 (some 28)) 20 0 (some 27)) 29 0 (some 30)) 20 1 (some 29)) 31 0 (some 32)) 20 2 (some 31)) 0 2 (some 19)) 33 0 (some 34)) 33 1 (some 35)) 33 4 (some 36)) 33 6 (some 37)) 33 2 (some 8)) 33 3 (some 19))
  refine aw_putRF hC dX11_init_57 aF_X11_37 rfl rfl rfl rfl rfl ?_
  refine aw_aload_n hC dX11_init_60 rfl ?_
  refine aw_new hC dX11_init_61 aK_X0 gW_X11_41 gB_X0 gN_X0 a_le a_le ?_
  rw [show (a_tags.take 38).length = 38 from rfl, show a_tags.take 38 ++ [.inr 0] = a_tags.take 39 from rfl]
  show AW X (((((((((0 + 1) + 6) + 1) + 10) + 1) + 13) + 1) + 4) + 1) (((((((((0 + a_nf 1) + 112) + a_nf 10) + 133) + a_nf 4) + 456) + a_nf 2) + 576) + a_nf 0) 64 [some (.ref 0)] [.ref 38, .ref 0] (a_tags.take 39) (a_fill I 4 10 (fun _ => (-1))) J (a_u (a_u (a_u (a_u (a_u (a_u (a_u (a_u (a_u (a_u (a_u (a_u (a_u (a_u (a_u (a_u (a_u (a_u (a_u (a_u (a_u (a_u (a_u (a_u (a_u (a_u (a_u (a_u (a_u (a_u (a_u (a_u (a_u (a_u (a_u (a_u (a_u (a_u (a_u (a_u R 1 0 (some 2)) 1 2 (some 3)) 1 3 (some 4)) 1 4 (some 5)) 1 5 (some 6)) 1 7 (some 7)) 0 0 (some 1)) 9 0 (some 10)) 8 1 (some 9)) 8 4 (some 11)) 12 0 (some 13)) 8 5 (some 12)) 14 0 (some 15)) 8 6 (some 14)) 8 7 (some 16)) 8 8 (some 17)) 8 9 (some 18)) 8 0 (some 1)) 0 1 (some 8)) 19 0 (some 20)) 19 1 (some 21)) 19 3 (some 22)) 19 4 (some 23)) 19 5 (some 24)) 19 7 (some 25)) 19 9 (some 26)) 27 0 (some 28)) 20 0 (some 27)) 29 0 (some 30)) 20 1 (some 29)) 31 0 (some 32)) 20 2 (some 31)) 0 2 (some 19)) 33 0 (some 34)) 33 1 (some 35)) 33 4 (some 36)) 33 6 (some 37)) 33 2 (some 8)) 33 3 (some 19)) 0 3 (some 33))
  refine aw_dup hC dX11_init_64 rfl ?_
  refine aw_aload_n hC dX11_init_65 rfl ?_
  refine aw_getR hC dX11_init_66 aF_X11_28 rfl rfl rfl ?_
  refine aw_aload_n hC dX11_init_69 rfl ?_
  refine aw_getR hC dX11_init_70 aF_X11_37 rfl rfl rfl ?_
  refine kX11_43 hC rfl (i_X0_init_38 (I := a_fill I 4 10 (fun _ => (-1))) (J := J) (R := a_u (a_u (a_u (a_u (a_u (a_u (a_u (a_u (a_u (a_u (a_u (a_u (a_u (a_u (a_u (a_u (a_u (a_u (a_u (a_u (a_u (a_u (a_u (a_u (a_u (a_u (a_u (a_u (a_u (a_u (a_u (a_u (a_u (a_u (a_u (a_u (a_u (a_u (a_u (a_u R 1 0 (some 2)) 1 2 (some 3)) 1 3 (some 4)) 1 4 (some 5)) 1 5 (some 6)) 1 7 (some 7)) 0 0 (some 1)) 9 0 (some 10)) 8 1 (some 9)) 8 4 (some 11)) 12 0 (some 13)) 8 5 (some 12)) 14 0 (some 15)) 8 6 (some 14)) 8 7 (some 16)) 8 8 (some 17)) 8 9 (some 18)) 8 0 (some 1)) 0 1 (some 8)) 19 0 (some 20)) 19 1 (some 21)) 19 3 (some 22)) 19 4 (some 23)) 19 5 (some 24)) 19 7 (some 25)) 19 9 (some 26)) 27 0 (some 28)) 20 0 (some 27)) 29 0 (some 30)) 20 1 (some 29)) 31 0 (some 32)) 20 2 (some 31)) 0 2 (some 19)) 33 0 (some 34)) 33 1 (some 35)) 33 4 (some 36)) 33 6 (some 37)) 33 2 (some 8)) 33 3 (some 19)) 0 3 (some 33))) dX11_init_73 rfl a_le a_le a_le a_le a_le rfl aPure_x (aPure_k ?_)
  show AW X ((((((((((0 + 1) + 6) + 1) + 10) + 1) + 13) + 1) + 4) + 1) + 2) ((((((((((0 + a_nf 1) + 112) + a_nf 10) + 133) + a_nf 4) + 456) + a_nf 2) + 576) + a_nf 0) + 128) 76 [some (.ref 0)] [.ref 38, .ref 0] (a_tags.take 41) (a_fill I 4 10 (fun _ => (-1))) J (a_u (a_u (a_u (a_u (a_u (a_u (a_u (a_u (a_u (a_u (a_u (a_u (a_u (a_u (a_u (a_u (a_u (a_u (a_u (a_u (a_u (a_u (a_u (a_u (a_u (a_u (a_u (a_u (a_u (a_u (a_u (a_u (a_u (a_u (a_u (a_u (a_u (a_u (a_u (a_u (a_u (a_u (a_u (a_u R 1 0 (some 2)) 1 2 (some 3)) 1 3 (some 4)) 1 4 (some 5)) 1 5 (some 6)) 1 7 (some 7)) 0 0 (some 1)) 9 0 (some 10)) 8 1 (some 9)) 8 4 (some 11)) 12 0 (some 13)) 8 5 (some 12)) 14 0 (some 15)) 8 6 (some 14)) 8 7 (some 16)) 8 8 (some 17)) 8 9 (some 18)) 8 0 (some 1)) 0 1 (some 8)) 19 0 (some 20)) 19 1 (some 21)) 19 3 (some 22)) 19 4 (some 23)) 19 5 (some 24)) 19 7 (some 25)) 19 9 (some 26)) 27 0 (some 28)) 20 0 (some 27)) 29 0 (some 30)) 20 1 (some 29)) 31 0 (some 32)) 20 2 (some 31)) 0 2 (some 19)) 33 0 (some 34)) 33 1 (some 35)) 33 4 (some 36)) 33 6 (some 37)) 33 2 (some 8)) 33 3 (some 19)) 0 3 (some 33)) 38 6 (some 39)) 38 7 (some 40)) 38 1 (some 19)) 38 2 (some 33))
  refine aw_putRF hC dX11_init_76 aF_X11_46 rfl rfl rfl rfl rfl ?_
  refine aw_aload_n hC dX11_init_79 rfl ?_
  refine aw_bipush (v := 8) hC dX11_init_80 (by decide) ?_
  refine aw_newarrayI (N := 8) hC dX11_init_82 gA_int rfl (by decide) a_le a_le ?_
  rw [show (a_tags.take 41).length = 41 from rfl, show a_tags.take 41 ++ [.inl (.int, 8)] = a_tags.take 42 from rfl]
  show AW X (((((((((((0 + 1) + 6) + 1) + 10) + 1) + 13) + 1) + 4) + 1) + 2) + 1) (((((((((((0 + a_nf 1) + 112) + a_nf 10) + 133) + a_nf 4) + 456) + a_nf 2) + 576) + a_nf 0) + 128) + 8) 84 [some (.ref 0)] [.ref 41, .ref 0] (a_tags.take 42) (a_fill I 4 10 (fun _ => (-1))) J (a_u (a_u (a_u (a_u (a_u (a_u (a_u (a_u (a_u (a_u (a_u (a_u (a_u (a_u (a_u (a_u (a_u (a_u (a_u (a_u (a_u (a_u (a_u (a_u (a_u (a_u (a_u (a_u (a_u (a_u (a_u (a_u (a_u (a_u (a_u (a_u (a_u (a_u (a_u (a_u (a_u (a_u (a_u (a_u (a_u R 1 0 (some 2)) 1 2 (some 3)) 1 3 (some 4)) 1 4 (some 5)) 1 5 (some 6)) 1 7 (some 7)) 0 0 (some 1)) 9 0 (some 10)) 8 1 (some 9)) 8 4 (some 11)) 12 0 (some 13)) 8 5 (some 12)) 14 0 (some 15)) 8 6 (some 14)) 8 7 (some 16)) 8 8 (some 17)) 8 9 (some 18)) 8 0 (some 1)) 0 1 (some 8)) 19 0 (some 20)) 19 1 (some 21)) 19 3 (some 22)) 19 4 (some 23)) 19 5 (some 24)) 19 7 (some 25)) 19 9 (some 26)) 27 0 (some 28)) 20 0 (some 27)) 29 0 (some 30)) 20 1 (some 29)) 31 0 (some 32)) 20 2 (some 31)) 0 2 (some 19)) 33 0 (some 34)) 33 1 (some 35)) 33 4 (some 36)) 33 6 (some 37)) 33 2 (some 8)) 33 3 (some 19)) 0 3 (some 33)) 38 6 (some 39)) 38 7 (some 40)) 38 1 (some 19)) 38 2 (some 33)) 0 4 (some 38))
  refine aw_putRF hC dX11_init_84 aF_X11_50 rfl rfl rfl rfl rfl ?_
  refine aw_aload_n hC dX11_init_87 rfl ?_
  refine aw_bipush (v := 8) hC dX11_init_88 (by decide) ?_
  refine aw_newarrayJ (N := 8) hC dX11_init_90 gA_long rfl (by decide) a_le a_le ?_
  rw [show (a_tags.take 42).length = 42 from rfl, show a_tags.take 42 ++ [.inl (.long, 8)] = a_tags.take 43 from rfl]
  show AW X ((((((((((((0 + 1) + 6) + 1) + 10) + 1) + 13) + 1) + 4) + 1) + 2) + 1) + 1) ((((((((((((0 + a_nf 1) + 112) + a_nf 10) + 133) + a_nf 4) + 456) + a_nf 2) + 576) + a_nf 0) + 128) + 8) + 8) 92 [some (.ref 0)] [.ref 42, .ref 0] (a_tags.take 43) (a_fill I 4 10 (fun _ => (-1))) J (a_u (a_u (a_u (a_u (a_u (a_u (a_u (a_u (a_u (a_u (a_u (a_u (a_u (a_u (a_u (a_u (a_u (a_u (a_u (a_u (a_u (a_u (a_u (a_u (a_u (a_u (a_u (a_u (a_u (a_u (a_u (a_u (a_u (a_u (a_u (a_u (a_u (a_u (a_u (a_u (a_u (a_u (a_u (a_u (a_u (a_u R 1 0 (some 2)) 1 2 (some 3)) 1 3 (some 4)) 1 4 (some 5)) 1 5 (some 6)) 1 7 (some 7)) 0 0 (some 1)) 9 0 (some 10)) 8 1 (some 9)) 8 4 (some 11)) 12 0 (some 13)) 8 5 (some 12)) 14 0 (some 15)) 8 6 (some 14)) 8 7 (some 16)) 8 8 (some 17)) 8 9 (some 18)) 8 0 (some 1)) 0 1 (some 8)) 19 0 (some 20)) 19 1 (some 21)) 19 3 (some 22)) 19 4 (some 23)) 19 5 (some 24)) 19 7 (some 25)) 19 9 (some 26)) 27 0 (some 28)) 20 0 (some 27)) 29 0 (some 30)) 20 1 (some 29)) 31 0 (some 32)) 20 2 (some 31)) 0 2 (some 19)) 33 0 (some 34)) 33 1 (some 35)) 33 4 (some 36)) 33 6 (some 37)) 33 2 (some 8)) 33 3 (some 19)) 0 3 (some 33)) 38 6 (some 39)) 38 7 (some 40)) 38 1 (some 19)) 38 2 (some 33)) 0 4 (some 38)) 0 5 (some 41))
  refine aw_putRF hC dX11_init_92 aF_X11_54 rfl rfl rfl rfl rfl ?_
  refine aw_aload_n hC dX11_init_95 rfl ?_
  refine aw_bipush (v := 40) hC dX11_init_96 (by decide) ?_
  refine aw_anewarray (N := 40) (C := "Layerwright$Plan") hC dX11_init_98 gW_X11_58 (by decide) rfl (by decide) a_le a_le ?_
  rw [show (a_tags.take 43).length = 43 from rfl, show a_tags.take 43 ++ [.inl (.object "Layerwright$Plan", 40)] = a_tags.take 44 from rfl]
  show AW X (((((((((((((0 + 1) + 6) + 1) + 10) + 1) + 13) + 1) + 4) + 1) + 2) + 1) + 1) + 1) (((((((((((((0 + a_nf 1) + 112) + a_nf 10) + 133) + a_nf 4) + 456) + a_nf 2) + 576) + a_nf 0) + 128) + 8) + 8) + 40) 101 [some (.ref 0)] [.ref 43, .ref 0] (a_tags.take 44) (a_fill I 4 10 (fun _ => (-1))) J (a_u (a_u (a_u (a_u (a_u (a_u (a_u (a_u (a_u (a_u (a_u (a_u (a_u (a_u (a_u (a_u (a_u (a_u (a_u (a_u (a_u (a_u (a_u (a_u (a_u (a_u (a_u (a_u (a_u (a_u (a_u (a_u (a_u (a_u (a_u (a_u (a_u (a_u (a_u (a_u (a_u (a_u (a_u (a_u (a_u (a_u (a_u R 1 0 (some 2)) 1 2 (some 3)) 1 3 (some 4)) 1 4 (some 5)) 1 5 (some 6)) 1 7 (some 7)) 0 0 (some 1)) 9 0 (some 10)) 8 1 (some 9)) 8 4 (some 11)) 12 0 (some 13)) 8 5 (some 12)) 14 0 (some 15)) 8 6 (some 14)) 8 7 (some 16)) 8 8 (some 17)) 8 9 (some 18)) 8 0 (some 1)) 0 1 (some 8)) 19 0 (some 20)) 19 1 (some 21)) 19 3 (some 22)) 19 4 (some 23)) 19 5 (some 24)) 19 7 (some 25)) 19 9 (some 26)) 27 0 (some 28)) 20 0 (some 27)) 29 0 (some 30)) 20 1 (some 29)) 31 0 (some 32)) 20 2 (some 31)) 0 2 (some 19)) 33 0 (some 34)) 33 1 (some 35)) 33 4 (some 36)) 33 6 (some 37)) 33 2 (some 8)) 33 3 (some 19)) 0 3 (some 33)) 38 6 (some 39)) 38 7 (some 40)) 38 1 (some 19)) 38 2 (some 33)) 0 4 (some 38)) 0 5 (some 41)) 0 6 (some 42))
  refine aw_putRF hC dX11_init_101 aF_X11_60 rfl rfl rfl rfl rfl ?_
  exact aw_return hC hq rfl dX11_init_104 a_le a_le aPure_v
set_option maxRecDepth 100000 in
theorem i_X12_init_44 {I : aI} {J : aJ} {R : aR} : MX12_init 49 7182 [.ref 44] (a_tags.take 45) I J R (aPure none (a_tags.take 94) (a_u (a_u (a_u (a_u (a_u (a_u (a_u (a_u (a_u (a_u (a_u (a_u (a_u (a_u I 44 43 (-1)) 44 45 (-1)) 65 0 (-1)) 65 1 (-1)) 65 2 (-1)) 65 3 (-1)) 65 4 (-1)) 65 5 (-1)) 65 6 (-1)) 65 7 (-1)) 65 8 (-1)) 65 9 (-1)) 65 10 (-1)) 65 11 (-1)) J (a_u (a_u (a_u (a_u (a_u (a_u (a_u (a_u (a_u (a_u (a_u (a_u (a_u (a_u (a_u (a_u (a_u (a_u (a_u (a_u (a_u (a_u (a_u (a_u (a_u (a_u (a_u (a_u (a_u (a_u (a_u (a_u (a_u (a_u (a_u (a_u (a_u (a_u (a_u (a_u (a_u (a_u (a_u (a_u (a_u (a_u (a_u (a_u (a_u R 44 1 (some 45)) 44 2 (some 46)) 44 3 (some 47)) 44 4 (some 48)) 44 5 (some 49)) 44 6 (some 50)) 44 7 (some 51)) 44 8 (some 52)) 44 9 (some 53)) 44 10 (some 54)) 44 11 (some 55)) 44 12 (some 56)) 44 15 (some 57)) 44 16 (some 58)) 44 17 (some 59)) 44 18 (some 60)) 44 19 (some 61)) 44 21 (some 62)) 44 22 (some 63)) 44 23 (some 64)) 44 24 (some 65)) 44 26 (some 66)) 44 27 (some 67)) 44 28 (some 68)) 44 29 (some 69)) 44 30 (some 70)) 44 31 (some 71)) 44 32 (some 72)) 44 33 (some 73)) 44 34 (some 74)) 44 37 (some 75)) 44 38 (some 76)) 44 39 (some 77)) 44 40 (some 78)) 44 41 (some 79)) 44 42 (some 80)) 44 46 (some 81)) 44 47 (some 82)) 44 48 (some 83)) 44 49 (some 84)) 44 50 (some 85)) 44 51 (some 86)) 44 52 (some 87)) 44 54 (some 88)) 44 55 (some 89)) 44 56 (some 90)) 44 58 (some 91)) 44 60 (some 92)) 44 62 (some 93))) := by
  refine a_met (by decide +kernel) a_le (fun X hC hq => ?_)
  show AW X 0 0 0 [some (.ref 44), none] [] (a_tags.take 45) I J R
  refine aw_aload_n hC dX12_init_0 rfl ?_
  refine aw_objInit hC dX12_init_1 gL_X12_1 gOI_i gOI_c (by decide) (by decide) ?_
  refine aw_aload_n hC dX12_init_4 rfl ?_
  refine aw_bipush (v := 30) hC dX12_init_5 (by decide) ?_
  refine aw_newarrayI (N := 30) hC dX12_init_7 gA_int rfl (by decide) a_le a_le ?_
  rw [show (a_tags.take 45).length = 45 from rfl, show a_tags.take 45 ++ [.inl (.int, 30)] = a_tags.take 46 from rfl]
  show AW X (0 + 1) (0 + 30) 9 [some (.ref 44), none] [.ref 45, .ref 44] (a_tags.take 46) I J R
  refine aw_putRF hC dX12_init_9 aF_X12_7 rfl rfl rfl rfl rfl ?_
  refine aw_aload_n hC dX12_init_12 rfl ?_
  refine aw_bipush (v := 30) hC dX12_init_13 (by decide) ?_
  refine aw_newarrayI (N := 30) hC dX12_init_15 gA_int rfl (by decide) a_le a_le ?_
  rw [show (a_tags.take 46).length = 46 from rfl, show a_tags.take 46 ++ [.inl (.int, 30)] = a_tags.take 47 from rfl]
  show AW X ((0 + 1) + 1) ((0 + 30) + 30) 17 [some (.ref 44), none] [.ref 46, .ref 44] (a_tags.take 47) I J (a_u R 44 1 (some 45))
  refine aw_putRF hC dX12_init_17 aF_X12_13 rfl rfl rfl rfl rfl ?_
  refine aw_aload_n hC dX12_init_20 rfl ?_
  refine aw_bipush (v := 30) hC dX12_init_21 (by decide) ?_
  refine aw_newarrayI (N := 30) hC dX12_init_23 gA_int rfl (by decide) a_le a_le ?_
  rw [show (a_tags.take 47).length = 47 from rfl, show a_tags.take 47 ++ [.inl (.int, 30)] = a_tags.take 48 from rfl]
  show AW X (((0 + 1) + 1) + 1) (((0 + 30) + 30) + 30) 25 [some (.ref 44), none] [.ref 47, .ref 44] (a_tags.take 48) I J (a_u (a_u R 44 1 (some 45)) 44 2 (some 46))
  refine aw_putRF hC dX12_init_25 aF_X12_16 rfl rfl rfl rfl rfl ?_
  refine aw_aload_n hC dX12_init_28 rfl ?_
  refine aw_bipush (v := 30) hC dX12_init_29 (by decide) ?_
  refine aw_newarrayI (N := 30) hC dX12_init_31 gA_int rfl (by decide) a_le a_le ?_
  rw [show (a_tags.take 48).length = 48 from rfl, show a_tags.take 48 ++ [.inl (.int, 30)] = a_tags.take 49 from rfl]
  show AW X ((((0 + 1) + 1) + 1) + 1) ((((0 + 30) + 30) + 30) + 30) 33 [some (.ref 44), none] [.ref 48, .ref 44] (a_tags.take 49) I J (a_u (a_u (a_u R 44 1 (some 45)) 44 2 (some 46)) 44 3 (some 47))
  refine aw_putRF hC dX12_init_33 aF_X12_19 rfl rfl rfl rfl rfl ?_
  refine aw_aload_n hC dX12_init_36 rfl ?_
  refine aw_bipush (v := 30) hC dX12_init_37 (by decide) ?_
  refine aw_newarrayI (N := 30) hC dX12_init_39 gA_int rfl (by decide) a_le a_le ?_
  rw [show (a_tags.take 49).length = 49 from rfl, show a_tags.take 49 ++ [.inl (.int, 30)] = a_tags.take 50 from rfl]
  show AW X (((((0 + 1) + 1) + 1) + 1) + 1) (((((0 + 30) + 30) + 30) + 30) + 30) 41 [some (.ref 44), none] [.ref 49, .ref 44] (a_tags.take 50) I J (a_u (a_u (a_u (a_u R 44 1 (some 45)) 44 2 (some 46)) 44 3 (some 47)) 44 4 (some 48))
  refine aw_putRF hC dX12_init_41 aF_X12_22 rfl rfl rfl rfl rfl ?_
  refine aw_aload_n hC dX12_init_44 rfl ?_
  refine aw_bipush (v := 30) hC dX12_init_45 (by decide) ?_
  refine aw_newarrayI (N := 30) hC dX12_init_47 gA_int rfl (by decide) a_le a_le ?_
  rw [show (a_tags.take 50).length = 50 from rfl, show a_tags.take 50 ++ [.inl (.int, 30)] = a_tags.take 51 from rfl]
  show AW X ((((((0 + 1) + 1) + 1) + 1) + 1) + 1) ((((((0 + 30) + 30) + 30) + 30) + 30) + 30) 49 [some (.ref 44), none] [.ref 50, .ref 44] (a_tags.take 51) I J (a_u (a_u (a_u (a_u (a_u R 44 1 (some 45)) 44 2 (some 46)) 44 3 (some 47)) 44 4 (some 48)) 44 5 (some 49))
  refine aw_putRF hC dX12_init_49 aF_X12_25 rfl rfl rfl rfl rfl ?_
  refine aw_aload_n hC dX12_init_52 rfl ?_
  refine aw_bipush (v := 30) hC dX12_init_53 (by decide) ?_
  refine aw_newarrayI (N := 30) hC dX12_init_55 gA_int rfl (by decide) a_le a_le ?_
  rw [show (a_tags.take 51).length = 51 from rfl, show a_tags.take 51 ++ [.inl (.int, 30)] = a_tags.take 52 from rfl]
  show AW X (((((((0 + 1) + 1) + 1) + 1) + 1) + 1) + 1) (((((((0 + 30) + 30) + 30) + 30) + 30) + 30) + 30) 57 [some (.ref 44), none] [.ref 51, .ref 44] (a_tags.take 52) I J (a_u (a_u (a_u (a_u (a_u (a_u R 44 1 (some 45)) 44 2 (some 46)) 44 3 (some 47)) 44 4 (some 48)) 44 5 (some 49)) 44 6 (some 50))
  refine aw_putRF hC dX12_init_57 aF_X12_28 rfl rfl rfl rfl rfl ?_
  refine aw_aload_n hC dX12_init_60 rfl ?_
  refine aw_bipush (v := 30) hC dX12_init_61 (by decide) ?_
  refine aw_newarrayZ (N := 30) hC dX12_init_63 gA_boolean rfl (by decide) a_le a_le ?_
  rw [show (a_tags.take 52).length = 52 from rfl, show a_tags.take 52 ++ [.inl (.boolean, 30)] = a_tags.take 53 from rfl]
  show AW X ((((((((0 + 1) + 1) + 1) + 1) + 1) + 1) + 1) + 1) ((((((((0 + 30) + 30) + 30) + 30) + 30) + 30) + 30) + 30) 65 [some (.ref 44), none] [.ref 52, .ref 44] (a_tags.take 53) I J (a_u (a_u (a_u (a_u (a_u (a_u (a_u R 44 1 (some 45)) 44 2 (some 46)) 44 3 (some 47)) 44 4 (some 48)) 44 5 (some 49)) 44 6 (some 50)) 44 7 (some 51))
  refine aw_putRF hC dX12_init_65 aF_X12_31 rfl rfl rfl rfl rfl ?_
  refine aw_aload_n hC dX12_init_68 rfl ?_
  refine aw_iconst (v := 3) hC dX12_init_69 (by decide) ?_
  refine aw_newarrayI (N := 3) hC dX12_init_70 gA_int rfl (by decide) a_le a_le ?_
  rw [show (a_tags.take 53).length = 53 from rfl, show a_tags.take 53 ++ [.inl (.int, 3)] = a_tags.take 54 from rfl]
  show AW X (((((((((0 + 1) + 1) + 1) + 1) + 1) + 1) + 1) + 1) + 1) (((((((((0 + 30) + 30) + 30) + 30) + 30) + 30) + 30) + 30) + 3) 72 [some (.ref 44), none] [.ref 53, .ref 44] (a_tags.take 54) I J (a_u (a_u (a_u (a_u (a_u (a_u (a_u (a_u R 44 1 (some 45)) 44 2 (some 46)) 44 3 (some 47)) 44 4 (some 48)) 44 5 (some 49)) 44 6 (some 50)) 44 7 (some 51)) 44 8 (some 52))
  refine aw_putRF hC dX12_init_72 aF_X12_35 rfl rfl rfl rfl rfl ?_
  refine aw_aload_n hC dX12_init_75 rfl ?_
  refine aw_bipush (v := 6) hC dX12_init_76 (by decide) ?_
  refine aw_newarrayI (N := 6) hC dX12_init_78 gA_int rfl (by decide) a_le a_le ?_
  rw [show (a_tags.take 54).length = 54 from rfl, show a_tags.take 54 ++ [.inl (.int, 6)] = a_tags.take 55 from rfl]
  show AW X ((((((((((0 + 1) + 1) + 1) + 1) + 1) + 1) + 1) + 1) + 1) + 1) ((((((((((0 + 30) + 30) + 30) + 30) + 30) + 30) + 30) + 30) + 3) + 6) 80 [some (.ref 44), none] [.ref 54, .ref 44] (a_tags.take 55) I J (a_u (a_u (a_u (a_u (a_u (a_u (a_u (a_u (a_u R 44 1 (some 45)) 44 2 (some 46)) 44 3 (some 47)) 44 4 (some 48)) 44 5 (some 49)) 44 6 (some 50)) 44 7 (some 51)) 44 8 (some 52)) 44 9 (some 53))
  refine aw_putRF hC dX12_init_80 aF_X12_38 rfl rfl rfl rfl rfl ?_
  refine aw_aload_n hC dX12_init_83 rfl ?_
  refine aw_bipush (v := 10) hC dX12_init_84 (by decide) ?_
  refine aw_newarrayI (N := 10) hC dX12_init_86 gA_int rfl (by decide) a_le a_le ?_
  rw [show (a_tags.take 55).length = 55 from rfl, show a_tags.take 55 ++ [.inl (.int, 10)] = a_tags.take 56 from rfl]
  show AW X (((((((((((0 + 1) + 1) + 1) + 1) + 1) + 1) + 1) + 1) + 1) + 1) + 1) (((((((((((0 + 30) + 30) + 30) + 30) + 30) + 30) + 30) + 30) + 3) + 6) + 10) 88 [some (.ref 44), none] [.ref 55, .ref 44] (a_tags.take 56) I J (a_u (a_u (a_u (a_u (a_u (a_u (a_u (a_u (a_u (a_u R 44 1 (some 45)) 44 2 (some 46)) 44 3 (some 47)) 44 4 (some 48)) 44 5 (some 49)) 44 6 (some 50)) 44 7 (some 51)) 44 8 (some 52)) 44 9 (some 53)) 44 10 (some 54))
  refine aw_putRF hC dX12_init_88 aF_X12_41 rfl rfl rfl rfl rfl ?_
  refine aw_aload_n hC dX12_init_91 rfl ?_
  refine aw_bipush (v := 60) hC dX12_init_92 (by decide) ?_
  refine aw_newarrayI (N := 60) hC dX12_init_94 gA_int rfl (by decide) a_le a_le ?_
  rw [show (a_tags.take 56).length = 56 from rfl, show a_tags.take 56 ++ [.inl (.int, 60)] = a_tags.take 57 from rfl]
  show AW X ((((((((((((0 + 1) + 1) + 1) + 1) + 1) + 1) + 1) + 1) + 1) + 1) + 1) + 1) ((((((((((((0 + 30) + 30) + 30) + 30) + 30) + 30) + 30) + 30) + 3) + 6) + 10) + 60) 96 [some (.ref 44), none] [.ref 56, .ref 44] (a_tags.take 57) I J (a_u (a_u (a_u (a_u (a_u (a_u (a_u (a_u (a_u (a_u (a_u R 44 1 (some 45)) 44 2 (some 46)) 44 3 (some 47)) 44 4 (some 48)) 44 5 (some 49)) 44 6 (some 50)) 44 7 (some 51)) 44 8 (some 52)) 44 9 (some 53)) 44 10 (some 54)) 44 11 (some 55))
  refine aw_putRF hC dX12_init_96 aF_X12_44 rfl rfl rfl rfl rfl ?_
  refine aw_aload_n hC dX12_init_99 rfl ?_
  refine aw_bipush (v := 24) hC dX12_init_100 (by decide) ?_
  refine aw_newarrayI (N := 24) hC dX12_init_102 gA_int rfl (by decide) a_le a_le ?_
  rw [show (a_tags.take 57).length = 57 from rfl, show a_tags.take 57 ++ [.inl (.int, 24)] = a_tags.take 58 from rfl]
  show AW X (((((((((((((0 + 1) + 1) + 1) + 1) + 1) + 1) + 1) + 1) + 1) + 1) + 1) + 1) + 1) (((((((((((((0 + 30) + 30) + 30) + 30) + 30) + 30) + 30) + 30) + 3) + 6) + 10) + 60) + 24) 104 [some (.ref 44), none] [.ref 57, .ref 44] (a_tags.take 58) I J (a_u (a_u (a_u (a_u (a_u (a_u (a_u (a_u (a_u (a_u (a_u (a_u R 44 1 (some 45)) 44 2 (some 46)) 44 3 (some 47)) 44 4 (some 48)) 44 5 (some 49)) 44 6 (some 50)) 44 7 (some 51)) 44 8 (some 52)) 44 9 (some 53)) 44 10 (some 54)) 44 11 (some 55)) 44 12 (some 56))
  refine aw_putRF hC dX12_init_104 aF_X12_47 rfl rfl rfl rfl rfl ?_
  refine aw_aload_n hC dX12_init_107 rfl ?_
  refine aw_bipush (v := 9) hC dX12_init_108 (by decide) ?_
  refine aw_newarrayI (N := 9) hC dX12_init_110 gA_int rfl (by decide) a_le a_le ?_
  rw [show (a_tags.take 58).length = 58 from rfl, show a_tags.take 58 ++ [.inl (.int, 9)] = a_tags.take 59 from rfl]
  show AW X ((((((((((((((0 + 1) + 1) + 1) + 1) + 1) + 1) + 1) + 1) + 1) + 1) + 1) + 1) + 1) + 1) ((((((((((((((0 + 30) + 30) + 30) + 30) + 30) + 30) + 30) + 30) + 3) + 6) + 10) + 60) + 24) + 9) 112 [some (.ref 44), none] [.ref 58, .ref 44] (a_tags.take 59) I J (a_u (a_u (a_u (a_u (a_u (a_u (a_u (a_u (a_u (a_u (a_u (a_u (a_u R 44 1 (some 45)) 44 2 (some 46)) 44 3 (some 47)) 44 4 (some 48)) 44 5 (some 49)) 44 6 (some 50)) 44 7 (some 51)) 44 8 (some 52)) 44 9 (some 53)) 44 10 (some 54)) 44 11 (some 55)) 44 12 (some 56)) 44 15 (some 57))
  refine aw_putRF hC dX12_init_112 aF_X12_50 rfl rfl rfl rfl rfl ?_
  refine aw_aload_n hC dX12_init_115 rfl ?_
  refine aw_iconst (v := 3) hC dX12_init_116 (by decide) ?_
  refine aw_newarrayZ (N := 3) hC dX12_init_117 gA_boolean rfl (by decide) a_le a_le ?_
  rw [show (a_tags.take 59).length = 59 from rfl, show a_tags.take 59 ++ [.inl (.boolean, 3)] = a_tags.take 60 from rfl]
  show AW X (((((((((((((((0 + 1) + 1) + 1) + 1) + 1) + 1) + 1) + 1) + 1) + 1) + 1) + 1) + 1) + 1) + 1) (((((((((((((((0 + 30) + 30) + 30) + 30) + 30) + 30) + 30) + 30) + 3) + 6) + 10) + 60) + 24) + 9) + 3) 119 [some (.ref 44), none] [.ref 59, .ref 44] (a_tags.take 60) I J (a_u (a_u (a_u (a_u (a_u (a_u (a_u (a_u (a_u (a_u (a_u (a_u (a_u (a_u R 44 1 (some 45)) 44 2 (some 46)) 44 3 (some 47)) 44 4 (some 48)) 44 5 (some 49)) 44 6 (some 50)) 44 7 (some 51)) 44 8 (some 52)) 44 9 (some 53)) 44 10 (some 54)) 44 11 (some 55)) 44 12 (some 56)) 44 15 (some 57)) 44 16 (some 58))
  refine aw_putRF hC dX12_init_119 aF_X12_53 rfl rfl rfl rfl rfl ?_
  refine aw_aload_n hC dX12_init_122 rfl ?_
  refine aw_iconst (v := 3) hC dX12_init_123 (by decide) ?_
  refine aw_newarrayZ (N := 3) hC dX12_init_124 gA_boolean rfl (by decide) a_le a_le ?_
  rw [show (a_tags.take 60).length = 60 from rfl, show a_tags.take 60 ++ [.inl (.boolean, 3)] = a_tags.take 61 from rfl]
  show AW X ((((((((((((((((0 + 1) + 1) + 1) + 1) + 1) + 1) + 1) + 1) + 1) + 1) + 1) + 1) + 1) + 1) + 1) + 1) ((((((((((((((((0 + 30) + 30) + 30) + 30) + 30) + 30) + 30) + 30) + 3) + 6) + 10) + 60) + 24) + 9) + 3) + 3) 126 [some (.ref 44), none] [.ref 60, .ref 44] (a_tags.take 61) I J (a_u (a_u (a_u (a_u (a_u (a_u (a_u (a_u (a_u (a_u (a_u (a_u (a_u (a_u (a_u R 44 1 (some 45)) 44 2 (some 46)) 44 3 (some 47)) 44 4 (some 48)) 44 5 (some 49)) 44 6 (some 50)) 44 7 (some 51)) 44 8 (some 52)) 44 9 (some 53)) 44 10 (some 54)) 44 11 (some 55)) 44 12 (some 56)) 44 15 (some 57)) 44 16 (some 58)) 44 17 (some 59))
  refine aw_putRF hC dX12_init_126 aF_X12_56 rfl rfl rfl rfl rfl ?_
  refine aw_aload_n hC dX12_init_129 rfl ?_
  refine aw_iconst (v := 3) hC dX12_init_130 (by decide) ?_
  refine aw_newarrayI (N := 3) hC dX12_init_131 gA_int rfl (by decide) a_le a_le ?_
  rw [show (a_tags.take 61).length = 61 from rfl, show a_tags.take 61 ++ [.inl (.int, 3)] = a_tags.take 62 from rfl]
  show AW X (((((((((((((((((0 + 1) + 1) + 1) + 1) + 1) + 1) + 1) + 1) + 1) + 1) + 1) + 1) + 1) + 1) + 1) + 1) + 1) (((((((((((((((((0 + 30) + 30) + 30) + 30) + 30) + 30) + 30) + 30) + 3) + 6) + 10) + 60) + 24) + 9) + 3) + 3) + 3) 133 [some (.ref 44), none] [.ref 61, .ref 44] (a_tags.take 62) I J (a_u (a_u (a_u (a_u (a_u (a_u (a_u (a_u (a_u (a_u (a_u (a_u (a_u (a_u (a_u (a_u R 44 1 (some 45)) 44 2 (some 46)) 44 3 (some 47)) 44 4 (some 48)) 44 5 (some 49)) 44 6 (some 50)) 44 7 (some 51)) 44 8 (some 52)) 44 9 (some 53)) 44 10 (some 54)) 44 11 (some 55)) 44 12 (some 56)) 44 15 (some 57)) 44 16 (some 58)) 44 17 (some 59)) 44 18 (some 60))
  refine aw_putRF hC dX12_init_133 aF_X12_59 rfl rfl rfl rfl rfl ?_
  refine aw_aload_n hC dX12_init_136 rfl ?_
  refine aw_iconst (v := 4) hC dX12_init_137 (by decide) ?_
  refine aw_newarrayI (N := 4) hC dX12_init_138 gA_int rfl (by decide) a_le a_le ?_
  rw [show (a_tags.take 62).length = 62 from rfl, show a_tags.take 62 ++ [.inl (.int, 4)] = a_tags.take 63 from rfl]
  show AW X ((((((((((((((((((0 + 1) + 1) + 1) + 1) + 1) + 1) + 1) + 1) + 1) + 1) + 1) + 1) + 1) + 1) + 1) + 1) + 1) + 1) ((((((((((((((((((0 + 30) + 30) + 30) + 30) + 30) + 30) + 30) + 30) + 3) + 6) + 10) + 60) + 24) + 9) + 3) + 3) + 3) + 4) 140 [some (.ref 44), none] [.ref 62, .ref 44] (a_tags.take 63) I J (a_u (a_u (a_u (a_u (a_u (a_u (a_u (a_u (a_u (a_u (a_u (a_u (a_u (a_u (a_u (a_u (a_u R 44 1 (some 45)) 44 2 (some 46)) 44 3 (some 47)) 44 4 (some 48)) 44 5 (some 49)) 44 6 (some 50)) 44 7 (some 51)) 44 8 (some 52)) 44 9 (some 53)) 44 10 (some 54)) 44 11 (some 55)) 44 12 (some 56)) 44 15 (some 57)) 44 16 (some 58)) 44 17 (some 59)) 44 18 (some 60)) 44 19 (some 61))
  refine aw_putRF hC dX12_init_140 aF_X12_62 rfl rfl rfl rfl rfl ?_
  refine aw_aload_n hC dX12_init_143 rfl ?_
  refine aw_iconst (v := 4) hC dX12_init_144 (by decide) ?_
  refine aw_newarrayI (N := 4) hC dX12_init_145 gA_int rfl (by decide) a_le a_le ?_
  rw [show (a_tags.take 63).length = 63 from rfl, show a_tags.take 63 ++ [.inl (.int, 4)] = a_tags.take 64 from rfl]
  show AW X (((((((((((((((((((0 + 1) + 1) + 1) + 1) + 1) + 1) + 1) + 1) + 1) + 1) + 1) + 1) + 1) + 1) + 1) + 1) + 1) + 1) + 1) (((((((((((((((((((0 + 30) + 30) + 30) + 30) + 30) + 30) + 30) + 30) + 3) + 6) + 10) + 60) + 24) + 9) + 3) + 3) + 3) + 4) + 4) 147 [some (.ref 44), none] [.ref 63, .ref 44] (a_tags.take 64) I J (a_u (a_u (a_u (a_u (a_u (a_u (a_u (a_u (a_u (a_u (a_u (a_u (a_u (a_u (a_u (a_u (a_u (a_u R 44 1 (some 45)) 44 2 (some 46)) 44 3 (some 47)) 44 4 (some 48)) 44 5 (some 49)) 44 6 (some 50)) 44 7 (some 51)) 44 8 (some 52)) 44 9 (some 53)) 44 10 (some 54)) 44 11 (some 55)) 44 12 (some 56)) 44 15 (some 57)) 44 16 (some 58)) 44 17 (some 59)) 44 18 (some 60)) 44 19 (some 61)) 44 21 (some 62))
  refine aw_putRF hC dX12_init_147 aF_X12_65 rfl rfl rfl rfl rfl ?_
  refine aw_aload_n hC dX12_init_150 rfl ?_
  refine aw_bipush (v := 32) hC dX12_init_151 (by decide) ?_
  refine aw_newarrayI (N := 32) hC dX12_init_153 gA_int rfl (by decide) a_le a_le ?_
  rw [show (a_tags.take 64).length = 64 from rfl, show a_tags.take 64 ++ [.inl (.int, 32)] = a_tags.take 65 from rfl]
  show AW X ((((((((((((((((((((0 + 1) + 1) + 1) + 1) + 1) + 1) + 1) + 1) + 1) + 1) + 1) + 1) + 1) + 1) + 1) + 1) + 1) + 1) + 1) + 1) ((((((((((((((((((((0 + 30) + 30) + 30) + 30) + 30) + 30) + 30) + 30) + 3) + 6) + 10) + 60) + 24) + 9) + 3) + 3) + 3) + 4) + 4) + 32) 155 [some (.ref 44), none] [.ref 64, .ref 44] (a_tags.take 65) I J (a_u (a_u (a_u (a_u (a_u (a_u (a_u (a_u (a_u (a_u (a_u (a_u (a_u (a_u (a_u (a_u (a_u (a_u (a_u R 44 1 (some 45)) 44 2 (some 46)) 44 3 (some 47)) 44 4 (some 48)) 44 5 (some 49)) 44 6 (some 50)) 44 7 (some 51)) 44 8 (some 52)) 44 9 (some 53)) 44 10 (some 54)) 44 11 (some 55)) 44 12 (some 56)) 44 15 (some 57)) 44 16 (some 58)) 44 17 (some 59)) 44 18 (some 60)) 44 19 (some 61)) 44 21 (some 62)) 44 22 (some 63))
  refine aw_putRF hC dX12_init_155 aF_X12_68 rfl rfl rfl rfl rfl ?_
  refine aw_aload_n hC dX12_init_158 rfl ?_
  refine aw_bipush (v := 12) hC dX12_init_159 (by decide) ?_
  refine aw_newarrayI (N := 12) hC dX12_init_161 gA_int rfl (by decide) a_le a_le ?_
  rw [show (a_tags.take 65).length = 65 from rfl, show a_tags.take 65 ++ [.inl (.int, 12)] = a_tags.take 66 from rfl]
  show AW X (((((((((((((((((((((0 + 1) + 1) + 1) + 1) + 1) + 1) + 1) + 1) + 1) + 1) + 1) + 1) + 1) + 1) + 1) + 1) + 1) + 1) + 1) + 1) + 1) (((((((((((((((((((((0 + 30) + 30) + 30) + 30) + 30) + 30) + 30) + 30) + 3) + 6) + 10) + 60) + 24) + 9) + 3) + 3) + 3) + 4) + 4) + 32) + 12) 163 [some (.ref 44), none] [.ref 65, .ref 44] (a_tags.take 66) I J (a_u (a_u (a_u (a_u (a_u (a_u (a_u (a_u (a_u (a_u (a_u (a_u (a_u (a_u (a_u (a_u (a_u (a_u (a_u (a_u R 44 1 (some 45)) 44 2 (some 46)) 44 3 (some 47)) 44 4 (some 48)) 44 5 (some 49)) 44 6 (some 50)) 44 7 (some 51)) 44 8 (some 52)) 44 9 (some 53)) 44 10 (some 54)) 44 11 (some 55)) 44 12 (some 56)) 44 15 (some 57)) 44 16 (some 58)) 44 17 (some 59)) 44 18 (some 60)) 44 19 (some 61)) 44 21 (some 62)) 44 22 (some 63)) 44 23 (some 64))
  refine aw_putRF hC dX12_init_163 aF_X12_71 rfl rfl rfl rfl rfl ?_
  refine aw_aload_n hC dX12_init_166 rfl ?_
  refine aw_bipush (v := 60) hC dX12_init_167 (by decide) ?_
  refine aw_newarrayI (N := 60) hC dX12_init_169 gA_int rfl (by decide) a_le a_le ?_
  rw [show (a_tags.take 66).length = 66 from rfl, show a_tags.take 66 ++ [.inl (.int, 60)] = a_tags.take 67 from rfl]
  show AW X ((((((((((((((((((((((0 + 1) + 1) + 1) + 1) + 1) + 1) + 1) + 1) + 1) + 1) + 1) + 1) + 1) + 1) + 1) + 1) + 1) + 1) + 1) + 1) + 1) + 1) ((((((((((((((((((((((0 + 30) + 30) + 30) + 30) + 30) + 30) + 30) + 30) + 3) + 6) + 10) + 60) + 24) + 9) + 3) + 3) + 3) + 4) + 4) + 32) + 12) + 60) 171 [some (.ref 44), none] [.ref 66, .ref 44] (a_tags.take 67) I J (a_u (a_u (a_u (a_u (a_u (a_u (a_u (a_u (a_u (a_u (a_u (a_u (a_u (a_u (a_u (a_u (a_u (a_u (a_u (a_u (a_u R 44 1 (some 45)) 44 2 (some 46)) 44 3 (some 47)) 44 4 (some 48)) 44 5 (some 49)) 44 6 (some 50)) 44 7 (some 51)) 44 8 (some 52)) 44 9 (some 53)) 44 10 (some 54)) 44 11 (some 55)) 44 12 (some 56)) 44 15 (some 57)) 44 16 (some 58)) 44 17 (some 59)) 44 18 (some 60)) 44 19 (some 61)) 44 21 (some 62)) 44 22 (some 63)) 44 23 (some 64)) 44 24 (some 65))
  refine aw_putRF hC dX12_init_171 aF_X12_74 rfl rfl rfl rfl rfl ?_
  refine aw_aload_n hC dX12_init_174 rfl ?_
  refine aw_sipush (v := 180) hC dX12_init_175 (by decide) ?_
  refine aw_newarrayI (N := 180) hC dX12_init_178 gA_int rfl (by decide) a_le a_le ?_
  rw [show (a_tags.take 67).length = 67 from rfl, show a_tags.take 67 ++ [.inl (.int, 180)] = a_tags.take 68 from rfl]
  show AW X (((((((((((((((((((((((0 + 1) + 1) + 1) + 1) + 1) + 1) + 1) + 1) + 1) + 1) + 1) + 1) + 1) + 1) + 1) + 1) + 1) + 1) + 1) + 1) + 1) + 1) + 1) (((((((((((((((((((((((0 + 30) + 30) + 30) + 30) + 30) + 30) + 30) + 30) + 3) + 6) + 10) + 60) + 24) + 9) + 3) + 3) + 3) + 4) + 4) + 32) + 12) + 60) + 180) 180 [some (.ref 44), none] [.ref 67, .ref 44] (a_tags.take 68) I J (a_u (a_u (a_u (a_u (a_u (a_u (a_u (a_u (a_u (a_u (a_u (a_u (a_u (a_u (a_u (a_u (a_u (a_u (a_u (a_u (a_u (a_u R 44 1 (some 45)) 44 2 (some 46)) 44 3 (some 47)) 44 4 (some 48)) 44 5 (some 49)) 44 6 (some 50)) 44 7 (some 51)) 44 8 (some 52)) 44 9 (some 53)) 44 10 (some 54)) 44 11 (some 55)) 44 12 (some 56)) 44 15 (some 57)) 44 16 (some 58)) 44 17 (some 59)) 44 18 (some 60)) 44 19 (some 61)) 44 21 (some 62)) 44 22 (some 63)) 44 23 (some 64)) 44 24 (some 65)) 44 26 (some 66))
  refine aw_putRF hC dX12_init_180 aF_X12_77 rfl rfl rfl rfl rfl ?_
  refine aw_aload_n hC dX12_init_183 rfl ?_
  refine aw_bipush (v := 60) hC dX12_init_184 (by decide) ?_
  refine aw_newarrayZ (N := 60) hC dX12_init_186 gA_boolean rfl (by decide) a_le a_le ?_
  rw [show (a_tags.take 68).length = 68 from rfl, show a_tags.take 68 ++ [.inl (.boolean, 60)] = a_tags.take 69 from rfl]
  show AW X ((((((((((((((((((((((((0 + 1) + 1) + 1) + 1) + 1) + 1) + 1) + 1) + 1) + 1) + 1) + 1) + 1) + 1) + 1) + 1) + 1) + 1) + 1) + 1) + 1) + 1) + 1) + 1) ((((((((((((((((((((((((0 + 30) + 30) + 30) + 30) + 30) + 30) + 30) + 30) + 3) + 6) + 10) + 60) + 24) + 9) + 3) + 3) + 3) + 4) + 4) + 32) + 12) + 60) + 180) + 60) 188 [some (.ref 44), none] [.ref 68, .ref 44] (a_tags.take 69) I J (a_u (a_u (a_u (a_u (a_u (a_u (a_u (a_u (a_u (a_u (a_u (a_u (a_u (a_u (a_u (a_u (a_u (a_u (a_u (a_u (a_u (a_u (a_u R 44 1 (some 45)) 44 2 (some 46)) 44 3 (some 47)) 44 4 (some 48)) 44 5 (some 49)) 44 6 (some 50)) 44 7 (some 51)) 44 8 (some 52)) 44 9 (some 53)) 44 10 (some 54)) 44 11 (some 55)) 44 12 (some 56)) 44 15 (some 57)) 44 16 (some 58)) 44 17 (some 59)) 44 18 (some 60)) 44 19 (some 61)) 44 21 (some 62)) 44 22 (some 63)) 44 23 (some 64)) 44 24 (some 65)) 44 26 (some 66)) 44 27 (some 67))
  refine aw_putRF hC dX12_init_188 aF_X12_80 rfl rfl rfl rfl rfl ?_
  refine aw_aload_n hC dX12_init_191 rfl ?_
  refine aw_bipush (v := 64) hC dX12_init_192 (by decide) ?_
  refine aw_newarrayI (N := 64) hC dX12_init_194 gA_int rfl (by decide) a_le a_le ?_
  rw [show (a_tags.take 69).length = 69 from rfl, show a_tags.take 69 ++ [.inl (.int, 64)] = a_tags.take 70 from rfl]
  show AW X (((((((((((((((((((((((((0 + 1) + 1) + 1) + 1) + 1) + 1) + 1) + 1) + 1) + 1) + 1) + 1) + 1) + 1) + 1) + 1) + 1) + 1) + 1) + 1) + 1) + 1) + 1) + 1) + 1) (((((((((((((((((((((((((0 + 30) + 30) + 30) + 30) + 30) + 30) + 30) + 30) + 3) + 6) + 10) + 60) + 24) + 9) + 3) + 3) + 3) + 4) + 4) + 32) + 12) + 60) + 180) + 60) + 64) 196 [some (.ref 44), none] [.ref 69, .ref 44] (a_tags.take 70) I J (a_u (a_u (a_u (a_u (a_u (a_u (a_u (a_u (a_u (a_u (a_u (a_u (a_u (a_u (a_u (a_u (a_u (a_u (a_u (a_u (a_u (a_u (a_u (a_u R 44 1 (some 45)) 44 2 (some 46)) 44 3 (some 47)) 44 4 (some 48)) 44 5 (some 49)) 44 6 (some 50)) 44 7 (some 51)) 44 8 (some 52)) 44 9 (some 53)) 44 10 (some 54)) 44 11 (some 55)) 44 12 (some 56)) 44 15 (some 57)) 44 16 (some 58)) 44 17 (some 59)) 44 18 (some 60)) 44 19 (some 61)) 44 21 (some 62)) 44 22 (some 63)) 44 23 (some 64)) 44 24 (some 65)) 44 26 (some 66)) 44 27 (some 67)) 44 28 (some 68))
  refine aw_putRF hC dX12_init_196 aF_X12_83 rfl rfl rfl rfl rfl ?_
  refine aw_aload_n hC dX12_init_199 rfl ?_
  refine aw_sipush (v := 192) hC dX12_init_200 (by decide) ?_
  refine aw_newarrayI (N := 192) hC dX12_init_203 gA_int rfl (by decide) a_le a_le ?_
  rw [show (a_tags.take 70).length = 70 from rfl, show a_tags.take 70 ++ [.inl (.int, 192)] = a_tags.take 71 from rfl]
  show AW X ((((((((((((((((((((((((((0 + 1) + 1) + 1) + 1) + 1) + 1) + 1) + 1) + 1) + 1) + 1) + 1) + 1) + 1) + 1) + 1) + 1) + 1) + 1) + 1) + 1) + 1) + 1) + 1) + 1) + 1) ((((((((((((((((((((((((((0 + 30) + 30) + 30) + 30) + 30) + 30) + 30) + 30) + 3) + 6) + 10) + 60) + 24) + 9) + 3) + 3) + 3) + 4) + 4) + 32) + 12) + 60) + 180) + 60) + 64) + 192) 205 [some (.ref 44), none] [.ref 70, .ref 44] (a_tags.take 71) I J (a_u (a_u (a_u (a_u (a_u (a_u (a_u (a_u (a_u (a_u (a_u (a_u (a_u (a_u (a_u (a_u (a_u (a_u (a_u (a_u (a_u (a_u (a_u (a_u (a_u R 44 1 (some 45)) 44 2 (some 46)) 44 3 (some 47)) 44 4 (some 48)) 44 5 (some 49)) 44 6 (some 50)) 44 7 (some 51)) 44 8 (some 52)) 44 9 (some 53)) 44 10 (some 54)) 44 11 (some 55)) 44 12 (some 56)) 44 15 (some 57)) 44 16 (some 58)) 44 17 (some 59)) 44 18 (some 60)) 44 19 (some 61)) 44 21 (some 62)) 44 22 (some 63)) 44 23 (some 64)) 44 24 (some 65)) 44 26 (some 66)) 44 27 (some 67)) 44 28 (some 68)) 44 29 (some 69))
  refine aw_putRF hC dX12_init_205 aF_X12_86 rfl rfl rfl rfl rfl ?_
  refine aw_aload_n hC dX12_init_208 rfl ?_
  refine aw_bipush (v := 64) hC dX12_init_209 (by decide) ?_
  refine aw_newarrayZ (N := 64) hC dX12_init_211 gA_boolean rfl (by decide) a_le a_le ?_
  rw [show (a_tags.take 71).length = 71 from rfl, show a_tags.take 71 ++ [.inl (.boolean, 64)] = a_tags.take 72 from rfl]
  show AW X (((((((((((((((((((((((((((0 + 1) + 1) + 1) + 1) + 1) + 1) + 1) + 1) + 1) + 1) + 1) + 1) + 1) + 1) + 1) + 1) + 1) + 1) + 1) + 1) + 1) + 1) + 1) + 1) + 1) + 1) + 1) (((((((((((((((((((((((((((0 + 30) + 30) + 30) + 30) + 30) + 30) + 30) + 30) + 3) + 6) + 10) + 60) + 24) + 9) + 3) + 3) + 3) + 4) + 4) + 32) + 12) + 60) + 180) + 60) + 64) + 192) + 64) 213 [some (.ref 44), none] [.ref 71, .ref 44] (a_tags.take 72) I J (a_u (a_u (a_u (a_u (a_u (a_u (a_u (a_u (a_u (a_u (a_u (a_u (a_u (a_u (a_u (a_u (a_u (a_u (a_u (a_u (a_u (a_u (a_u (a_u (a_u (a_u R 44 1 (some 45)) 44 2 (some 46)) 44 3 (some 47)) 44 4 (some 48)) 44 5 (some 49)) 44 6 (some 50)) 44 7 (some 51)) 44 8 (some 52)) 44 9 (some 53)) 44 10 (some 54)) 44 11 (some 55)) 44 12 (some 56)) 44 15 (some 57)) 44 16 (some 58)) 44 17 (some 59)) 44 18 (some 60)) 44 19 (some 61)) 44 21 (some 62)) 44 22 (some 63)) 44 23 (some 64)) 44 24 (some 65)) 44 26 (some 66)) 44 27 (some 67)) 44 28 (some 68)) 44 29 (some 69)) 44 30 (some 70))
  refine aw_putRF hC dX12_init_213 aF_X12_89 rfl rfl rfl rfl rfl ?_
  refine aw_aload_n hC dX12_init_216 rfl ?_
  refine aw_bipush (v := 64) hC dX12_init_217 (by decide) ?_
  refine aw_newarrayI (N := 64) hC dX12_init_219 gA_int rfl (by decide) a_le a_le ?_
  rw [show (a_tags.take 72).length = 72 from rfl, show a_tags.take 72 ++ [.inl (.int, 64)] = a_tags.take 73 from rfl]
  show AW X ((((((((((((((((((((((((((((0 + 1) + 1) + 1) + 1) + 1) + 1) + 1) + 1) + 1) + 1) + 1) + 1) + 1) + 1) + 1) + 1) + 1) + 1) + 1) + 1) + 1) + 1) + 1) + 1) + 1) + 1) + 1) + 1) ((((((((((((((((((((((((((((0 + 30) + 30) + 30) + 30) + 30) + 30) + 30) + 30) + 3) + 6) + 10) + 60) + 24) + 9) + 3) + 3) + 3) + 4) + 4) + 32) + 12) + 60) + 180) + 60) + 64) + 192) + 64) + 64) 221 [some (.ref 44), none] [.ref 72, .ref 44] (a_tags.take 73) I J (a_u (a_u (a_u (a_u (a_u (a_u (a_u (a_u (a_u (a_u (a_u (a_u (a_u (a_u (a_u (a_u (a_u (a_u (a_u (a_u (a_u (a_u (a_u (a_u (a_u (a_u (a_u R 44 1 (some 45)) 44 2 (some 46)) 44 3 (some 47)) 44 4 (some 48)) 44 5 (some 49)) 44 6 (some 50)) 44 7 (some 51)) 44 8 (some 52)) 44 9 (some 53)) 44 10 (some 54)) 44 11 (some 55)) 44 12 (some 56)) 44 15 (some 57)) 44 16 (some 58)) 44 17 (some 59)) 44 18 (some 60)) 44 19 (some 61)) 44 21 (some 62)) 44 22 (some 63)) 44 23 (some 64)) 44 24 (some 65)) 44 26 (some 66)) 44 27 (some 67)) 44 28 (some 68)) 44 29 (some 69)) 44 30 (some 70)) 44 31 (some 71))
  refine aw_putRF hC dX12_init_221 aF_X12_92 rfl rfl rfl rfl rfl ?_
  refine aw_aload_n hC dX12_init_224 rfl ?_
  refine aw_sipush (v := 192) hC dX12_init_225 (by decide) ?_
  refine aw_newarrayI (N := 192) hC dX12_init_228 gA_int rfl (by decide) a_le a_le ?_
  rw [show (a_tags.take 73).length = 73 from rfl, show a_tags.take 73 ++ [.inl (.int, 192)] = a_tags.take 74 from rfl]
  show AW X (((((((((((((((((((((((((((((0 + 1) + 1) + 1) + 1) + 1) + 1) + 1) + 1) + 1) + 1) + 1) + 1) + 1) + 1) + 1) + 1) + 1) + 1) + 1) + 1) + 1) + 1) + 1) + 1) + 1) + 1) + 1) + 1) + 1) (((((((((((((((((((((((((((((0 + 30) + 30) + 30) + 30) + 30) + 30) + 30) + 30) + 3) + 6) + 10) + 60) + 24) + 9) + 3) + 3) + 3) + 4) + 4) + 32) + 12) + 60) + 180) + 60) + 64) + 192) + 64) + 64) + 192) 230 [some (.ref 44), none] [.ref 73, .ref 44] (a_tags.take 74) I J (a_u (a_u (a_u (a_u (a_u (a_u (a_u (a_u (a_u (a_u (a_u (a_u (a_u (a_u (a_u (a_u (a_u (a_u (a_u (a_u (a_u (a_u (a_u (a_u (a_u (a_u (a_u (a_u R 44 1 (some 45)) 44 2 (some 46)) 44 3 (some 47)) 44 4 (some 48)) 44 5 (some 49)) 44 6 (some 50)) 44 7 (some 51)) 44 8 (some 52)) 44 9 (some 53)) 44 10 (some 54)) 44 11 (some 55)) 44 12 (some 56)) 44 15 (some 57)) 44 16 (some 58)) 44 17 (some 59)) 44 18 (some 60)) 44 19 (some 61)) 44 21 (some 62)) 44 22 (some 63)) 44 23 (some 64)) 44 24 (some 65)) 44 26 (some 66)) 44 27 (some 67)) 44 28 (some 68)) 44 29 (some 69)) 44 30 (some 70)) 44 31 (some 71)) 44 32 (some 72))
  refine aw_putRF hC dX12_init_230 aF_X12_95 rfl rfl rfl rfl rfl ?_
  refine aw_aload_n hC dX12_init_233 rfl ?_
  refine aw_bipush (v := 64) hC dX12_init_234 (by decide) ?_
  refine aw_newarrayI (N := 64) hC dX12_init_236 gA_int rfl (by decide) a_le a_le ?_
  rw [show (a_tags.take 74).length = 74 from rfl, show a_tags.take 74 ++ [.inl (.int, 64)] = a_tags.take 75 from rfl]
  show AW X ((((((((((((((((((((((((((((((0 + 1) + 1) + 1) + 1) + 1) + 1) + 1) + 1) + 1) + 1) + 1) + 1) + 1) + 1) + 1) + 1) + 1) + 1) + 1) + 1) + 1) + 1) + 1) + 1) + 1) + 1) + 1) + 1) + 1) + 1) ((((((((((((((((((((((((((((((0 + 30) + 30) + 30) + 30) + 30) + 30) + 30) + 30) + 3) + 6) + 10) + 60) + 24) + 9) + 3) + 3) + 3) + 4) + 4) + 32) + 12) + 60) + 180) + 60) + 64) + 192) + 64) + 64) + 192) + 64) 238 [some (.ref 44), none] [.ref 74, .ref 44] (a_tags.take 75) I J (a_u (a_u (a_u (a_u (a_u (a_u (a_u (a_u (a_u (a_u (a_u (a_u (a_u (a_u (a_u (a_u (a_u (a_u (a_u (a_u (a_u (a_u (a_u (a_u (a_u (a_u (a_u (a_u (a_u R 44 1 (some 45)) 44 2 (some 46)) 44 3 (some 47)) 44 4 (some 48)) 44 5 (some 49)) 44 6 (some 50)) 44 7 (some 51)) 44 8 (some 52)) 44 9 (some 53)) 44 10 (some 54)) 44 11 (some 55)) 44 12 (some 56)) 44 15 (some 57)) 44 16 (some 58)) 44 17 (some 59)) 44 18 (some 60)) 44 19 (some 61)) 44 21 (some 62)) 44 22 (some 63)) 44 23 (some 64)) 44 24 (some 65)) 44 26 (some 66)) 44 27 (some 67)) 44 28 (some 68)) 44 29 (some 69)) 44 30 (some 70)) 44 31 (some 71)) 44 32 (some 72)) 44 33 (some 73))
  refine aw_putRF hC dX12_init_238 aF_X12_98 rfl rfl rfl rfl rfl ?_
  refine aw_aload_n hC dX12_init_241 rfl ?_
  refine aw_bipush (v := 40) hC dX12_init_242 (by decide) ?_
  refine aw_newarrayI (N := 40) hC dX12_init_244 gA_int rfl (by decide) a_le a_le ?_
  rw [show (a_tags.take 75).length = 75 from rfl, show a_tags.take 75 ++ [.inl (.int, 40)] = a_tags.take 76 from rfl]
  show AW X (((((((((((((((((((((((((((((((0 + 1) + 1) + 1) + 1) + 1) + 1) + 1) + 1) + 1) + 1) + 1) + 1) + 1) + 1) + 1) + 1) + 1) + 1) + 1) + 1) + 1) + 1) + 1) + 1) + 1) + 1) + 1) + 1) + 1) + 1) + 1) (((((((((((((((((((((((((((((((0 + 30) + 30) + 30) + 30) + 30) + 30) + 30) + 30) + 3) + 6) + 10) + 60) + 24) + 9) + 3) + 3) + 3) + 4) + 4) + 32) + 12) + 60) + 180) + 60) + 64) + 192) + 64) + 64) + 192) + 64) + 40) 246 [some (.ref 44), none] [.ref 75, .ref 44] (a_tags.take 76) I J (a_u (a_u (a_u (a_u (a_u (a_u (a_u (a_u (a_u (a_u (a_u (a_u (a_u (a_u (a_u (a_u (a_u (a_u (a_u (a_u (a_u (a_u (a_u (a_u (a_u (a_u (a_u (a_u (a_u (a_u R 44 1 (some 45)) 44 2 (some 46)) 44 3 (some 47)) 44 4 (some 48)) 44 5 (some 49)) 44 6 (some 50)) 44 7 (some 51)) 44 8 (some 52)) 44 9 (some 53)) 44 10 (some 54)) 44 11 (some 55)) 44 12 (some 56)) 44 15 (some 57)) 44 16 (some 58)) 44 17 (some 59)) 44 18 (some 60)) 44 19 (some 61)) 44 21 (some 62)) 44 22 (some 63)) 44 23 (some 64)) 44 24 (some 65)) 44 26 (some 66)) 44 27 (some 67)) 44 28 (some 68)) 44 29 (some 69)) 44 30 (some 70)) 44 31 (some 71)) 44 32 (some 72)) 44 33 (some 73)) 44 34 (some 74))
  refine aw_putRF hC dX12_init_246 aF_X12_101 rfl rfl rfl rfl rfl ?_
  refine aw_aload_n hC dX12_init_249 rfl ?_
  refine aw_bipush (v := 40) hC dX12_init_250 (by decide) ?_
  refine aw_newarrayI (N := 40) hC dX12_init_252 gA_int rfl (by decide) a_le a_le ?_
  rw [show (a_tags.take 76).length = 76 from rfl, show a_tags.take 76 ++ [.inl (.int, 40)] = a_tags.take 77 from rfl]
  show AW X ((((((((((((((((((((((((((((((((0 + 1) + 1) + 1) + 1) + 1) + 1) + 1) + 1) + 1) + 1) + 1) + 1) + 1) + 1) + 1) + 1) + 1) + 1) + 1) + 1) + 1) + 1) + 1) + 1) + 1) + 1) + 1) + 1) + 1) + 1) + 1) + 1) ((((((((((((((((((((((((((((((((0 + 30) + 30) + 30) + 30) + 30) + 30) + 30) + 30) + 3) + 6) + 10) + 60) + 24) + 9) + 3) + 3) + 3) + 4) + 4) + 32) + 12) + 60) + 180) + 60) + 64) + 192) + 64) + 64) + 192) + 64) + 40) + 40) 254 [some (.ref 44), none] [.ref 76, .ref 44] (a_tags.take 77) I J (a_u (a_u (a_u (a_u (a_u (a_u (a_u (a_u (a_u (a_u (a_u (a_u (a_u (a_u (a_u (a_u (a_u (a_u (a_u (a_u (a_u (a_u (a_u (a_u (a_u (a_u (a_u (a_u (a_u (a_u (a_u R 44 1 (some 45)) 44 2 (some 46)) 44 3 (some 47)) 44 4 (some 48)) 44 5 (some 49)) 44 6 (some 50)) 44 7 (some 51)) 44 8 (some 52)) 44 9 (some 53)) 44 10 (some 54)) 44 11 (some 55)) 44 12 (some 56)) 44 15 (some 57)) 44 16 (some 58)) 44 17 (some 59)) 44 18 (some 60)) 44 19 (some 61)) 44 21 (some 62)) 44 22 (some 63)) 44 23 (some 64)) 44 24 (some 65)) 44 26 (some 66)) 44 27 (some 67)) 44 28 (some 68)) 44 29 (some 69)) 44 30 (some 70)) 44 31 (some 71)) 44 32 (some 72)) 44 33 (some 73)) 44 34 (some 74)) 44 37 (some 75))
  refine aw_putRF hC dX12_init_254 aF_X12_104 rfl rfl rfl rfl rfl ?_
  refine aw_aload_n hC dX12_init_257 rfl ?_
  refine aw_bipush (v := 40) hC dX12_init_258 (by decide) ?_
  refine aw_newarrayZ (N := 40) hC dX12_init_260 gA_boolean rfl (by decide) a_le a_le ?_
  rw [show (a_tags.take 77).length = 77 from rfl, show a_tags.take 77 ++ [.inl (.boolean, 40)] = a_tags.take 78 from rfl]
  show AW X (((((((((((((((((((((((((((((((((0 + 1) + 1) + 1) + 1) + 1) + 1) + 1) + 1) + 1) + 1) + 1) + 1) + 1) + 1) + 1) + 1) + 1) + 1) + 1) + 1) + 1) + 1) + 1) + 1) + 1) + 1) + 1) + 1) + 1) + 1) + 1) + 1) + 1) (((((((((((((((((((((((((((((((((0 + 30) + 30) + 30) + 30) + 30) + 30) + 30) + 30) + 3) + 6) + 10) + 60) + 24) + 9) + 3) + 3) + 3) + 4) + 4) + 32) + 12) + 60) + 180) + 60) + 64) + 192) + 64) + 64) + 192) + 64) + 40) + 40) + 40) 262 [some (.ref 44), none] [.ref 77, .ref 44] (a_tags.take 78) I J (a_u (a_u (a_u (a_u (a_u (a_u (a_u (a_u (a_u (a_u (a_u (a_u (a_u (a_u (a_u (a_u (a_u (a_u (a_u (a_u (a_u (a_u (a_u (a_u (a_u (a_u (a_u (a_u (a_u (a_u (a_u (a_u R 44 1 (some 45)) 44 2 (some 46)) 44 3 (some 47)) 44 4 (some 48)) 44 5 (some 49)) 44 6 (some 50)) 44 7 (some 51)) 44 8 (some 52)) 44 9 (some 53)) 44 10 (some 54)) 44 11 (some 55)) 44 12 (some 56)) 44 15 (some 57)) 44 16 (some 58)) 44 17 (some 59)) 44 18 (some 60)) 44 19 (some 61)) 44 21 (some 62)) 44 22 (some 63)) 44 23 (some 64)) 44 24 (some 65)) 44 26 (some 66)) 44 27 (some 67)) 44 28 (some 68)) 44 29 (some 69)) 44 30 (some 70)) 44 31 (some 71)) 44 32 (some 72)) 44 33 (some 73)) 44 34 (some 74)) 44 37 (some 75)) 44 38 (some 76))
  refine aw_putRF hC dX12_init_262 aF_X12_107 rfl rfl rfl rfl rfl ?_
  refine aw_aload_n hC dX12_init_265 rfl ?_
  refine aw_bipush (v := 40) hC dX12_init_266 (by decide) ?_
  refine aw_newarrayZ (N := 40) hC dX12_init_268 gA_boolean rfl (by decide) a_le a_le ?_
  rw [show (a_tags.take 78).length = 78 from rfl, show a_tags.take 78 ++ [.inl (.boolean, 40)] = a_tags.take 79 from rfl]
  show AW X ((((((((((((((((((((((((((((((((((0 + 1) + 1) + 1) + 1) + 1) + 1) + 1) + 1) + 1) + 1) + 1) + 1) + 1) + 1) + 1) + 1) + 1) + 1) + 1) + 1) + 1) + 1) + 1) + 1) + 1) + 1) + 1) + 1) + 1) + 1) + 1) + 1) + 1) + 1) ((((((((((((((((((((((((((((((((((0 + 30) + 30) + 30) + 30) + 30) + 30) + 30) + 30) + 3) + 6) + 10) + 60) + 24) + 9) + 3) + 3) + 3) + 4) + 4) + 32) + 12) + 60) + 180) + 60) + 64) + 192) + 64) + 64) + 192) + 64) + 40) + 40) + 40) + 40) 270 [some (.ref 44), none] [.ref 78, .ref 44] (a_tags.take 79) I J (a_u (a_u (a_u (a_u (a_u (a_u (a_u (a_u (a_u (a_u (a_u (a_u (a_u (a_u (a_u (a_u (a_u (a_u (a_u (a_u (a_u (a_u (a_u (a_u (a_u (a_u (a_u (a_u (a_u (a_u (a_u (a_u (a_u R 44 1 (some 45)) 44 2 (some 46)) 44 3 (some 47)) 44 4 (some 48)) 44 5 (some 49)) 44 6 (some 50)) 44 7 (some 51)) 44 8 (some 52)) 44 9 (some 53)) 44 10 (some 54)) 44 11 (some 55)) 44 12 (some 56)) 44 15 (some 57)) 44 16 (some 58)) 44 17 (some 59)) 44 18 (some 60)) 44 19 (some 61)) 44 21 (some 62)) 44 22 (some 63)) 44 23 (some 64)) 44 24 (some 65)) 44 26 (some 66)) 44 27 (some 67)) 44 28 (some 68)) 44 29 (some 69)) 44 30 (some 70)) 44 31 (some 71)) 44 32 (some 72)) 44 33 (some 73)) 44 34 (some 74)) 44 37 (some 75)) 44 38 (some 76)) 44 39 (some 77))
  refine aw_putRF hC dX12_init_270 aF_X12_110 rfl rfl rfl rfl rfl ?_
  refine aw_aload_n hC dX12_init_273 rfl ?_
  refine aw_bipush (v := 40) hC dX12_init_274 (by decide) ?_
  refine aw_newarrayI (N := 40) hC dX12_init_276 gA_int rfl (by decide) a_le a_le ?_
  rw [show (a_tags.take 79).length = 79 from rfl, show a_tags.take 79 ++ [.inl (.int, 40)] = a_tags.take 80 from rfl]
  show AW X (((((((((((((((((((((((((((((((((((0 + 1) + 1) + 1) + 1) + 1) + 1) + 1) + 1) + 1) + 1) + 1) + 1) + 1) + 1) + 1) + 1) + 1) + 1) + 1) + 1) + 1) + 1) + 1) + 1) + 1) + 1) + 1) + 1) + 1) + 1) + 1) + 1) + 1) + 1) + 1) (((((((((((((((((((((((((((((((((((0 + 30) + 30) + 30) + 30) + 30) + 30) + 30) + 30) + 3) + 6) + 10) + 60) + 24) + 9) + 3) + 3) + 3) + 4) + 4) + 32) + 12) + 60) + 180) + 60) + 64) + 192) + 64) + 64) + 192) + 64) + 40) + 40) + 40) + 40) + 40) 278 [some (.ref 44), none] [.ref 79, .ref 44] (a_tags.take 80) I J (a_u (a_u (a_u (a_u (a_u (a_u (a_u (a_u (a_u (a_u (a_u (a_u (a_u (a_u (a_u (a_u (a_u (a_u (a_u (a_u (a_u (a_u (a_u (a_u (a_u (a_u (a_u (a_u (a_u (a_u (a_u (a_u (a_u (a_u R 44 1 (some 45)) 44 2 (some 46)) 44 3 (some 47)) 44 4 (some 48)) 44 5 (some 49)) 44 6 (some 50)) 44 7 (some 51)) 44 8 (some 52)) 44 9 (some 53)) 44 10 (some 54)) 44 11 (some 55)) 44 12 (some 56)) 44 15 (some 57)) 44 16 (some 58)) 44 17 (some 59)) 44 18 (some 60)) 44 19 (some 61)) 44 21 (some 62)) 44 22 (some 63)) 44 23 (some 64)) 44 24 (some 65)) 44 26 (some 66)) 44 27 (some 67)) 44 28 (some 68)) 44 29 (some 69)) 44 30 (some 70)) 44 31 (some 71)) 44 32 (some 72)) 44 33 (some 73)) 44 34 (some 74)) 44 37 (some 75)) 44 38 (some 76)) 44 39 (some 77)) 44 40 (some 78))
  refine aw_putRF hC dX12_init_278 aF_X12_113 rfl rfl rfl rfl rfl ?_
  refine aw_aload_n hC dX12_init_281 rfl ?_
  refine aw_sipush (v := 5120) hC dX12_init_282 (by decide) ?_
  refine aw_newarrayI (N := 5120) hC dX12_init_285 gA_int rfl (by decide) a_le a_le ?_
  rw [show (a_tags.take 80).length = 80 from rfl, show a_tags.take 80 ++ [.inl (.int, 5120)] = a_tags.take 81 from rfl]
  show AW X ((((((((((((((((((((((((((((((((((((0 + 1) + 1) + 1) + 1) + 1) + 1) + 1) + 1) + 1) + 1) + 1) + 1) + 1) + 1) + 1) + 1) + 1) + 1) + 1) + 1) + 1) + 1) + 1) + 1) + 1) + 1) + 1) + 1) + 1) + 1) + 1) + 1) + 1) + 1) + 1) + 1) ((((((((((((((((((((((((((((((((((((0 + 30) + 30) + 30) + 30) + 30) + 30) + 30) + 30) + 3) + 6) + 10) + 60) + 24) + 9) + 3) + 3) + 3) + 4) + 4) + 32) + 12) + 60) + 180) + 60) + 64) + 192) + 64) + 64) + 192) + 64) + 40) + 40) + 40) + 40) + 40) + 5120) 287 [some (.ref 44), none] [.ref 80, .ref 44] (a_tags.take 81) I J (a_u (a_u (a_u (a_u (a_u (a_u (a_u (a_u (a_u (a_u (a_u (a_u (a_u (a_u (a_u (a_u (a_u (a_u (a_u (a_u (a_u (a_u (a_u (a_u (a_u (a_u (a_u (a_u (a_u (a_u (a_u (a_u (a_u (a_u (a_u R 44 1 (some 45)) 44 2 (some 46)) 44 3 (some 47)) 44 4 (some 48)) 44 5 (some 49)) 44 6 (some 50)) 44 7 (some 51)) 44 8 (some 52)) 44 9 (some 53)) 44 10 (some 54)) 44 11 (some 55)) 44 12 (some 56)) 44 15 (some 57)) 44 16 (some 58)) 44 17 (some 59)) 44 18 (some 60)) 44 19 (some 61)) 44 21 (some 62)) 44 22 (some 63)) 44 23 (some 64)) 44 24 (some 65)) 44 26 (some 66)) 44 27 (some 67)) 44 28 (some 68)) 44 29 (some 69)) 44 30 (some 70)) 44 31 (some 71)) 44 32 (some 72)) 44 33 (some 73)) 44 34 (some 74)) 44 37 (some 75)) 44 38 (some 76)) 44 39 (some 77)) 44 40 (some 78)) 44 41 (some 79))
  refine aw_putRF hC dX12_init_287 aF_X12_116 rfl rfl rfl rfl rfl ?_
  refine aw_aload_n hC dX12_init_290 rfl ?_
  refine aw_iconst (v := (-1)) hC dX12_init_291 (by decide) ?_
  refine aw_putI hC dX12_init_292 aF_X12_119 rfl rfl rfl ?_
  refine aw_aload_n hC dX12_init_295 rfl ?_
  refine aw_iconst (v := (-1)) hC dX12_init_296 (by decide) ?_
  refine aw_putI hC dX12_init_297 aF_X12_123 rfl rfl rfl ?_
  refine aw_aload_n hC dX12_init_300 rfl ?_
  refine aw_bipush (v := 64) hC dX12_init_301 (by decide) ?_
  refine aw_newarrayZ (N := 64) hC dX12_init_303 gA_boolean rfl (by decide) a_le a_le ?_
  rw [show (a_tags.take 81).length = 81 from rfl, show a_tags.take 81 ++ [.inl (.boolean, 64)] = a_tags.take 82 from rfl]
  show AW X (((((((((((((((((((((((((((((((((((((0 + 1) + 1) + 1) + 1) + 1) + 1) + 1) + 1) + 1) + 1) + 1) + 1) + 1) + 1) + 1) + 1) + 1) + 1) + 1) + 1) + 1) + 1) + 1) + 1) + 1) + 1) + 1) + 1) + 1) + 1) + 1) + 1) + 1) + 1) + 1) + 1) + 1) (((((((((((((((((((((((((((((((((((((0 + 30) + 30) + 30) + 30) + 30) + 30) + 30) + 30) + 3) + 6) + 10) + 60) + 24) + 9) + 3) + 3) + 3) + 4) + 4) + 32) + 12) + 60) + 180) + 60) + 64) + 192) + 64) + 64) + 192) + 64) + 40) + 40) + 40) + 40) + 40) + 5120) + 64) 305 [some (.ref 44), none] [.ref 81, .ref 44] (a_tags.take 82) (a_u (a_u I 44 43 (-1)) 44 45 (-1)) J (a_u (a_u (a_u (a_u (a_u (a_u (a_u (a_u (a_u (a_u (a_u (a_u (a_u (a_u (a_u (a_u (a_u (a_u (a_u (a_u (a_u (a_u (a_u (a_u (a_u (a_u (a_u (a_u (a_u (a_u (a_u (a_u (a_u (a_u (a_u (a_u R 44 1 (some 45)) 44 2 (some 46)) 44 3 (some 47)) 44 4 (some 48)) 44 5 (some 49)) 44 6 (some 50)) 44 7 (some 51)) 44 8 (some 52)) 44 9 (some 53)) 44 10 (some 54)) 44 11 (some 55)) 44 12 (some 56)) 44 15 (some 57)) 44 16 (some 58)) 44 17 (some 59)) 44 18 (some 60)) 44 19 (some 61)) 44 21 (some 62)) 44 22 (some 63)) 44 23 (some 64)) 44 24 (some 65)) 44 26 (some 66)) 44 27 (some 67)) 44 28 (some 68)) 44 29 (some 69)) 44 30 (some 70)) 44 31 (some 71)) 44 32 (some 72)) 44 33 (some 73)) 44 34 (some 74)) 44 37 (some 75)) 44 38 (some 76)) 44 39 (some 77)) 44 40 (some 78)) 44 41 (some 79)) 44 42 (some 80))
  refine aw_putRF hC dX12_init_305 aF_X12_126 rfl rfl rfl rfl rfl ?_
  refine aw_aload_n hC dX12_init_308 rfl ?_
  refine aw_bipush (v := 64) hC dX12_init_309 (by decide) ?_
  refine aw_newarrayI (N := 64) hC dX12_init_311 gA_int rfl (by decide) a_le a_le ?_
  rw [show (a_tags.take 82).length = 82 from rfl, show a_tags.take 82 ++ [.inl (.int, 64)] = a_tags.take 83 from rfl]
  show AW X ((((((((((((((((((((((((((((((((((((((0 + 1) + 1) + 1) + 1) + 1) + 1) + 1) + 1) + 1) + 1) + 1) + 1) + 1) + 1) + 1) + 1) + 1) + 1) + 1) + 1) + 1) + 1) + 1) + 1) + 1) + 1) + 1) + 1) + 1) + 1) + 1) + 1) + 1) + 1) + 1) + 1) + 1) + 1) ((((((((((((((((((((((((((((((((((((((0 + 30) + 30) + 30) + 30) + 30) + 30) + 30) + 30) + 3) + 6) + 10) + 60) + 24) + 9) + 3) + 3) + 3) + 4) + 4) + 32) + 12) + 60) + 180) + 60) + 64) + 192) + 64) + 64) + 192) + 64) + 40) + 40) + 40) + 40) + 40) + 5120) + 64) + 64) 313 [some (.ref 44), none] [.ref 82, .ref 44] (a_tags.take 83) (a_u (a_u I 44 43 (-1)) 44 45 (-1)) J (a_u (a_u (a_u (a_u (a_u (a_u (a_u (a_u (a_u (a_u (a_u (a_u (a_u (a_u (a_u (a_u (a_u (a_u (a_u (a_u (a_u (a_u (a_u (a_u (a_u (a_u (a_u (a_u (a_u (a_u (a_u (a_u (a_u (a_u (a_u (a_u (a_u R 44 1 (some 45)) 44 2 (some 46)) 44 3 (some 47)) 44 4 (some 48)) 44 5 (some 49)) 44 6 (some 50)) 44 7 (some 51)) 44 8 (some 52)) 44 9 (some 53)) 44 10 (some 54)) 44 11 (some 55)) 44 12 (some 56)) 44 15 (some 57)) 44 16 (some 58)) 44 17 (some 59)) 44 18 (some 60)) 44 19 (some 61)) 44 21 (some 62)) 44 22 (some 63)) 44 23 (some 64)) 44 24 (some 65)) 44 26 (some 66)) 44 27 (some 67)) 44 28 (some 68)) 44 29 (some 69)) 44 30 (some 70)) 44 31 (some 71)) 44 32 (some 72)) 44 33 (some 73)) 44 34 (some 74)) 44 37 (some 75)) 44 38 (some 76)) 44 39 (some 77)) 44 40 (some 78)) 44 41 (some 79)) 44 42 (some 80)) 44 46 (some 81))
  refine aw_putRF hC dX12_init_313 aF_X12_129 rfl rfl rfl rfl rfl ?_
  refine aw_aload_n hC dX12_init_316 rfl ?_
  refine aw_bipush (v := 9) hC dX12_init_317 (by decide) ?_
  refine aw_newarrayZ (N := 9) hC dX12_init_319 gA_boolean rfl (by decide) a_le a_le ?_
  rw [show (a_tags.take 83).length = 83 from rfl, show a_tags.take 83 ++ [.inl (.boolean, 9)] = a_tags.take 84 from rfl]
  show AW X (((((((((((((((((((((((((((((((((((((((0 + 1) + 1) + 1) + 1) + 1) + 1) + 1) + 1) + 1) + 1) + 1) + 1) + 1) + 1) + 1) + 1) + 1) + 1) + 1) + 1) + 1) + 1) + 1) + 1) + 1) + 1) + 1) + 1) + 1) + 1) + 1) + 1) + 1) + 1) + 1) + 1) + 1) + 1) + 1) (((((((((((((((((((((((((((((((((((((((0 + 30) + 30) + 30) + 30) + 30) + 30) + 30) + 30) + 3) + 6) + 10) + 60) + 24) + 9) + 3) + 3) + 3) + 4) + 4) + 32) + 12) + 60) + 180) + 60) + 64) + 192) + 64) + 64) + 192) + 64) + 40) + 40) + 40) + 40) + 40) + 5120) + 64) + 64) + 9) 321 [some (.ref 44), none] [.ref 83, .ref 44] (a_tags.take 84) (a_u (a_u I 44 43 (-1)) 44 45 (-1)) J (a_u (a_u (a_u (a_u (a_u (a_u (a_u (a_u (a_u (a_u (a_u (a_u (a_u (a_u (a_u (a_u (a_u (a_u (a_u (a_u (a_u (a_u (a_u (a_u (a_u (a_u (a_u (a_u (a_u (a_u (a_u (a_u (a_u (a_u (a_u (a_u (a_u (a_u R 44 1 (some 45)) 44 2 (some 46)) 44 3 (some 47)) 44 4 (some 48)) 44 5 (some 49)) 44 6 (some 50)) 44 7 (some 51)) 44 8 (some 52)) 44 9 (some 53)) 44 10 (some 54)) 44 11 (some 55)) 44 12 (some 56)) 44 15 (some 57)) 44 16 (some 58)) 44 17 (some 59)) 44 18 (some 60)) 44 19 (some 61)) 44 21 (some 62)) 44 22 (some 63)) 44 23 (some 64)) 44 24 (some 65)) 44 26 (some 66)) 44 27 (some 67)) 44 28 (some 68)) 44 29 (some 69)) 44 30 (some 70)) 44 31 (some 71)) 44 32 (some 72)) 44 33 (some 73)) 44 34 (some 74)) 44 37 (some 75)) 44 38 (some 76)) 44 39 (some 77)) 44 40 (some 78)) 44 41 (some 79)) 44 42 (some 80)) 44 46 (some 81)) 44 47 (some 82))
  refine aw_putRF hC dX12_init_321 aF_X12_132 rfl rfl rfl rfl rfl ?_
  refine aw_aload_n hC dX12_init_324 rfl ?_
  refine aw_bipush (v := 30) hC dX12_init_325 (by decide) ?_
  refine aw_newarrayZ (N := 30) hC dX12_init_327 gA_boolean rfl (by decide) a_le a_le ?_
  rw [show (a_tags.take 84).length = 84 from rfl, show a_tags.take 84 ++ [.inl (.boolean, 30)] = a_tags.take 85 from rfl]
  show AW X ((((((((((((((((((((((((((((((((((((((((0 + 1) + 1) + 1) + 1) + 1) + 1) + 1) + 1) + 1) + 1) + 1) + 1) + 1) + 1) + 1) + 1) + 1) + 1) + 1) + 1) + 1) + 1) + 1) + 1) + 1) + 1) + 1) + 1) + 1) + 1) + 1) + 1) + 1) + 1) + 1) + 1) + 1) + 1) + 1) + 1) ((((((((((((((((((((((((((((((((((((((((0 + 30) + 30) + 30) + 30) + 30) + 30) + 30) + 30) + 3) + 6) + 10) + 60) + 24) + 9) + 3) + 3) + 3) + 4) + 4) + 32) + 12) + 60) + 180) + 60) + 64) + 192) + 64) + 64) + 192) + 64) + 40) + 40) + 40) + 40) + 40) + 5120) + 64) + 64) + 9) + 30) 329 [some (.ref 44), none] [.ref 84, .ref 44] (a_tags.take 85) (a_u (a_u I 44 43 (-1)) 44 45 (-1)) J (a_u (a_u (a_u (a_u (a_u (a_u (a_u (a_u (a_u (a_u (a_u (a_u (a_u (a_u (a_u (a_u (a_u (a_u (a_u (a_u (a_u (a_u (a_u (a_u (a_u (a_u (a_u (a_u (a_u (a_u (a_u (a_u (a_u (a_u (a_u (a_u (a_u (a_u (a_u R 44 1 (some 45)) 44 2 (some 46)) 44 3 (some 47)) 44 4 (some 48)) 44 5 (some 49)) 44 6 (some 50)) 44 7 (some 51)) 44 8 (some 52)) 44 9 (some 53)) 44 10 (some 54)) 44 11 (some 55)) 44 12 (some 56)) 44 15 (some 57)) 44 16 (some 58)) 44 17 (some 59)) 44 18 (some 60)) 44 19 (some 61)) 44 21 (some 62)) 44 22 (some 63)) 44 23 (some 64)) 44 24 (some 65)) 44 26 (some 66)) 44 27 (some 67)) 44 28 (some 68)) 44 29 (some 69)) 44 30 (some 70)) 44 31 (some 71)) 44 32 (some 72)) 44 33 (some 73)) 44 34 (some 74)) 44 37 (some 75)) 44 38 (some 76)) 44 39 (some 77)) 44 40 (some 78)) 44 41 (some 79)) 44 42 (some 80)) 44 46 (some 81)) 44 47 (some 82)) 44 48 (some 83))
  refine aw_putRF hC dX12_init_329 aF_X12_135 rfl rfl rfl rfl rfl ?_
  refine aw_aload_n hC dX12_init_332 rfl ?_
  refine aw_bipush (v := 30) hC dX12_init_333 (by decide) ?_
  refine aw_newarrayI (N := 30) hC dX12_init_335 gA_int rfl (by decide) a_le a_le ?_
  rw [show (a_tags.take 85).length = 85 from rfl, show a_tags.take 85 ++ [.inl (.int, 30)] = a_tags.take 86 from rfl]
  show AW X (((((((((((((((((((((((((((((((((((((((((0 + 1) + 1) + 1) + 1) + 1) + 1) + 1) + 1) + 1) + 1) + 1) + 1) + 1) + 1) + 1) + 1) + 1) + 1) + 1) + 1) + 1) + 1) + 1) + 1) + 1) + 1) + 1) + 1) + 1) + 1) + 1) + 1) + 1) + 1) + 1) + 1) + 1) + 1) + 1) + 1) + 1) (((((((((((((((((((((((((((((((((((((((((0 + 30) + 30) + 30) + 30) + 30) + 30) + 30) + 30) + 3) + 6) + 10) + 60) + 24) + 9) + 3) + 3) + 3) + 4) + 4) + 32) + 12) + 60) + 180) + 60) + 64) + 192) + 64) + 64) + 192) + 64) + 40) + 40) + 40) + 40) + 40) + 5120) + 64) + 64) + 9) + 30) + 30) 337 [some (.ref 44), none] [.ref 85, .ref 44] (a_tags.take 86) (a_u (a_u I 44 43 (-1)) 44 45 (-1)) J (a_u (a_u (a_u (a_u (a_u (a_u (a_u (a_u (a_u (a_u (a_u (a_u (a_u (a_u (a_u (a_u (a_u (a_u (a_u (a_u (a_u (a_u (a_u (a_u (a_u (a_u (a_u (a_u (a_u (a_u (a_u (a_u (a_u (a_u (a_u (a_u (a_u (a_u (a_u (a_u R 44 1 (some 45)) 44 2 (some 46)) 44 3 (some 47)) 44 4 (some 48)) 44 5 (some 49)) 44 6 (some 50)) 44 7 (some 51)) 44 8 (some 52)) 44 9 (some 53)) 44 10 (some 54)) 44 11 (some 55)) 44 12 (some 56)) 44 15 (some 57)) 44 16 (some 58)) 44 17 (some 59)) 44 18 (some 60)) 44 19 (some 61)) 44 21 (some 62)) 44 22 (some 63)) 44 23 (some 64)) 44 24 (some 65)) 44 26 (some 66)) 44 27 (some 67)) 44 28 (some 68)) 44 29 (some 69)) 44 30 (some 70)) 44 31 (some 71)) 44 32 (some 72)) 44 33 (some 73)) 44 34 (some 74)) 44 37 (some 75)) 44 38 (some 76)) 44 39 (some 77)) 44 40 (some 78)) 44 41 (some 79)) 44 42 (some 80)) 44 46 (some 81)) 44 47 (some 82)) 44 48 (some 83)) 44 49 (some 84))
  refine aw_putRF hC dX12_init_337 aF_X12_138 rfl rfl rfl rfl rfl ?_
  refine aw_aload_n hC dX12_init_340 rfl ?_
  refine aw_bipush (v := 30) hC dX12_init_341 (by decide) ?_
  refine aw_newarrayI (N := 30) hC dX12_init_343 gA_int rfl (by decide) a_le a_le ?_
  rw [show (a_tags.take 86).length = 86 from rfl, show a_tags.take 86 ++ [.inl (.int, 30)] = a_tags.take 87 from rfl]
  show AW X ((((((((((((((((((((((((((((((((((((((((((0 + 1) + 1) + 1) + 1) + 1) + 1) + 1) + 1) + 1) + 1) + 1) + 1) + 1) + 1) + 1) + 1) + 1) + 1) + 1) + 1) + 1) + 1) + 1) + 1) + 1) + 1) + 1) + 1) + 1) + 1) + 1) + 1) + 1) + 1) + 1) + 1) + 1) + 1) + 1) + 1) + 1) + 1) ((((((((((((((((((((((((((((((((((((((((((0 + 30) + 30) + 30) + 30) + 30) + 30) + 30) + 30) + 3) + 6) + 10) + 60) + 24) + 9) + 3) + 3) + 3) + 4) + 4) + 32) + 12) + 60) + 180) + 60) + 64) + 192) + 64) + 64) + 192) + 64) + 40) + 40) + 40) + 40) + 40) + 5120) + 64) + 64) + 9) + 30) + 30) + 30) 345 [some (.ref 44), none] [.ref 86, .ref 44] (a_tags.take 87) (a_u (a_u I 44 43 (-1)) 44 45 (-1)) J (a_u (a_u (a_u (a_u (a_u (a_u (a_u (a_u (a_u (a_u (a_u (a_u (a_u (a_u (a_u (a_u (a_u (a_u (a_u (a_u (a_u (a_u (a_u (a_u (a_u (a_u (a_u (a_u (a_u (a_u (a_u (a_u (a_u (a_u (a_u (a_u (a_u (a_u (a_u (a_u (a_u R 44 1 (some 45)) 44 2 (some 46)) 44 3 (some 47)) 44 4 (some 48)) 44 5 (some 49)) 44 6 (some 50)) 44 7 (some 51)) 44 8 (some 52)) 44 9 (some 53)) 44 10 (some 54)) 44 11 (some 55)) 44 12 (some 56)) 44 15 (some 57)) 44 16 (some 58)) 44 17 (some 59)) 44 18 (some 60)) 44 19 (some 61)) 44 21 (some 62)) 44 22 (some 63)) 44 23 (some 64)) 44 24 (some 65)) 44 26 (some 66)) 44 27 (some 67)) 44 28 (some 68)) 44 29 (some 69)) 44 30 (some 70)) 44 31 (some 71)) 44 32 (some 72)) 44 33 (some 73)) 44 34 (some 74)) 44 37 (some 75)) 44 38 (some 76)) 44 39 (some 77)) 44 40 (some 78)) 44 41 (some 79)) 44 42 (some 80)) 44 46 (some 81)) 44 47 (some 82)) 44 48 (some 83)) 44 49 (some 84)) 44 50 (some 85))
  refine aw_putRF hC dX12_init_345 aF_X12_141 rfl rfl rfl rfl rfl ?_
  refine aw_aload_n hC dX12_init_348 rfl ?_
  refine aw_bipush (v := 30) hC dX12_init_349 (by decide) ?_
  refine aw_newarrayZ (N := 30) hC dX12_init_351 gA_boolean rfl (by decide) a_le a_le ?_
  rw [show (a_tags.take 87).length = 87 from rfl, show a_tags.take 87 ++ [.inl (.boolean, 30)] = a_tags.take 88 from rfl]
  show AW X (((((((((((((((((((((((((((((((((((((((((((0 + 1) + 1) + 1) + 1) + 1) + 1) + 1) + 1) + 1) + 1) + 1) + 1) + 1) + 1) + 1) + 1) + 1) + 1) + 1) + 1) + 1) + 1) + 1) + 1) + 1) + 1) + 1) + 1) + 1) + 1) + 1) + 1) + 1) + 1) + 1) + 1) + 1) + 1) + 1) + 1) + 1) + 1) + 1) (((((((((((((((((((((((((((((((((((((((((((0 + 30) + 30) + 30) + 30) + 30) + 30) + 30) + 30) + 3) + 6) + 10) + 60) + 24) + 9) + 3) + 3) + 3) + 4) + 4) + 32) + 12) + 60) + 180) + 60) + 64) + 192) + 64) + 64) + 192) + 64) + 40) + 40) + 40) + 40) + 40) + 5120) + 64) + 64) + 9) + 30) + 30) + 30) + 30) 353 [some (.ref 44), none] [.ref 87, .ref 44] (a_tags.take 88) (a_u (a_u I 44 43 (-1)) 44 45 (-1)) J (a_u (a_u (a_u (a_u (a_u (a_u (a_u (a_u (a_u (a_u (a_u (a_u (a_u (a_u (a_u (a_u (a_u (a_u (a_u (a_u (a_u (a_u (a_u (a_u (a_u (a_u (a_u (a_u (a_u (a_u (a_u (a_u (a_u (a_u (a_u (a_u (a_u (a_u (a_u (a_u (a_u (a_u R 44 1 (some 45)) 44 2 (some 46)) 44 3 (some 47)) 44 4 (some 48)) 44 5 (some 49)) 44 6 (some 50)) 44 7 (some 51)) 44 8 (some 52)) 44 9 (some 53)) 44 10 (some 54)) 44 11 (some 55)) 44 12 (some 56)) 44 15 (some 57)) 44 16 (some 58)) 44 17 (some 59)) 44 18 (some 60)) 44 19 (some 61)) 44 21 (some 62)) 44 22 (some 63)) 44 23 (some 64)) 44 24 (some 65)) 44 26 (some 66)) 44 27 (some 67)) 44 28 (some 68)) 44 29 (some 69)) 44 30 (some 70)) 44 31 (some 71)) 44 32 (some 72)) 44 33 (some 73)) 44 34 (some 74)) 44 37 (some 75)) 44 38 (some 76)) 44 39 (some 77)) 44 40 (some 78)) 44 41 (some 79)) 44 42 (some 80)) 44 46 (some 81)) 44 47 (some 82)) 44 48 (some 83)) 44 49 (some 84)) 44 50 (some 85)) 44 51 (some 86))
  refine aw_putRF hC dX12_init_353 aF_X12_144 rfl rfl rfl rfl rfl ?_
  refine aw_aload_n hC dX12_init_356 rfl ?_
  refine aw_bipush (v := 10) hC dX12_init_357 (by decide) ?_
  refine aw_newarrayJ (N := 10) hC dX12_init_359 gA_long rfl (by decide) a_le a_le ?_
  rw [show (a_tags.take 88).length = 88 from rfl, show a_tags.take 88 ++ [.inl (.long, 10)] = a_tags.take 89 from rfl]
  show AW X ((((((((((((((((((((((((((((((((((((((((((((0 + 1) + 1) + 1) + 1) + 1) + 1) + 1) + 1) + 1) + 1) + 1) + 1) + 1) + 1) + 1) + 1) + 1) + 1) + 1) + 1) + 1) + 1) + 1) + 1) + 1) + 1) + 1) + 1) + 1) + 1) + 1) + 1) + 1) + 1) + 1) + 1) + 1) + 1) + 1) + 1) + 1) + 1) + 1) + 1) ((((((((((((((((((((((((((((((((((((((((((((0 + 30) + 30) + 30) + 30) + 30) + 30) + 30) + 30) + 3) + 6) + 10) + 60) + 24) + 9) + 3) + 3) + 3) + 4) + 4) + 32) + 12) + 60) + 180) + 60) + 64) + 192) + 64) + 64) + 192) + 64) + 40) + 40) + 40) + 40) + 40) + 5120) + 64) + 64) + 9) + 30) + 30) + 30) + 30) + 10) 361 [some (.ref 44), none] [.ref 88, .ref 44] (a_tags.take 89) (a_u (a_u I 44 43 (-1)) 44 45 (-1)) J (a_u (a_u (a_u (a_u (a_u (a_u (a_u (a_u (a_u (a_u (a_u (a_u (a_u (a_u (a_u (a_u (a_u (a_u (a_u (a_u (a_u (a_u (a_u (a_u (a_u (a_u (a_u (a_u (a_u (a_u (a_u (a_u (a_u (a_u (a_u (a_u (a_u (a_u (a_u (a_u (a_u (a_u (a_u R 44 1 (some 45)) 44 2 (some 46)) 44 3 (some 47)) 44 4 (some 48)) 44 5 (some 49)) 44 6 (some 50)) 44 7 (some 51)) 44 8 (some 52)) 44 9 (some 53)) 44 10 (some 54)) 44 11 (some 55)) 44 12 (some 56)) 44 15 (some 57)) 44 16 (some 58)) 44 17 (some 59)) 44 18 (some 60)) 44 19 (some 61)) 44 21 (some 62)) 44 22 (some 63)) 44 23 (some 64)) 44 24 (some 65)) 44 26 (some 66)) 44 27 (some 67)) 44 28 (some 68)) 44 29 (some 69)) 44 30 (some 70)) 44 31 (some 71)) 44 32 (some 72)) 44 33 (some 73)) 44 34 (some 74)) 44 37 (some 75)) 44 38 (some 76)) 44 39 (some 77)) 44 40 (some 78)) 44 41 (some 79)) 44 42 (some 80)) 44 46 (some 81)) 44 47 (some 82)) 44 48 (some 83)) 44 49 (some 84)) 44 50 (some 85)) 44 51 (some 86)) 44 52 (some 87))
  refine aw_putRF hC dX12_init_361 aF_X12_147 rfl rfl rfl rfl rfl ?_
  refine aw_aload_n hC dX12_init_364 rfl ?_
  refine aw_bipush (v := 10) hC dX12_init_365 (by decide) ?_
  refine aw_newarrayJ (N := 10) hC dX12_init_367 gA_long rfl (by decide) a_le a_le ?_
  rw [show (a_tags.take 89).length = 89 from rfl, show a_tags.take 89 ++ [.inl (.long, 10)] = a_tags.take 90 from rfl]
  show AW X (((((((((((((((((((((((((((((((((((((((((((((0 + 1) + 1) + 1) + 1) + 1) + 1) + 1) + 1) + 1) + 1) + 1) + 1) + 1) + 1) + 1) + 1) + 1) + 1) + 1) + 1) + 1) + 1) + 1) + 1) + 1) + 1) + 1) + 1) + 1) + 1) + 1) + 1) + 1) + 1) + 1) + 1) + 1) + 1) + 1) + 1) + 1) + 1) + 1) + 1) + 1) (((((((((((((((((((((((((((((((((((((((((((((0 + 30) + 30) + 30) + 30) + 30) + 30) + 30) + 30) + 3) + 6) + 10) + 60) + 24) + 9) + 3) + 3) + 3) + 4) + 4) + 32) + 12) + 60) + 180) + 60) + 64) + 192) + 64) + 64) + 192) + 64) + 40) + 40) + 40) + 40) + 40) + 5120) + 64) + 64) + 9) + 30) + 30) + 30) + 30) + 10) + 10) 369 [some (.ref 44), none] [.ref 89, .ref 44] (a_tags.take 90) (a_u (a_u I 44 43 (-1)) 44 45 (-1)) J (a_u (a_u (a_u (a_u (a_u (a_u (a_u (a_u (a_u (a_u (a_u (a_u (a_u (a_u (a_u (a_u (a_u (a_u (a_u (a_u (a_u (a_u (a_u (a_u (a_u (a_u (a_u (a_u (a_u (a_u (a_u (a_u (a_u (a_u (a_u (a_u (a_u (a_u (a_u (a_u (a_u (a_u (a_u (a_u R 44 1 (some 45)) 44 2 (some 46)) 44 3 (some 47)) 44 4 (some 48)) 44 5 (some 49)) 44 6 (some 50)) 44 7 (some 51)) 44 8 (some 52)) 44 9 (some 53)) 44 10 (some 54)) 44 11 (some 55)) 44 12 (some 56)) 44 15 (some 57)) 44 16 (some 58)) 44 17 (some 59)) 44 18 (some 60)) 44 19 (some 61)) 44 21 (some 62)) 44 22 (some 63)) 44 23 (some 64)) 44 24 (some 65)) 44 26 (some 66)) 44 27 (some 67)) 44 28 (some 68)) 44 29 (some 69)) 44 30 (some 70)) 44 31 (some 71)) 44 32 (some 72)) 44 33 (some 73)) 44 34 (some 74)) 44 37 (some 75)) 44 38 (some 76)) 44 39 (some 77)) 44 40 (some 78)) 44 41 (some 79)) 44 42 (some 80)) 44 46 (some 81)) 44 47 (some 82)) 44 48 (some 83)) 44 49 (some 84)) 44 50 (some 85)) 44 51 (some 86)) 44 52 (some 87)) 44 54 (some 88))
  refine aw_putRF hC dX12_init_369 aF_X12_151 rfl rfl rfl rfl rfl ?_
  refine aw_aload_n hC dX12_init_372 rfl ?_
  refine aw_bipush (v := 10) hC dX12_init_373 (by decide) ?_
  refine aw_newarrayJ (N := 10) hC dX12_init_375 gA_long rfl (by decide) a_le a_le ?_
  rw [show (a_tags.take 90).length = 90 from rfl, show a_tags.take 90 ++ [.inl (.long, 10)] = a_tags.take 91 from rfl]
  show AW X ((((((((((((((((((((((((((((((((((((((((((((((0 + 1) + 1) + 1) + 1) + 1) + 1) + 1) + 1) + 1) + 1) + 1) + 1) + 1) + 1) + 1) + 1) + 1) + 1) + 1) + 1) + 1) + 1) + 1) + 1) + 1) + 1) + 1) + 1) + 1) + 1) + 1) + 1) + 1) + 1) + 1) + 1) + 1) + 1) + 1) + 1) + 1) + 1) + 1) + 1) + 1) + 1) ((((((((((((((((((((((((((((((((((((((((((((((0 + 30) + 30) + 30) + 30) + 30) + 30) + 30) + 30) + 3) + 6) + 10) + 60) + 24) + 9) + 3) + 3) + 3) + 4) + 4) + 32) + 12) + 60) + 180) + 60) + 64) + 192) + 64) + 64) + 192) + 64) + 40) + 40) + 40) + 40) + 40) + 5120) + 64) + 64) + 9) + 30) + 30) + 30) + 30) + 10) + 10) + 10) 377 [some (.ref 44), none] [.ref 90, .ref 44] (a_tags.take 91) (a_u (a_u I 44 43 (-1)) 44 45 (-1)) J (a_u (a_u (a_u (a_u (a_u (a_u (a_u (a_u (a_u (a_u (a_u (a_u (a_u (a_u (a_u (a_u (a_u (a_u (a_u (a_u (a_u (a_u (a_u (a_u (a_u (a_u (a_u (a_u (a_u (a_u (a_u (a_u (a_u (a_u (a_u (a_u (a_u (a_u (a_u (a_u (a_u (a_u (a_u (a_u (a_u R 44 1 (some 45)) 44 2 (some 46)) 44 3 (some 47)) 44 4 (some 48)) 44 5 (some 49)) 44 6 (some 50)) 44 7 (some 51)) 44 8 (some 52)) 44 9 (some 53)) 44 10 (some 54)) 44 11 (some 55)) 44 12 (some 56)) 44 15 (some 57)) 44 16 (some 58)) 44 17 (some 59)) 44 18 (some 60)) 44 19 (some 61)) 44 21 (some 62)) 44 22 (some 63)) 44 23 (some 64)) 44 24 (some 65)) 44 26 (some 66)) 44 27 (some 67)) 44 28 (some 68)) 44 29 (some 69)) 44 30 (some 70)) 44 31 (some 71)) 44 32 (some 72)) 44 33 (some 73)) 44 34 (some 74)) 44 37 (some 75)) 44 38 (some 76)) 44 39 (some 77)) 44 40 (some 78)) 44 41 (some 79)) 44 42 (some 80)) 44 46 (some 81)) 44 47 (some 82)) 44 48 (some 83)) 44 49 (some 84)) 44 50 (some 85)) 44 51 (some 86)) 44 52 (some 87)) 44 54 (some 88)) 44 55 (some 89))
  refine aw_putRF hC dX12_init_377 aF_X12_154 rfl rfl rfl rfl rfl ?_
  refine aw_aload_n hC dX12_init_380 rfl ?_
  refine aw_bipush (v := 64) hC dX12_init_381 (by decide) ?_
  refine aw_newarrayI (N := 64) hC dX12_init_383 gA_int rfl (by decide) a_le a_le ?_
  rw [show (a_tags.take 91).length = 91 from rfl, show a_tags.take 91 ++ [.inl (.int, 64)] = a_tags.take 92 from rfl]
  show AW X (((((((((((((((((((((((((((((((((((((((((((((((0 + 1) + 1) + 1) + 1) + 1) + 1) + 1) + 1) + 1) + 1) + 1) + 1) + 1) + 1) + 1) + 1) + 1) + 1) + 1) + 1) + 1) + 1) + 1) + 1) + 1) + 1) + 1) + 1) + 1) + 1) + 1) + 1) + 1) + 1) + 1) + 1) + 1) + 1) + 1) + 1) + 1) + 1) + 1) + 1) + 1) + 1) + 1) (((((((((((((((((((((((((((((((((((((((((((((((0 + 30) + 30) + 30) + 30) + 30) + 30) + 30) + 30) + 3) + 6) + 10) + 60) + 24) + 9) + 3) + 3) + 3) + 4) + 4) + 32) + 12) + 60) + 180) + 60) + 64) + 192) + 64) + 64) + 192) + 64) + 40) + 40) + 40) + 40) + 40) + 5120) + 64) + 64) + 9) + 30) + 30) + 30) + 30) + 10) + 10) + 10) + 64) 385 [some (.ref 44), none] [.ref 91, .ref 44] (a_tags.take 92) (a_u (a_u I 44 43 (-1)) 44 45 (-1)) J (a_u (a_u (a_u (a_u (a_u (a_u (a_u (a_u (a_u (a_u (a_u (a_u (a_u (a_u (a_u (a_u (a_u (a_u (a_u (a_u (a_u (a_u (a_u (a_u (a_u (a_u (a_u (a_u (a_u (a_u (a_u (a_u (a_u (a_u (a_u (a_u (a_u (a_u (a_u (a_u (a_u (a_u (a_u (a_u (a_u (a_u R 44 1 (some 45)) 44 2 (some 46)) 44 3 (some 47)) 44 4 (some 48)) 44 5 (some 49)) 44 6 (some 50)) 44 7 (some 51)) 44 8 (some 52)) 44 9 (some 53)) 44 10 (some 54)) 44 11 (some 55)) 44 12 (some 56)) 44 15 (some 57)) 44 16 (some 58)) 44 17 (some 59)) 44 18 (some 60)) 44 19 (some 61)) 44 21 (some 62)) 44 22 (some 63)) 44 23 (some 64)) 44 24 (some 65)) 44 26 (some 66)) 44 27 (some 67)) 44 28 (some 68)) 44 29 (some 69)) 44 30 (some 70)) 44 31 (some 71)) 44 32 (some 72)) 44 33 (some 73)) 44 34 (some 74)) 44 37 (some 75)) 44 38 (some 76)) 44 39 (some 77)) 44 40 (some 78)) 44 41 (some 79)) 44 42 (some 80)) 44 46 (some 81)) 44 47 (some 82)) 44 48 (some 83)) 44 49 (some 84)) 44 50 (some 85)) 44 51 (some 86)) 44 52 (some 87)) 44 54 (some 88)) 44 55 (some 89)) 44 56 (some 90))
  refine aw_putRF hC dX12_init_385 aF_X12_157 rfl rfl rfl rfl rfl ?_
  refine aw_aload_n hC dX12_init_388 rfl ?_
  refine aw_sipush (v := 128) hC dX12_init_389 (by decide) ?_
  refine aw_newarrayI (N := 128) hC dX12_init_392 gA_int rfl (by decide) a_le a_le ?_
  rw [show (a_tags.take 92).length = 92 from rfl, show a_tags.take 92 ++ [.inl (.int, 128)] = a_tags.take 93 from rfl]
  show AW X ((((((((((((((((((((((((((((((((((((((((((((((((0 + 1) + 1) + 1) + 1) + 1) + 1) + 1) + 1) + 1) + 1) + 1) + 1) + 1) + 1) + 1) + 1) + 1) + 1) + 1) + 1) + 1) + 1) + 1) + 1) + 1) + 1) + 1) + 1) + 1) + 1) + 1) + 1) + 1) + 1) + 1) + 1) + 1) + 1) + 1) + 1) + 1) + 1) + 1) + 1) + 1) + 1) + 1) + 1) ((((((((((((((((((((((((((((((((((((((((((((((((0 + 30) + 30) + 30) + 30) + 30) + 30) + 30) + 30) + 3) + 6) + 10) + 60) + 24) + 9) + 3) + 3) + 3) + 4) + 4) + 32) + 12) + 60) + 180) + 60) + 64) + 192) + 64) + 64) + 192) + 64) + 40) + 40) + 40) + 40) + 40) + 5120) + 64) + 64) + 9) + 30) + 30) + 30) + 30) + 10) + 10) + 10) + 64) + 128) 394 [some (.ref 44), none] [.ref 92, .ref 44] (a_tags.take 93) (a_u (a_u I 44 43 (-1)) 44 45 (-1)) J (a_u (a_u (a_u (a_u (a_u (a_u (a_u (a_u (a_u (a_u (a_u (a_u (a_u (a_u (a_u (a_u (a_u (a_u (a_u (a_u (a_u (a_u (a_u (a_u (a_u (a_u (a_u (a_u (a_u (a_u (a_u (a_u (a_u (a_u (a_u (a_u (a_u (a_u (a_u (a_u (a_u (a_u (a_u (a_u (a_u (a_u (a_u R 44 1 (some 45)) 44 2 (some 46)) 44 3 (some 47)) 44 4 (some 48)) 44 5 (some 49)) 44 6 (some 50)) 44 7 (some 51)) 44 8 (some 52)) 44 9 (some 53)) 44 10 (some 54)) 44 11 (some 55)) 44 12 (some 56)) 44 15 (some 57)) 44 16 (some 58)) 44 17 (some 59)) 44 18 (some 60)) 44 19 (some 61)) 44 21 (some 62)) 44 22 (some 63)) 44 23 (some 64)) 44 24 (some 65)) 44 26 (some 66)) 44 27 (some 67)) 44 28 (some 68)) 44 29 (some 69)) 44 30 (some 70)) 44 31 (some 71)) 44 32 (some 72)) 44 33 (some 73)) 44 34 (some 74)) 44 37 (some 75)) 44 38 (some 76)) 44 39 (some 77)) 44 40 (some 78)) 44 41 (some 79)) 44 42 (some 80)) 44 46 (some 81)) 44 47 (some 82)) 44 48 (some 83)) 44 49 (some 84)) 44 50 (some 85)) 44 51 (some 86)) 44 52 (some 87)) 44 54 (some 88)) 44 55 (some 89)) 44 56 (some 90)) 44 58 (some 91))
  refine aw_putRF hC dX12_init_394 aF_X12_160 rfl rfl rfl rfl rfl ?_
  refine aw_aload_n hC dX12_init_397 rfl ?_
  refine aw_bipush (v := 30) hC dX12_init_398 (by decide) ?_
  refine aw_newarrayZ (N := 30) hC dX12_init_400 gA_boolean rfl (by decide) a_le a_le ?_
  rw [show (a_tags.take 93).length = 93 from rfl, show a_tags.take 93 ++ [.inl (.boolean, 30)] = a_tags.take 94 from rfl]
  show AW X (((((((((((((((((((((((((((((((((((((((((((((((((0 + 1) + 1) + 1) + 1) + 1) + 1) + 1) + 1) + 1) + 1) + 1) + 1) + 1) + 1) + 1) + 1) + 1) + 1) + 1) + 1) + 1) + 1) + 1) + 1) + 1) + 1) + 1) + 1) + 1) + 1) + 1) + 1) + 1) + 1) + 1) + 1) + 1) + 1) + 1) + 1) + 1) + 1) + 1) + 1) + 1) + 1) + 1) + 1) + 1) (((((((((((((((((((((((((((((((((((((((((((((((((0 + 30) + 30) + 30) + 30) + 30) + 30) + 30) + 30) + 3) + 6) + 10) + 60) + 24) + 9) + 3) + 3) + 3) + 4) + 4) + 32) + 12) + 60) + 180) + 60) + 64) + 192) + 64) + 64) + 192) + 64) + 40) + 40) + 40) + 40) + 40) + 5120) + 64) + 64) + 9) + 30) + 30) + 30) + 30) + 10) + 10) + 10) + 64) + 128) + 30) 402 [some (.ref 44), none] [.ref 93, .ref 44] (a_tags.take 94) (a_u (a_u I 44 43 (-1)) 44 45 (-1)) J (a_u (a_u (a_u (a_u (a_u (a_u (a_u (a_u (a_u (a_u (a_u (a_u (a_u (a_u (a_u (a_u (a_u (a_u (a_u (a_u (a_u (a_u (a_u (a_u (a_u (a_u (a_u (a_u (a_u (a_u (a_u (a_u (a_u (a_u (a_u (a_u (a_u (a_u (a_u (a_u (a_u (a_u (a_u (a_u (a_u (a_u (a_u (a_u R 44 1 (some 45)) 44 2 (some 46)) 44 3 (some 47)) 44 4 (some 48)) 44 5 (some 49)) 44 6 (some 50)) 44 7 (some 51)) 44 8 (some 52)) 44 9 (some 53)) 44 10 (some 54)) 44 11 (some 55)) 44 12 (some 56)) 44 15 (some 57)) 44 16 (some 58)) 44 17 (some 59)) 44 18 (some 60)) 44 19 (some 61)) 44 21 (some 62)) 44 22 (some 63)) 44 23 (some 64)) 44 24 (some 65)) 44 26 (some 66)) 44 27 (some 67)) 44 28 (some 68)) 44 29 (some 69)) 44 30 (some 70)) 44 31 (some 71)) 44 32 (some 72)) 44 33 (some 73)) 44 34 (some 74)) 44 37 (some 75)) 44 38 (some 76)) 44 39 (some 77)) 44 40 (some 78)) 44 41 (some 79)) 44 42 (some 80)) 44 46 (some 81)) 44 47 (some 82)) 44 48 (some 83)) 44 49 (some 84)) 44 50 (some 85)) 44 51 (some 86)) 44 52 (some 87)) 44 54 (some 88)) 44 55 (some 89)) 44 56 (some 90)) 44 58 (some 91)) 44 60 (some 92))
  refine aw_putRF hC dX12_init_402 aF_X12_163 rfl rfl rfl rfl rfl ?_
  refine aw_iconst (v := 0) hC dX12_init_405 (by decide) ?_
  refine aw_istore_n (L2 := [some (.ref 44), some (.int 0)]) hC dX12_init_406 rfl (by decide) rfl ?_
  refine aw_iload_n hC dX12_init_407 rfl ?_
  refine aw_bipush (v := 12) hC dX12_init_408 (by decide) ?_
  refine aw_icmp_ge (tgt := 426) hC dX12_init_410 (by decide) (fun h1 => absurd h1 (by decide)) (fun _ => ?_)
  show AW X (((((((((((((((((((((((((((((((((((((((((((((((((0 + 1) + 1) + 1) + 1) + 1) + 1) + 1) + 1) + 1) + 1) + 1) + 1) + 1) + 1) + 1) + 1) + 1) + 1) + 1) + 1) + 1) + 1) + 1) + 1) + 1) + 1) + 1) + 1) + 1) + 1) + 1) + 1) + 1) + 1) + 1) + 1) + 1) + 1) + 1) + 1) + 1) + 1) + 1) + 1) + 1) + 1) + 1) + 1) + 1) (((((((((((((((((((((((((((((((((((((((((((((((((0 + 30) + 30) + 30) + 30) + 30) + 30) + 30) + 30) + 3) + 6) + 10) + 60) + 24) + 9) + 3) + 3) + 3) + 4) + 4) + 32) + 12) + 60) + 180) + 60) + 64) + 192) + 64) + 64) + 192) + 64) + 40) + 40) + 40) + 40) + 40) + 5120) + 64) + 64) + 9) + 30) + 30) + 30) + 30) + 10) + 10) + 10) + 64) + 128) + 30) 413 [some (.ref 44), some (.int 0)] [] (a_tags.take 94) (a_u (a_u I 44 43 (-1)) 44 45 (-1)) J (a_u (a_u (a_u (a_u (a_u (a_u (a_u (a_u (a_u (a_u (a_u (a_u (a_u (a_u (a_u (a_u (a_u (a_u (a_u (a_u (a_u (a_u (a_u (a_u (a_u (a_u (a_u (a_u (a_u (a_u (a_u (a_u (a_u (a_u (a_u (a_u (a_u (a_u (a_u (a_u (a_u (a_u (a_u (a_u (a_u (a_u (a_u (a_u (a_u R 44 1 (some 45)) 44 2 (some 46)) 44 3 (some 47)) 44 4 (some 48)) 44 5 (some 49)) 44 6 (some 50)) 44 7 (some 51)) 44 8 (some 52)) 44 9 (some 53)) 44 10 (some 54)) 44 11 (some 55)) 44 12 (some 56)) 44 15 (some 57)) 44 16 (some 58)) 44 17 (some 59)) 44 18 (some 60)) 44 19 (some 61)) 44 21 (some 62)) 44 22 (some 63)) 44 23 (some 64)) 44 24 (some 65)) 44 26 (some 66)) 44 27 (some 67)) 44 28 (some 68)) 44 29 (some 69)) 44 30 (some 70)) 44 31 (some 71)) 44 32 (some 72)) 44 33 (some 73)) 44 34 (some 74)) 44 37 (some 75)) 44 38 (some 76)) 44 39 (some 77)) 44 40 (some 78)) 44 41 (some 79)) 44 42 (some 80)) 44 46 (some 81)) 44 47 (some 82)) 44 48 (some 83)) 44 49 (some 84)) 44 50 (some 85)) 44 51 (some 86)) 44 52 (some 87)) 44 54 (some 88)) 44 55 (some 89)) 44 56 (some 90)) 44 58 (some 91)) 44 60 (some 92)) 44 62 (some 93))
  refine aw_aload_n hC dX12_init_413 rfl ?_
  refine aw_getR hC dX12_init_414 aF_X12_71 rfl rfl rfl ?_
  refine aw_iload_n hC dX12_init_417 rfl ?_
  refine aw_iconst (v := (-1)) hC dX12_init_418 (by decide) ?_
  refine aw_iastore_k (j := 0) hC dX12_init_419 rfl (by decide) (by unfold vp_in; decide) ?_
  refine aw_iinc (v := 1) (L2 := [some (.ref 44), some (.int 1)]) hC dX12_init_420 rfl (by decide) (by decide) rfl ?_
  refine aw_goto (tgt := 407) hC dX12_init_423 (by decide) ?_
  refine aw_iload_n hC dX12_init_407 rfl ?_
  refine aw_bipush (v := 12) hC dX12_init_408 (by decide) ?_
  refine aw_icmp_ge (tgt := 426) hC dX12_init_410 (by decide) (fun h2 => absurd h2 (by decide)) (fun _ => ?_)
  show AW X (((((((((((((((((((((((((((((((((((((((((((((((((0 + 1) + 1) + 1) + 1) + 1) + 1) + 1) + 1) + 1) + 1) + 1) + 1) + 1) + 1) + 1) + 1) + 1) + 1) + 1) + 1) + 1) + 1) + 1) + 1) + 1) + 1) + 1) + 1) + 1) + 1) + 1) + 1) + 1) + 1) + 1) + 1) + 1) + 1) + 1) + 1) + 1) + 1) + 1) + 1) + 1) + 1) + 1) + 1) + 1) (((((((((((((((((((((((((((((((((((((((((((((((((0 + 30) + 30) + 30) + 30) + 30) + 30) + 30) + 30) + 3) + 6) + 10) + 60) + 24) + 9) + 3) + 3) + 3) + 4) + 4) + 32) + 12) + 60) + 180) + 60) + 64) + 192) + 64) + 64) + 192) + 64) + 40) + 40) + 40) + 40) + 40) + 5120) + 64) + 64) + 9) + 30) + 30) + 30) + 30) + 10) + 10) + 10) + 64) + 128) + 30) 413 [some (.ref 44), some (.int 1)] [] (a_tags.take 94) (a_u (a_u (a_u I 44 43 (-1)) 44 45 (-1)) 65 0 (-1)) J (a_u (a_u (a_u (a_u (a_u (a_u (a_u (a_u (a_u (a_u (a_u (a_u (a_u (a_u (a_u (a_u (a_u (a_u (a_u (a_u (a_u (a_u (a_u (a_u (a_u (a_u (a_u (a_u (a_u (a_u (a_u (a_u (a_u (a_u (a_u (a_u (a_u (a_u (a_u (a_u (a_u (a_u (a_u (a_u (a_u (a_u (a_u (a_u (a_u R 44 1 (some 45)) 44 2 (some 46)) 44 3 (some 47)) 44 4 (some 48)) 44 5 (some 49)) 44 6 (some 50)) 44 7 (some 51)) 44 8 (some 52)) 44 9 (some 53)) 44 10 (some 54)) 44 11 (some 55)) 44 12 (some 56)) 44 15 (some 57)) 44 16 (some 58)) 44 17 (some 59)) 44 18 (some 60)) 44 19 (some 61)) 44 21 (some 62)) 44 22 (some 63)) 44 23 (some 64)) 44 24 (some 65)) 44 26 (some 66)) 44 27 (some 67)) 44 28 (some 68)) 44 29 (some 69)) 44 30 (some 70)) 44 31 (some 71)) 44 32 (some 72)) 44 33 (some 73)) 44 34 (some 74)) 44 37 (some 75)) 44 38 (some 76)) 44 39 (some 77)) 44 40 (some 78)) 44 41 (some 79)) 44 42 (some 80)) 44 46 (some 81)) 44 47 (some 82)) 44 48 (some 83)) 44 49 (some 84)) 44 50 (some 85)) 44 51 (some 86)) 44 52 (some 87)) 44 54 (some 88)) 44 55 (some 89)) 44 56 (some 90)) 44 58 (some 91)) 44 60 (some 92)) 44 62 (some 93))
  refine aw_aload_n hC dX12_init_413 rfl ?_
  refine aw_getR hC dX12_init_414 aF_X12_71 rfl rfl rfl ?_
  refine aw_iload_n hC dX12_init_417 rfl ?_
  refine aw_iconst (v := (-1)) hC dX12_init_418 (by decide) ?_
  refine aw_iastore_k (j := 1) hC dX12_init_419 rfl (by decide) (by unfold vp_in; decide) ?_
  refine aw_iinc (v := 2) (L2 := [some (.ref 44), some (.int 2)]) hC dX12_init_420 rfl (by decide) (by decide) rfl ?_
  refine aw_goto (tgt := 407) hC dX12_init_423 (by decide) ?_
  refine aw_iload_n hC dX12_init_407 rfl ?_
  refine aw_bipush (v := 12) hC dX12_init_408 (by decide) ?_
  refine aw_icmp_ge (tgt := 426) hC dX12_init_410 (by decide) (fun h3 => absurd h3 (by decide)) (fun _ => ?_)
  show AW X (((((((((((((((((((((((((((((((((((((((((((((((((0 + 1) + 1) + 1) + 1) + 1) + 1) + 1) + 1) + 1) + 1) + 1) + 1) + 1) + 1) + 1) + 1) + 1) + 1) + 1) + 1) + 1) + 1) + 1) + 1) + 1) + 1) + 1) + 1) + 1) + 1) + 1) + 1) + 1) + 1) + 1) + 1) + 1) + 1) + 1) + 1) + 1) + 1) + 1) + 1) + 1) + 1) + 1) + 1) + 1) (((((((((((((((((((((((((((((((((((((((((((((((((0 + 30) + 30) + 30) + 30) + 30) + 30) + 30) + 30) + 3) + 6) + 10) + 60) + 24) + 9) + 3) + 3) + 3) + 4) + 4) + 32) + 12) + 60) + 180) + 60) + 64) + 192) + 64) + 64) + 192) + 64) + 40) + 40) + 40) + 40) + 40) + 5120) + 64) + 64) + 9) + 30) + 30) + 30) + 30) + 10) + 10) + 10) + 64) + 128) + 30) 413 [some (.ref 44), some (.int 2)] [] (a_tags.take 94) (a_u (a_u (a_u (a_u I 44 43 (-1)) 44 45 (-1)) 65 0 (-1)) 65 1 (-1)) J (a_u (a_u (a_u (a_u (a_u (a_u (a_u (a_u (a_u (a_u (a_u (a_u (a_u (a_u (a_u (a_u (a_u (a_u (a_u (a_u (a_u (a_u (a_u (a_u (a_u (a_u (a_u (a_u (a_u (a_u (a_u (a_u (a_u (a_u (a_u (a_u (a_u (a_u (a_u (a_u (a_u (a_u (a_u (a_u (a_u (a_u (a_u (a_u (a_u R 44 1 (some 45)) 44 2 (some 46)) 44 3 (some 47)) 44 4 (some 48)) 44 5 (some 49)) 44 6 (some 50)) 44 7 (some 51)) 44 8 (some 52)) 44 9 (some 53)) 44 10 (some 54)) 44 11 (some 55)) 44 12 (some 56)) 44 15 (some 57)) 44 16 (some 58)) 44 17 (some 59)) 44 18 (some 60)) 44 19 (some 61)) 44 21 (some 62)) 44 22 (some 63)) 44 23 (some 64)) 44 24 (some 65)) 44 26 (some 66)) 44 27 (some 67)) 44 28 (some 68)) 44 29 (some 69)) 44 30 (some 70)) 44 31 (some 71)) 44 32 (some 72)) 44 33 (some 73)) 44 34 (some 74)) 44 37 (some 75)) 44 38 (some 76)) 44 39 (some 77)) 44 40 (some 78)) 44 41 (some 79)) 44 42 (some 80)) 44 46 (some 81)) 44 47 (some 82)) 44 48 (some 83)) 44 49 (some 84)) 44 50 (some 85)) 44 51 (some 86)) 44 52 (some 87)) 44 54 (some 88)) 44 55 (some 89)) 44 56 (some 90)) 44 58 (some 91)) 44 60 (some 92)) 44 62 (some 93))
  refine aw_aload_n hC dX12_init_413 rfl ?_
  refine aw_getR hC dX12_init_414 aF_X12_71 rfl rfl rfl ?_
  refine aw_iload_n hC dX12_init_417 rfl ?_
  refine aw_iconst (v := (-1)) hC dX12_init_418 (by decide) ?_
  refine aw_iastore_k (j := 2) hC dX12_init_419 rfl (by decide) (by unfold vp_in; decide) ?_
  refine aw_iinc (v := 3) (L2 := [some (.ref 44), some (.int 3)]) hC dX12_init_420 rfl (by decide) (by decide) rfl ?_
  refine aw_goto (tgt := 407) hC dX12_init_423 (by decide) ?_
  refine aw_iload_n hC dX12_init_407 rfl ?_
  refine aw_bipush (v := 12) hC dX12_init_408 (by decide) ?_
  refine aw_icmp_ge (tgt := 426) hC dX12_init_410 (by decide) (fun h4 => absurd h4 (by decide)) (fun _ => ?_)
  show AW X (((((((((((((((((((((((((((((((((((((((((((((((((0 + 1) + 1) + 1) + 1) + 1) + 1) + 1) + 1) + 1) + 1) + 1) + 1) + 1) + 1) + 1) + 1) + 1) + 1) + 1) + 1) + 1) + 1) + 1) + 1) + 1) + 1) + 1) + 1) + 1) + 1) + 1) + 1) + 1) + 1) + 1) + 1) + 1) + 1) + 1) + 1) + 1) + 1) + 1) + 1) + 1) + 1) + 1) + 1) + 1) (((((((((((((((((((((((((((((((((((((((((((((((((0 + 30) + 30) + 30) + 30) + 30) + 30) + 30) + 30) + 3) + 6) + 10) + 60) + 24) + 9) + 3) + 3) + 3) + 4) + 4) + 32) + 12) + 60) + 180) + 60) + 64) + 192) + 64) + 64) + 192) + 64) + 40) + 40) + 40) + 40) + 40) + 5120) + 64) + 64) + 9) + 30) + 30) + 30) + 30) + 10) + 10) + 10) + 64) + 128) + 30) 413 [some (.ref 44), some (.int 3)] [] (a_tags.take 94) (a_u (a_u (a_u (a_u (a_u I 44 43 (-1)) 44 45 (-1)) 65 0 (-1)) 65 1 (-1)) 65 2 (-1)) J (a_u (a_u (a_u (a_u (a_u (a_u (a_u (a_u (a_u (a_u (a_u (a_u (a_u (a_u (a_u (a_u (a_u (a_u (a_u (a_u (a_u (a_u (a_u (a_u (a_u (a_u (a_u (a_u (a_u (a_u (a_u (a_u (a_u (a_u (a_u (a_u (a_u (a_u (a_u (a_u (a_u (a_u (a_u (a_u (a_u (a_u (a_u (a_u (a_u R 44 1 (some 45)) 44 2 (some 46)) 44 3 (some 47)) 44 4 (some 48)) 44 5 (some 49)) 44 6 (some 50)) 44 7 (some 51)) 44 8 (some 52)) 44 9 (some 53)) 44 10 (some 54)) 44 11 (some 55)) 44 12 (some 56)) 44 15 (some 57)) 44 16 (some 58)) 44 17 (some 59)) 44 18 (some 60)) 44 19 (some 61)) 44 21 (some 62)) 44 22 (some 63)) 44 23 (some 64)) 44 24 (some 65)) 44 26 (some 66)) 44 27 (some 67)) 44 28 (some 68)) 44 29 (some 69)) 44 30 (some 70)) 44 31 (some 71)) 44 32 (some 72)) 44 33 (some 73)) 44 34 (some 74)) 44 37 (some 75)) 44 38 (some 76)) 44 39 (some 77)) 44 40 (some 78)) 44 41 (some 79)) 44 42 (some 80)) 44 46 (some 81)) 44 47 (some 82)) 44 48 (some 83)) 44 49 (some 84)) 44 50 (some 85)) 44 51 (some 86)) 44 52 (some 87)) 44 54 (some 88)) 44 55 (some 89)) 44 56 (some 90)) 44 58 (some 91)) 44 60 (some 92)) 44 62 (some 93))
  refine aw_aload_n hC dX12_init_413 rfl ?_
  refine aw_getR hC dX12_init_414 aF_X12_71 rfl rfl rfl ?_
  refine aw_iload_n hC dX12_init_417 rfl ?_
  refine aw_iconst (v := (-1)) hC dX12_init_418 (by decide) ?_
  refine aw_iastore_k (j := 3) hC dX12_init_419 rfl (by decide) (by unfold vp_in; decide) ?_
  refine aw_iinc (v := 4) (L2 := [some (.ref 44), some (.int 4)]) hC dX12_init_420 rfl (by decide) (by decide) rfl ?_
  refine aw_goto (tgt := 407) hC dX12_init_423 (by decide) ?_
  refine aw_iload_n hC dX12_init_407 rfl ?_
  refine aw_bipush (v := 12) hC dX12_init_408 (by decide) ?_
  refine aw_icmp_ge (tgt := 426) hC dX12_init_410 (by decide) (fun h5 => absurd h5 (by decide)) (fun _ => ?_)
  show AW X (((((((((((((((((((((((((((((((((((((((((((((((((0 + 1) + 1) + 1) + 1) + 1) + 1) + 1) + 1) + 1) + 1) + 1) + 1) + 1) + 1) + 1) + 1) + 1) + 1) + 1) + 1) + 1) + 1) + 1) + 1) + 1) + 1) + 1) + 1) + 1) + 1) + 1) + 1) + 1) + 1) + 1) + 1) + 1) + 1) + 1) + 1) + 1) + 1) + 1) + 1) + 1) + 1) + 1) + 1) + 1) (((((((((((((((((((((((((((((((((((((((((((((((((0 + 30) + 30) + 30) + 30) + 30) + 30) + 30) + 30) + 3) + 6) + 10) + 60) + 24) + 9) + 3) + 3) + 3) + 4) + 4) + 32) + 12) + 60) + 180) + 60) + 64) + 192) + 64) + 64) + 192) + 64) + 40) + 40) + 40) + 40) + 40) + 5120) + 64) + 64) + 9) + 30) + 30) + 30) + 30) + 10) + 10) + 10) + 64) + 128) + 30) 413 [some (.ref 44), some (.int 4)] [] (a_tags.take 94) (a_u (a_u (a_u (a_u (a_u (a_u I 44 43 (-1)) 44 45 (-1)) 65 0 (-1)) 65 1 (-1)) 65 2 (-1)) 65 3 (-1)) J (a_u (a_u (a_u (a_u (a_u (a_u (a_u (a_u (a_u (a_u (a_u (a_u (a_u (a_u (a_u (a_u (a_u (a_u (a_u (a_u (a_u (a_u (a_u (a_u (a_u (a_u (a_u (a_u (a_u (a_u (a_u (a_u (a_u (a_u (a_u (a_u (a_u (a_u (a_u (a_u (a_u (a_u (a_u (a_u (a_u (a_u (a_u (a_u (a_u R 44 1 (some 45)) 44 2 (some 46)) 44 3 (some 47)) 44 4 (some 48)) 44 5 (some 49)) 44 6 (some 50)) 44 7 (some 51)) 44 8 (some 52)) 44 9 (some 53)) 44 10 (some 54)) 44 11 (some 55)) 44 12 (some 56)) 44 15 (some 57)) 44 16 (some 58)) 44 17 (some 59)) 44 18 (some 60)) 44 19 (some 61)) 44 21 (some 62)) 44 22 (some 63)) 44 23 (some 64)) 44 24 (some 65)) 44 26 (some 66)) 44 27 (some 67)) 44 28 (some 68)) 44 29 (some 69)) 44 30 (some 70)) 44 31 (some 71)) 44 32 (some 72)) 44 33 (some 73)) 44 34 (some 74)) 44 37 (some 75)) 44 38 (some 76)) 44 39 (some 77)) 44 40 (some 78)) 44 41 (some 79)) 44 42 (some 80)) 44 46 (some 81)) 44 47 (some 82)) 44 48 (some 83)) 44 49 (some 84)) 44 50 (some 85)) 44 51 (some 86)) 44 52 (some 87)) 44 54 (some 88)) 44 55 (some 89)) 44 56 (some 90)) 44 58 (some 91)) 44 60 (some 92)) 44 62 (some 93))
  refine aw_aload_n hC dX12_init_413 rfl ?_
  refine aw_getR hC dX12_init_414 aF_X12_71 rfl rfl rfl ?_
  refine aw_iload_n hC dX12_init_417 rfl ?_
  refine aw_iconst (v := (-1)) hC dX12_init_418 (by decide) ?_
  refine aw_iastore_k (j := 4) hC dX12_init_419 rfl (by decide) (by unfold vp_in; decide) ?_
  refine aw_iinc (v := 5) (L2 := [some (.ref 44), some (.int 5)]) hC dX12_init_420 rfl (by decide) (by decide) rfl ?_
  refine aw_goto (tgt := 407) hC dX12_init_423 (by decide) ?_
  refine aw_iload_n hC dX12_init_407 rfl ?_
  refine aw_bipush (v := 12) hC dX12_init_408 (by decide) ?_
  refine aw_icmp_ge (tgt := 426) hC dX12_init_410 (by decide) (fun h6 => absurd h6 (by decide)) (fun _ => ?_)
  show AW X (((((((((((((((((((((((((((((((((((((((((((((((((0 + 1) + 1) + 1) + 1) + 1) + 1) + 1) + 1) + 1) + 1) + 1) + 1) + 1) + 1) + 1) + 1) + 1) + 1) + 1) + 1) + 1) + 1) + 1) + 1) + 1) + 1) + 1) + 1) + 1) + 1) + 1) + 1) + 1) + 1) + 1) + 1) + 1) + 1) + 1) + 1) + 1) + 1) + 1) + 1) + 1) + 1) + 1) + 1) + 1) (((((((((((((((((((((((((((((((((((((((((((((((((0 + 30) + 30) + 30) + 30) + 30) + 30) + 30) + 30) + 3) + 6) + 10) + 60) + 24) + 9) + 3) + 3) + 3) + 4) + 4) + 32) + 12) + 60) + 180) + 60) + 64) + 192) + 64) + 64) + 192) + 64) + 40) + 40) + 40) + 40) + 40) + 5120) + 64) + 64) + 9) + 30) + 30) + 30) + 30) + 10) + 10) + 10) + 64) + 128) + 30) 413 [some (.ref 44), some (.int 5)] [] (a_tags.take 94) (a_u (a_u (a_u (a_u (a_u (a_u (a_u I 44 43 (-1)) 44 45 (-1)) 65 0 (-1)) 65 1 (-1)) 65 2 (-1)) 65 3 (-1)) 65 4 (-1)) J (a_u (a_u (a_u (a_u (a_u (a_u (a_u (a_u (a_u (a_u (a_u (a_u (a_u (a_u (a_u (a_u (a_u (a_u (a_u (a_u (a_u (a_u (a_u (a_u (a_u (a_u (a_u (a_u (a_u (a_u (a_u (a_u (a_u (a_u (a_u (a_u (a_u (a_u (a_u (a_u (a_u (a_u (a_u (a_u (a_u (a_u (a_u (a_u (a_u R 44 1 (some 45)) 44 2 (some 46)) 44 3 (some 47)) 44 4 (some 48)) 44 5 (some 49)) 44 6 (some 50)) 44 7 (some 51)) 44 8 (some 52)) 44 9 (some 53)) 44 10 (some 54)) 44 11 (some 55)) 44 12 (some 56)) 44 15 (some 57)) 44 16 (some 58)) 44 17 (some 59)) 44 18 (some 60)) 44 19 (some 61)) 44 21 (some 62)) 44 22 (some 63)) 44 23 (some 64)) 44 24 (some 65)) 44 26 (some 66)) 44 27 (some 67)) 44 28 (some 68)) 44 29 (some 69)) 44 30 (some 70)) 44 31 (some 71)) 44 32 (some 72)) 44 33 (some 73)) 44 34 (some 74)) 44 37 (some 75)) 44 38 (some 76)) 44 39 (some 77)) 44 40 (some 78)) 44 41 (some 79)) 44 42 (some 80)) 44 46 (some 81)) 44 47 (some 82)) 44 48 (some 83)) 44 49 (some 84)) 44 50 (some 85)) 44 51 (some 86)) 44 52 (some 87)) 44 54 (some 88)) 44 55 (some 89)) 44 56 (some 90)) 44 58 (some 91)) 44 60 (some 92)) 44 62 (some 93))
  refine aw_aload_n hC dX12_init_413 rfl ?_
  refine aw_getR hC dX12_init_414 aF_X12_71 rfl rfl rfl ?_
  refine aw_iload_n hC dX12_init_417 rfl ?_
  refine aw_iconst (v := (-1)) hC dX12_init_418 (by decide) ?_
  refine aw_iastore_k (j := 5) hC dX12_init_419 rfl (by decide) (by unfold vp_in; decide) ?_
  refine aw_iinc (v := 6) (L2 := [some (.ref 44), some (.int 6)]) hC dX12_init_420 rfl (by decide) (by decide) rfl ?_
  refine aw_goto (tgt := 407) hC dX12_init_423 (by decide) ?_
  refine aw_iload_n hC dX12_init_407 rfl ?_
  refine aw_bipush (v := 12) hC dX12_init_408 (by decide) ?_
  refine aw_icmp_ge (tgt := 426) hC dX12_init_410 (by decide) (fun h7 => absurd h7 (by decide)) (fun _ => ?_)
  show AW X (((((((((((((((((((((((((((((((((((((((((((((((((0 + 1) + 1) + 1) + 1) + 1) + 1) + 1) + 1) + 1) + 1) + 1) + 1) + 1) + 1) + 1) + 1) + 1) + 1) + 1) + 1) + 1) + 1) + 1) + 1) + 1) + 1) + 1) + 1) + 1) + 1) + 1) + 1) + 1) + 1) + 1) + 1) + 1) + 1) + 1) + 1) + 1) + 1) + 1) + 1) + 1) + 1) + 1) + 1) + 1) (((((((((((((((((((((((((((((((((((((((((((((((((0 + 30) + 30) + 30) + 30) + 30) + 30) + 30) + 30) + 3) + 6) + 10) + 60) + 24) + 9) + 3) + 3) + 3) + 4) + 4) + 32) + 12) + 60) + 180) + 60) + 64) + 192) + 64) + 64) + 192) + 64) + 40) + 40) + 40) + 40) + 40) + 5120) + 64) + 64) + 9) + 30) + 30) + 30) + 30) + 10) + 10) + 10) + 64) + 128) + 30) 413 [some (.ref 44), some (.int 6)] [] (a_tags.take 94) (a_u (a_u (a_u (a_u (a_u (a_u (a_u (a_u I 44 43 (-1)) 44 45 (-1)) 65 0 (-1)) 65 1 (-1)) 65 2 (-1)) 65 3 (-1)) 65 4 (-1)) 65 5 (-1)) J (a_u (a_u (a_u (a_u (a_u (a_u (a_u (a_u (a_u (a_u (a_u (a_u (a_u (a_u (a_u (a_u (a_u (a_u (a_u (a_u (a_u (a_u (a_u (a_u (a_u (a_u (a_u (a_u (a_u (a_u (a_u (a_u (a_u (a_u (a_u (a_u (a_u (a_u (a_u (a_u (a_u (a_u (a_u (a_u (a_u (a_u (a_u (a_u (a_u R 44 1 (some 45)) 44 2 (some 46)) 44 3 (some 47)) 44 4 (some 48)) 44 5 (some 49)) 44 6 (some 50)) 44 7 (some 51)) 44 8 (some 52)) 44 9 (some 53)) 44 10 (some 54)) 44 11 (some 55)) 44 12 (some 56)) 44 15 (some 57)) 44 16 (some 58)) 44 17 (some 59)) 44 18 (some 60)) 44 19 (some 61)) 44 21 (some 62)) 44 22 (some 63)) 44 23 (some 64)) 44 24 (some 65)) 44 26 (some 66)) 44 27 (some 67)) 44 28 (some 68)) 44 29 (some 69)) 44 30 (some 70)) 44 31 (some 71)) 44 32 (some 72)) 44 33 (some 73)) 44 34 (some 74)) 44 37 (some 75)) 44 38 (some 76)) 44 39 (some 77)) 44 40 (some 78)) 44 41 (some 79)) 44 42 (some 80)) 44 46 (some 81)) 44 47 (some 82)) 44 48 (some 83)) 44 49 (some 84)) 44 50 (some 85)) 44 51 (some 86)) 44 52 (some 87)) 44 54 (some 88)) 44 55 (some 89)) 44 56 (some 90)) 44 58 (some 91)) 44 60 (some 92)) 44 62 (some 93))
  refine aw_aload_n hC dX12_init_413 rfl ?_
  refine aw_getR hC dX12_init_414 aF_X12_71 rfl rfl rfl ?_
  refine aw_iload_n hC dX12_init_417 rfl ?_
  refine aw_iconst (v := (-1)) hC dX12_init_418 (by decide) ?_
  refine aw_iastore_k (j := 6) hC dX12_init_419 rfl (by decide) (by unfold vp_in; decide) ?_
  refine aw_iinc (v := 7) (L2 := [some (.ref 44), some (.int 7)]) hC dX12_init_420 rfl (by decide) (by decide) rfl ?_
  refine aw_goto (tgt := 407) hC dX12_init_423 (by decide) ?_
  refine aw_iload_n hC dX12_init_407 rfl ?_
  refine aw_bipush (v := 12) hC dX12_init_408 (by decide) ?_
  refine aw_icmp_ge (tgt := 426) hC dX12_init_410 (by decide) (fun h8 => absurd h8 (by decide)) (fun _ => ?_)
  show AW X (((((((((((((((((((((((((((((((((((((((((((((((((0 + 1) + 1) + 1) + 1) + 1) + 1) + 1) + 1) + 1) + 1) + 1) + 1) + 1) + 1) + 1) + 1) + 1) + 1) + 1) + 1) + 1) + 1) + 1) + 1) + 1) + 1) + 1) + 1) + 1) + 1) + 1) + 1) + 1) + 1) + 1) + 1) + 1) + 1) + 1) + 1) + 1) + 1) + 1) + 1) + 1) + 1) + 1) + 1) + 1) (((((((((((((((((((((((((((((((((((((((((((((((((0 + 30) + 30) + 30) + 30) + 30) + 30) + 30) + 30) + 3) + 6) + 10) + 60) + 24) + 9) + 3) + 3) + 3) + 4) + 4) + 32) + 12) + 60) + 180) + 60) + 64) + 192) + 64) + 64) + 192) + 64) + 40) + 40) + 40) + 40) + 40) + 5120) + 64) + 64) + 9) + 30) + 30) + 30) + 30) + 10) + 10) + 10) + 64) + 128) + 30) 413 [some (.ref 44), some (.int 7)] [] (a_tags.take 94) (a_u (a_u (a_u (a_u (a_u (a_u (a_u (a_u (a_u I 44 43 (-1)) 44 45 (-1)) 65 0 (-1)) 65 1 (-1)) 65 2 (-1)) 65 3 (-1)) 65 4 (-1)) 65 5 (-1)) 65 6 (-1)) J (a_u (a_u (a_u (a_u (a_u (a_u (a_u (a_u (a_u (a_u (a_u (a_u (a_u (a_u (a_u (a_u (a_u (a_u (a_u (a_u (a_u (a_u (a_u (a_u (a_u (a_u (a_u (a_u (a_u (a_u (a_u (a_u (a_u (a_u (a_u (a_u (a_u (a_u (a_u (a_u (a_u (a_u (a_u (a_u (a_u (a_u (a_u (a_u (a_u R 44 1 (some 45)) 44 2 (some 46)) 44 3 (some 47)) 44 4 (some 48)) 44 5 (some 49)) 44 6 (some 50)) 44 7 (some 51)) 44 8 (some 52)) 44 9 (some 53)) 44 10 (some 54)) 44 11 (some 55)) 44 12 (some 56)) 44 15 (some 57)) 44 16 (some 58)) 44 17 (some 59)) 44 18 (some 60)) 44 19 (some 61)) 44 21 (some 62)) 44 22 (some 63)) 44 23 (some 64)) 44 24 (some 65)) 44 26 (some 66)) 44 27 (some 67)) 44 28 (some 68)) 44 29 (some 69)) 44 30 (some 70)) 44 31 (some 71)) 44 32 (some 72)) 44 33 (some 73)) 44 34 (some 74)) 44 37 (some 75)) 44 38 (some 76)) 44 39 (some 77)) 44 40 (some 78)) 44 41 (some 79)) 44 42 (some 80)) 44 46 (some 81)) 44 47 (some 82)) 44 48 (some 83)) 44 49 (some 84)) 44 50 (some 85)) 44 51 (some 86)) 44 52 (some 87)) 44 54 (some 88)) 44 55 (some 89)) 44 56 (some 90)) 44 58 (some 91)) 44 60 (some 92)) 44 62 (some 93))
  refine aw_aload_n hC dX12_init_413 rfl ?_
  refine aw_getR hC dX12_init_414 aF_X12_71 rfl rfl rfl ?_
  refine aw_iload_n hC dX12_init_417 rfl ?_
  refine aw_iconst (v := (-1)) hC dX12_init_418 (by decide) ?_
  refine aw_iastore_k (j := 7) hC dX12_init_419 rfl (by decide) (by unfold vp_in; decide) ?_
  refine aw_iinc (v := 8) (L2 := [some (.ref 44), some (.int 8)]) hC dX12_init_420 rfl (by decide) (by decide) rfl ?_
  refine aw_goto (tgt := 407) hC dX12_init_423 (by decide) ?_
  refine aw_iload_n hC dX12_init_407 rfl ?_
  refine aw_bipush (v := 12) hC dX12_init_408 (by decide) ?_
  refine aw_icmp_ge (tgt := 426) hC dX12_init_410 (by decide) (fun h9 => absurd h9 (by decide)) (fun _ => ?_)
  show AW X (((((((((((((((((((((((((((((((((((((((((((((((((0 + 1) + 1) + 1) + 1) + 1) + 1) + 1) + 1) + 1) + 1) + 1) + 1) + 1) + 1) + 1) + 1) + 1) + 1) + 1) + 1) + 1) + 1) + 1) + 1) + 1) + 1) + 1) + 1) + 1) + 1) + 1) + 1) + 1) + 1) + 1) + 1) + 1) + 1) + 1) + 1) + 1) + 1) + 1) + 1) + 1) + 1) + 1) + 1) + 1) (((((((((((((((((((((((((((((((((((((((((((((((((0 + 30) + 30) + 30) + 30) + 30) + 30) + 30) + 30) + 3) + 6) + 10) + 60) + 24) + 9) + 3) + 3) + 3) + 4) + 4) + 32) + 12) + 60) + 180) + 60) + 64) + 192) + 64) + 64) + 192) + 64) + 40) + 40) + 40) + 40) + 40) + 5120) + 64) + 64) + 9) + 30) + 30) + 30) + 30) + 10) + 10) + 10) + 64) + 128) + 30) 413 [some (.ref 44), some (.int 8)] [] (a_tags.take 94) (a_u (a_u (a_u (a_u (a_u (a_u (a_u (a_u (a_u (a_u I 44 43 (-1)) 44 45 (-1)) 65 0 (-1)) 65 1 (-1)) 65 2 (-1)) 65 3 (-1)) 65 4 (-1)) 65 5 (-1)) 65 6 (-1)) 65 7 (-1)) J (a_u (a_u (a_u (a_u (a_u (a_u (a_u (a_u (a_u (a_u (a_u (a_u (a_u (a_u (a_u (a_u (a_u (a_u (a_u (a_u (a_u (a_u (a_u (a_u (a_u (a_u (a_u (a_u (a_u (a_u (a_u (a_u (a_u (a_u (a_u (a_u (a_u (a_u (a_u (a_u (a_u (a_u (a_u (a_u (a_u (a_u (a_u (a_u (a_u R 44 1 (some 45)) 44 2 (some 46)) 44 3 (some 47)) 44 4 (some 48)) 44 5 (some 49)) 44 6 (some 50)) 44 7 (some 51)) 44 8 (some 52)) 44 9 (some 53)) 44 10 (some 54)) 44 11 (some 55)) 44 12 (some 56)) 44 15 (some 57)) 44 16 (some 58)) 44 17 (some 59)) 44 18 (some 60)) 44 19 (some 61)) 44 21 (some 62)) 44 22 (some 63)) 44 23 (some 64)) 44 24 (some 65)) 44 26 (some 66)) 44 27 (some 67)) 44 28 (some 68)) 44 29 (some 69)) 44 30 (some 70)) 44 31 (some 71)) 44 32 (some 72)) 44 33 (some 73)) 44 34 (some 74)) 44 37 (some 75)) 44 38 (some 76)) 44 39 (some 77)) 44 40 (some 78)) 44 41 (some 79)) 44 42 (some 80)) 44 46 (some 81)) 44 47 (some 82)) 44 48 (some 83)) 44 49 (some 84)) 44 50 (some 85)) 44 51 (some 86)) 44 52 (some 87)) 44 54 (some 88)) 44 55 (some 89)) 44 56 (some 90)) 44 58 (some 91)) 44 60 (some 92)) 44 62 (some 93))
  refine aw_aload_n hC dX12_init_413 rfl ?_
  refine aw_getR hC dX12_init_414 aF_X12_71 rfl rfl rfl ?_
  refine aw_iload_n hC dX12_init_417 rfl ?_
  refine aw_iconst (v := (-1)) hC dX12_init_418 (by decide) ?_
  refine aw_iastore_k (j := 8) hC dX12_init_419 rfl (by decide) (by unfold vp_in; decide) ?_
  refine aw_iinc (v := 9) (L2 := [some (.ref 44), some (.int 9)]) hC dX12_init_420 rfl (by decide) (by decide) rfl ?_
  refine aw_goto (tgt := 407) hC dX12_init_423 (by decide) ?_
  refine aw_iload_n hC dX12_init_407 rfl ?_
  refine aw_bipush (v := 12) hC dX12_init_408 (by decide) ?_
  refine aw_icmp_ge (tgt := 426) hC dX12_init_410 (by decide) (fun h10 => absurd h10 (by decide)) (fun _ => ?_)
  show AW X (((((((((((((((((((((((((((((((((((((((((((((((((0 + 1) + 1) + 1) + 1) + 1) + 1) + 1) + 1) + 1) + 1) + 1) + 1) + 1) + 1) + 1) + 1) + 1) + 1) + 1) + 1) + 1) + 1) + 1) + 1) + 1) + 1) + 1) + 1) + 1) + 1) + 1) + 1) + 1) + 1) + 1) + 1) + 1) + 1) + 1) + 1) + 1) + 1) + 1) + 1) + 1) + 1) + 1) + 1) + 1) (((((((((((((((((((((((((((((((((((((((((((((((((0 + 30) + 30) + 30) + 30) + 30) + 30) + 30) + 30) + 3) + 6) + 10) + 60) + 24) + 9) + 3) + 3) + 3) + 4) + 4) + 32) + 12) + 60) + 180) + 60) + 64) + 192) + 64) + 64) + 192) + 64) + 40) + 40) + 40) + 40) + 40) + 5120) + 64) + 64) + 9) + 30) + 30) + 30) + 30) + 10) + 10) + 10) + 64) + 128) + 30) 413 [some (.ref 44), some (.int 9)] [] (a_tags.take 94) (a_u (a_u (a_u (a_u (a_u (a_u (a_u (a_u (a_u (a_u (a_u I 44 43 (-1)) 44 45 (-1)) 65 0 (-1)) 65 1 (-1)) 65 2 (-1)) 65 3 (-1)) 65 4 (-1)) 65 5 (-1)) 65 6 (-1)) 65 7 (-1)) 65 8 (-1)) J (a_u (a_u (a_u (a_u (a_u (a_u (a_u (a_u (a_u (a_u (a_u (a_u (a_u (a_u (a_u (a_u (a_u (a_u (a_u (a_u (a_u (a_u (a_u (a_u (a_u (a_u (a_u (a_u (a_u (a_u (a_u (a_u (a_u (a_u (a_u (a_u (a_u (a_u (a_u (a_u (a_u (a_u (a_u (a_u (a_u (a_u (a_u (a_u (a_u R 44 1 (some 45)) 44 2 (some 46)) 44 3 (some 47)) 44 4 (some 48)) 44 5 (some 49)) 44 6 (some 50)) 44 7 (some 51)) 44 8 (some 52)) 44 9 (some 53)) 44 10 (some 54)) 44 11 (some 55)) 44 12 (some 56)) 44 15 (some 57)) 44 16 (some 58)) 44 17 (some 59)) 44 18 (some 60)) 44 19 (some 61)) 44 21 (some 62)) 44 22 (some 63)) 44 23 (some 64)) 44 24 (some 65)) 44 26 (some 66)) 44 27 (some 67)) 44 28 (some 68)) 44 29 (some 69)) 44 30 (some 70)) 44 31 (some 71)) 44 32 (some 72)) 44 33 (some 73)) 44 34 (some 74)) 44 37 (some 75)) 44 38 (some 76)) 44 39 (some 77)) 44 40 (some 78)) 44 41 (some 79)) 44 42 (some 80)) 44 46 (some 81)) 44 47 (some 82)) 44 48 (some 83)) 44 49 (some 84)) 44 50 (some 85)) 44 51 (some 86)) 44 52 (some 87)) 44 54 (some 88)) 44 55 (some 89)) 44 56 (some 90)) 44 58 (some 91)) 44 60 (some 92)) 44 62 (some 93))
  refine aw_aload_n hC dX12_init_413 rfl ?_
  refine aw_getR hC dX12_init_414 aF_X12_71 rfl rfl rfl ?_
  refine aw_iload_n hC dX12_init_417 rfl ?_
  refine aw_iconst (v := (-1)) hC dX12_init_418 (by decide) ?_
  refine aw_iastore_k (j := 9) hC dX12_init_419 rfl (by decide) (by unfold vp_in; decide) ?_
  refine aw_iinc (v := 10) (L2 := [some (.ref 44), some (.int 10)]) hC dX12_init_420 rfl (by decide) (by decide) rfl ?_
  refine aw_goto (tgt := 407) hC dX12_init_423 (by decide) ?_
  refine aw_iload_n hC dX12_init_407 rfl ?_
  refine aw_bipush (v := 12) hC dX12_init_408 (by decide) ?_
  refine aw_icmp_ge (tgt := 426) hC dX12_init_410 (by decide) (fun h11 => absurd h11 (by decide)) (fun _ => ?_)
  show AW X (((((((((((((((((((((((((((((((((((((((((((((((((0 + 1) + 1) + 1) + 1) + 1) + 1) + 1) + 1) + 1) + 1) + 1) + 1) + 1) + 1) + 1) + 1) + 1) + 1) + 1) + 1) + 1) + 1) + 1) + 1) + 1) + 1) + 1) + 1) + 1) + 1) + 1) + 1) + 1) + 1) + 1) + 1) + 1) + 1) + 1) + 1) + 1) + 1) + 1) + 1) + 1) + 1) + 1) + 1) + 1) (((((((((((((((((((((((((((((((((((((((((((((((((0 + 30) + 30) + 30) + 30) + 30) + 30) + 30) + 30) + 3) + 6) + 10) + 60) + 24) + 9) + 3) + 3) + 3) + 4) + 4) + 32) + 12) + 60) + 180) + 60) + 64) + 192) + 64) + 64) + 192) + 64) + 40) + 40) + 40) + 40) + 40) + 5120) + 64) + 64) + 9) + 30) + 30) + 30) + 30) + 10) + 10) + 10) + 64) + 128) + 30) 413 [some (.ref 44), some (.int 10)] [] (a_tags.take 94) (a_u (a_u (a_u (a_u (a_u (a_u (a_u (a_u (a_u (a_u (a_u (a_u I 44 43 (-1)) 44 45 (-1)) 65 0 (-1)) 65 1 (-1)) 65 2 (-1)) 65 3 (-1)) 65 4 (-1)) 65 5 (-1)) 65 6 (-1)) 65 7 (-1)) 65 8 (-1)) 65 9 (-1)) J (a_u (a_u (a_u (a_u (a_u (a_u (a_u (a_u (a_u (a_u (a_u (a_u (a_u (a_u (a_u (a_u (a_u (a_u (a_u (a_u (a_u (a_u (a_u (a_u (a_u (a_u (a_u (a_u (a_u (a_u (a_u (a_u (a_u (a_u (a_u (a_u (a_u (a_u (a_u (a_u (a_u (a_u (a_u (a_u (a_u (a_u (a_u (a_u (a_u R 44 1 (some 45)) 44 2 (some 46)) 44 3 (some 47)) 44 4 (some 48)) 44 5 (some 49)) 44 6 (some 50)) 44 7 (some 51)) 44 8 (some 52)) 44 9 (some 53)) 44 10 (some 54)) 44 11 (some 55)) 44 12 (some 56)) 44 15 (some 57)) 44 16 (some 58)) 44 17 (some 59)) 44 18 (some 60)) 44 19 (some 61)) 44 21 (some 62)) 44 22 (some 63)) 44 23 (some 64)) 44 24 (some 65)) 44 26 (some 66)) 44 27 (some 67)) 44 28 (some 68)) 44 29 (some 69)) 44 30 (some 70)) 44 31 (some 71)) 44 32 (some 72)) 44 33 (some 73)) 44 34 (some 74)) 44 37 (some 75)) 44 38 (some 76)) 44 39 (some 77)) 44 40 (some 78)) 44 41 (some 79)) 44 42 (some 80)) 44 46 (some 81)) 44 47 (some 82)) 44 48 (some 83)) 44 49 (some 84)) 44 50 (some 85)) 44 51 (some 86)) 44 52 (some 87)) 44 54 (some 88)) 44 55 (some 89)) 44 56 (some 90)) 44 58 (some 91)) 44 60 (some 92)) 44 62 (some 93))
  refine aw_aload_n hC dX12_init_413 rfl ?_
  refine aw_getR hC dX12_init_414 aF_X12_71 rfl rfl rfl ?_
  refine aw_iload_n hC dX12_init_417 rfl ?_
  refine aw_iconst (v := (-1)) hC dX12_init_418 (by decide) ?_
  refine aw_iastore_k (j := 10) hC dX12_init_419 rfl (by decide) (by unfold vp_in; decide) ?_
  refine aw_iinc (v := 11) (L2 := [some (.ref 44), some (.int 11)]) hC dX12_init_420 rfl (by decide) (by decide) rfl ?_
  refine aw_goto (tgt := 407) hC dX12_init_423 (by decide) ?_
  refine aw_iload_n hC dX12_init_407 rfl ?_
  refine aw_bipush (v := 12) hC dX12_init_408 (by decide) ?_
  refine aw_icmp_ge (tgt := 426) hC dX12_init_410 (by decide) (fun h12 => absurd h12 (by decide)) (fun _ => ?_)
  show AW X (((((((((((((((((((((((((((((((((((((((((((((((((0 + 1) + 1) + 1) + 1) + 1) + 1) + 1) + 1) + 1) + 1) + 1) + 1) + 1) + 1) + 1) + 1) + 1) + 1) + 1) + 1) + 1) + 1) + 1) + 1) + 1) + 1) + 1) + 1) + 1) + 1) + 1) + 1) + 1) + 1) + 1) + 1) + 1) + 1) + 1) + 1) + 1) + 1) + 1) + 1) + 1) + 1) + 1) + 1) + 1) (((((((((((((((((((((((((((((((((((((((((((((((((0 + 30) + 30) + 30) + 30) + 30) + 30) + 30) + 30) + 3) + 6) + 10) + 60) + 24) + 9) + 3) + 3) + 3) + 4) + 4) + 32) + 12) + 60) + 180) + 60) + 64) + 192) + 64) + 64) + 192) + 64) + 40) + 40) + 40) + 40) + 40) + 5120) + 64) + 64) + 9) + 30) + 30) + 30) + 30) + 10) + 10) + 10) + 64) + 128) + 30) 413 [some (.ref 44), some (.int 11)] [] (a_tags.take 94) (a_u (a_u (a_u (a_u (a_u (a_u (a_u (a_u (a_u (a_u (a_u (a_u (a_u I 44 43 (-1)) 44 45 (-1)) 65 0 (-1)) 65 1 (-1)) 65 2 (-1)) 65 3 (-1)) 65 4 (-1)) 65 5 (-1)) 65 6 (-1)) 65 7 (-1)) 65 8 (-1)) 65 9 (-1)) 65 10 (-1)) J (a_u (a_u (a_u (a_u (a_u (a_u (a_u (a_u (a_u (a_u (a_u (a_u (a_u (a_u (a_u (a_u (a_u (a_u (a_u (a_u (a_u (a_u (a_u (a_u (a_u (a_u (a_u (a_u (a_u (a_u (a_u (a_u (a_u (a_u (a_u (a_u (a_u (a_u (a_u (a_u (a_u (a_u (a_u (a_u (a_u (a_u (a_u (a_u (a_u R 44 1 (some 45)) 44 2 (some 46)) 44 3 (some 47)) 44 4 (some 48)) 44 5 (some 49)) 44 6 (some 50)) 44 7 (some 51)) 44 8 (some 52)) 44 9 (some 53)) 44 10 (some 54)) 44 11 (some 55)) 44 12 (some 56)) 44 15 (some 57)) 44 16 (some 58)) 44 17 (some 59)) 44 18 (some 60)) 44 19 (some 61)) 44 21 (some 62)) 44 22 (some 63)) 44 23 (some 64)) 44 24 (some 65)) 44 26 (some 66)) 44 27 (some 67)) 44 28 (some 68)) 44 29 (some 69)) 44 30 (some 70)) 44 31 (some 71)) 44 32 (some 72)) 44 33 (some 73)) 44 34 (some 74)) 44 37 (some 75)) 44 38 (some 76)) 44 39 (some 77)) 44 40 (some 78)) 44 41 (some 79)) 44 42 (some 80)) 44 46 (some 81)) 44 47 (some 82)) 44 48 (some 83)) 44 49 (some 84)) 44 50 (some 85)) 44 51 (some 86)) 44 52 (some 87)) 44 54 (some 88)) 44 55 (some 89)) 44 56 (some 90)) 44 58 (some 91)) 44 60 (some 92)) 44 62 (some 93))
  refine aw_aload_n hC dX12_init_413 rfl ?_
  refine aw_getR hC dX12_init_414 aF_X12_71 rfl rfl rfl ?_
  refine aw_iload_n hC dX12_init_417 rfl ?_
  refine aw_iconst (v := (-1)) hC dX12_init_418 (by decide) ?_
  refine aw_iastore_k (j := 11) hC dX12_init_419 rfl (by decide) (by unfold vp_in; decide) ?_
  refine aw_iinc (v := 12) (L2 := [some (.ref 44), some (.int 12)]) hC dX12_init_420 rfl (by decide) (by decide) rfl ?_
  refine aw_goto (tgt := 407) hC dX12_init_423 (by decide) ?_
  refine aw_iload_n hC dX12_init_407 rfl ?_
  refine aw_bipush (v := 12) hC dX12_init_408 (by decide) ?_
  refine aw_icmp_ge (tgt := 426) hC dX12_init_410 (by decide) (fun _ => ?_) (fun h13 => absurd h13 (by decide))
  show AW X (((((((((((((((((((((((((((((((((((((((((((((((((0 + 1) + 1) + 1) + 1) + 1) + 1) + 1) + 1) + 1) + 1) + 1) + 1) + 1) + 1) + 1) + 1) + 1) + 1) + 1) + 1) + 1) + 1) + 1) + 1) + 1) + 1) + 1) + 1) + 1) + 1) + 1) + 1) + 1) + 1) + 1) + 1) + 1) + 1) + 1) + 1) + 1) + 1) + 1) + 1) + 1) + 1) + 1) + 1) + 1) (((((((((((((((((((((((((((((((((((((((((((((((((0 + 30) + 30) + 30) + 30) + 30) + 30) + 30) + 30) + 3) + 6) + 10) + 60) + 24) + 9) + 3) + 3) + 3) + 4) + 4) + 32) + 12) + 60) + 180) + 60) + 64) + 192) + 64) + 64) + 192) + 64) + 40) + 40) + 40) + 40) + 40) + 5120) + 64) + 64) + 9) + 30) + 30) + 30) + 30) + 10) + 10) + 10) + 64) + 128) + 30) 426 [some (.ref 44), some (.int 12)] [] (a_tags.take 94) (a_u (a_u (a_u (a_u (a_u (a_u (a_u (a_u (a_u (a_u (a_u (a_u (a_u (a_u I 44 43 (-1)) 44 45 (-1)) 65 0 (-1)) 65 1 (-1)) 65 2 (-1)) 65 3 (-1)) 65 4 (-1)) 65 5 (-1)) 65 6 (-1)) 65 7 (-1)) 65 8 (-1)) 65 9 (-1)) 65 10 (-1)) 65 11 (-1)) J (a_u (a_u (a_u (a_u (a_u (a_u (a_u (a_u (a_u (a_u (a_u (a_u (a_u (a_u (a_u (a_u (a_u (a_u (a_u (a_u (a_u (a_u (a_u (a_u (a_u (a_u (a_u (a_u (a_u (a_u (a_u (a_u (a_u (a_u (a_u (a_u (a_u (a_u (a_u (a_u (a_u (a_u (a_u (a_u (a_u (a_u (a_u (a_u (a_u R 44 1 (some 45)) 44 2 (some 46)) 44 3 (some 47)) 44 4 (some 48)) 44 5 (some 49)) 44 6 (some 50)) 44 7 (some 51)) 44 8 (some 52)) 44 9 (some 53)) 44 10 (some 54)) 44 11 (some 55)) 44 12 (some 56)) 44 15 (some 57)) 44 16 (some 58)) 44 17 (some 59)) 44 18 (some 60)) 44 19 (some 61)) 44 21 (some 62)) 44 22 (some 63)) 44 23 (some 64)) 44 24 (some 65)) 44 26 (some 66)) 44 27 (some 67)) 44 28 (some 68)) 44 29 (some 69)) 44 30 (some 70)) 44 31 (some 71)) 44 32 (some 72)) 44 33 (some 73)) 44 34 (some 74)) 44 37 (some 75)) 44 38 (some 76)) 44 39 (some 77)) 44 40 (some 78)) 44 41 (some 79)) 44 42 (some 80)) 44 46 (some 81)) 44 47 (some 82)) 44 48 (some 83)) 44 49 (some 84)) 44 50 (some 85)) 44 51 (some 86)) 44 52 (some 87)) 44 54 (some 88)) 44 55 (some 89)) 44 56 (some 90)) 44 58 (some 91)) 44 60 (some 92)) 44 62 (some 93))
  exact aw_return hC hq rfl dX12_init_426 a_le a_le aPure_v
