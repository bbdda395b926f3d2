theorem a_in1 {w : Cond} (h : w ∈ tables_1_1) (g : goodWord w = true) : w ∈ a_G := a_G_in (List.mem_append_right _ (by unfold tables_1; exact List.mem_append_left _ h)) g
theorem a_in2 {w : Cond} (h : w ∈ tables_1_2) (g : goodWord w = true) : w ∈ a_G := a_G_in (List.mem_append_right _ (by unfold tables_1; exact List.mem_append_right _ (List.mem_append_left _ h))) g
theorem a_in3 {w : Cond} (h : w ∈ tables_1_3) (g : goodWord w = true) : w ∈ a_G := a_G_in (List.mem_append_right _ (by unfold tables_1; exact List.mem_append_right _ (List.mem_append_right _ (List.mem_append_left _ h)))) g
theorem a_in4 {w : Cond} (h : w ∈ tables_1_4) (g : goodWord w = true) : w ∈ a_G := a_G_in (List.mem_append_right _ (by unfold tables_1; exact List.mem_append_right _ (List.mem_append_right _ (List.mem_append_right _ (List.mem_append_left _ h))))) g
theorem a_in5 {w : Cond} (h : w ∈ tables_1_5) (g : goodWord w = true) : w ∈ a_G := a_G_in (List.mem_append_right _ (by unfold tables_1; exact List.mem_append_right _ (List.mem_append_right _ (List.mem_append_right _ (List.mem_append_right _ (List.mem_append_left _ h)))))) g
theorem a_in6 {w : Cond} (h : w ∈ tables_1_6) (g : goodWord w = true) : w ∈ a_G := a_G_in (List.mem_append_right _ (by unfold tables_1; exact List.mem_append_right _ (List.mem_append_right _ (List.mem_append_right _ (List.mem_append_right _ (List.mem_append_right _ (h))))))) g
theorem a_ip1 {q : MethodName × Nat} (h : q ∈ lw_privs_1) : Cond.selects q.1.cls q.1 q.1 ∈ a_G := a_G_in (List.mem_append_left _ (List.mem_map.mpr ⟨q, (by unfold lw_privs; exact List.mem_append_left _ h), rfl⟩)) rfl
theorem a_ip2 {q : MethodName × Nat} (h : q ∈ lw_privs_2) : Cond.selects q.1.cls q.1 q.1 ∈ a_G := a_G_in (List.mem_append_left _ (List.mem_map.mpr ⟨q, (by unfold lw_privs; exact List.mem_append_right _ (List.mem_append_left _ h)), rfl⟩)) rfl
theorem a_ip3 {q : MethodName × Nat} (h : q ∈ lw_privs_3) : Cond.selects q.1.cls q.1 q.1 ∈ a_G := a_G_in (List.mem_append_left _ (List.mem_map.mpr ⟨q, (by unfold lw_privs; exact List.mem_append_right _ (List.mem_append_right _ (List.mem_append_left _ h))), rfl⟩)) rfl
theorem a_ip4 {q : MethodName × Nat} (h : q ∈ lw_privs_4) : Cond.selects q.1.cls q.1 q.1 ∈ a_G := a_G_in (List.mem_append_left _ (List.mem_map.mpr ⟨q, (by unfold lw_privs; exact List.mem_append_right _ (List.mem_append_right _ (List.mem_append_right _ (h)))), rfl⟩)) rfl
theorem gY_X0_0 : u_lay RX0 TX0 0 ∈ a_G := a_in2 (List.mem_of_getElem? (i := 50) rfl) rfl
theorem gY_X0_1 : u_lay RX0 TX0 1 ∈ a_G := a_in2 (List.mem_of_getElem? (i := 52) rfl) rfl
theorem gY_X0_2 : u_lay RX0 TX0 2 ∈ a_G := a_in2 (List.mem_of_getElem? (i := 54) rfl) rfl
theorem gY_X0_3 : u_lay RX0 TX0 3 ∈ a_G := a_in2 (List.mem_of_getElem? (i := 56) rfl) rfl
theorem gY_X0_4 : u_lay RX0 TX0 4 ∈ a_G := a_in2 (List.mem_of_getElem? (i := 58) rfl) rfl
theorem gY_X0_5 : u_lay RX0 TX0 5 ∈ a_G := a_in2 (List.mem_of_getElem? (i := 60) rfl) rfl
theorem gY_X0_6 : u_lay RX0 TX0 6 ∈ a_G := a_in2 (List.mem_of_getElem? (i := 62) rfl) rfl
theorem gY_X0_7 : u_lay RX0 TX0 7 ∈ a_G := a_in2 (List.mem_of_getElem? (i := 64) rfl) rfl
theorem aK_X0 : aClass 0 RX0 TX0 := by
  refine ⟨rfl, fun w hw => ?_, by decide +kernel, by decide +kernel, by decide +kernel, by decide +kernel⟩
  obtain ⟨k, hk, rfl⟩ := List.mem_map.mp hw
  have hk2 : k < 8 := List.mem_range.mp hk
  exact match k, hk2 with
    | 0, _ => gY_X0_0
    | 1, _ => gY_X0_1
    | 2, _ => gY_X0_2
    | 3, _ => gY_X0_3
    | 4, _ => gY_X0_4
    | 5, _ => gY_X0_5
    | 6, _ => gY_X0_6
    | 7, _ => gY_X0_7
    | k + 8, h => absurd h (by omega)
theorem gY_X1_0 : u_lay RX1 TX1 0 ∈ a_G := a_in1 (List.mem_of_getElem? (i := 64) rfl) rfl
theorem gY_X1_1 : u_lay RX1 TX1 1 ∈ a_G := a_in1 (List.mem_of_getElem? (i := 66) rfl) rfl
theorem gY_X1_2 : u_lay RX1 TX1 2 ∈ a_G := a_in1 (List.mem_of_getElem? (i := 68) rfl) rfl
theorem gY_X1_3 : u_lay RX1 TX1 3 ∈ a_G := a_in1 (List.mem_of_getElem? (i := 70) rfl) rfl
theorem gY_X1_4 : u_lay RX1 TX1 4 ∈ a_G := a_in1 (List.mem_of_getElem? (i := 72) rfl) rfl
theorem gY_X1_5 : u_lay RX1 TX1 5 ∈ a_G := a_in1 (List.mem_of_getElem? (i := 74) rfl) rfl
theorem gY_X1_6 : u_lay RX1 TX1 6 ∈ a_G := a_in1 (List.mem_of_getElem? (i := 76) rfl) rfl
theorem gY_X1_7 : u_lay RX1 TX1 7 ∈ a_G := a_in1 (List.mem_of_getElem? (i := 78) rfl) rfl
theorem gY_X1_8 : u_lay RX1 TX1 8 ∈ a_G := a_in1 (List.mem_of_getElem? (i := 80) rfl) rfl
theorem gY_X1_9 : u_lay RX1 TX1 9 ∈ a_G := a_in1 (List.mem_of_getElem? (i := 82) rfl) rfl
theorem aK_X1 : aClass 1 RX1 TX1 := by
  refine ⟨rfl, fun w hw => ?_, by decide +kernel, by decide +kernel, by decide +kernel, by decide +kernel⟩
  obtain ⟨k, hk, rfl⟩ := List.mem_map.mp hw
  have hk2 : k < 10 := List.mem_range.mp hk
  exact match k, hk2 with
    | 0, _ => gY_X1_0
    | 1, _ => gY_X1_1
    | 2, _ => gY_X1_2
    | 3, _ => gY_X1_3
    | 4, _ => gY_X1_4
    | 5, _ => gY_X1_5
    | 6, _ => gY_X1_6
    | 7, _ => gY_X1_7
    | 8, _ => gY_X1_8
    | 9, _ => gY_X1_9
    | k + 10, h => absurd h (by omega)
theorem gY_X2_0 : u_lay RX2 TX2 0 ∈ a_G := a_in2 (List.mem_of_getElem? (i := 20) rfl) rfl
theorem gY_X2_1 : u_lay RX2 TX2 1 ∈ a_G := a_in2 (List.mem_of_getElem? (i := 22) rfl) rfl
theorem gY_X2_2 : u_lay RX2 TX2 2 ∈ a_G := a_in2 (List.mem_of_getElem? (i := 24) rfl) rfl
theorem gY_X2_3 : u_lay RX2 TX2 3 ∈ a_G := a_in2 (List.mem_of_getElem? (i := 26) rfl) rfl
theorem gY_X2_4 : u_lay RX2 TX2 4 ∈ a_G := a_in2 (List.mem_of_getElem? (i := 28) rfl) rfl
theorem gY_X2_5 : u_lay RX2 TX2 5 ∈ a_G := a_in2 (List.mem_of_getElem? (i := 30) rfl) rfl
theorem gY_X2_6 : u_lay RX2 TX2 6 ∈ a_G := a_in2 (List.mem_of_getElem? (i := 32) rfl) rfl
theorem aK_X2 : aClass 2 RX2 TX2 := by
  refine ⟨rfl, fun w hw => ?_, by decide +kernel, by decide +kernel, by decide +kernel, by decide +kernel⟩
  obtain ⟨k, hk, rfl⟩ := List.mem_map.mp hw
  have hk2 : k < 7 := List.mem_range.mp hk
  exact match k, hk2 with
    | 0, _ => gY_X2_0
    | 1, _ => gY_X2_1
    | 2, _ => gY_X2_2
    | 3, _ => gY_X2_3
    | 4, _ => gY_X2_4
    | 5, _ => gY_X2_5
    | 6, _ => gY_X2_6
    | k + 7, h => absurd h (by omega)
theorem gY_X3_0 : u_lay RX3 TX3 0 ∈ a_G := a_in6 (List.mem_of_getElem? (i := 1) rfl) rfl
theorem gY_X3_1 : u_lay RX3 TX3 1 ∈ a_G := a_in6 (List.mem_of_getElem? (i := 3) rfl) rfl
theorem gY_X3_2 : u_lay RX3 TX3 2 ∈ a_G := a_in6 (List.mem_of_getElem? (i := 5) rfl) rfl
theorem gY_X3_3 : u_lay RX3 TX3 3 ∈ a_G := a_in6 (List.mem_of_getElem? (i := 7) rfl) rfl
theorem gY_X3_4 : u_lay RX3 TX3 4 ∈ a_G := a_in6 (List.mem_of_getElem? (i := 9) rfl) rfl
theorem aK_X3 : aClass 3 RX3 TX3 := by
  refine ⟨rfl, fun w hw => ?_, by decide +kernel, by decide +kernel, by decide +kernel, by decide +kernel⟩
  obtain ⟨k, hk, rfl⟩ := List.mem_map.mp hw
  have hk2 : k < 5 := List.mem_range.mp hk
  exact match k, hk2 with
    | 0, _ => gY_X3_0
    | 1, _ => gY_X3_1
    | 2, _ => gY_X3_2
    | 3, _ => gY_X3_3
    | 4, _ => gY_X3_4
    | k + 5, h => absurd h (by omega)
theorem gY_X4_0 : u_lay RX4 TX4 0 ∈ a_G := a_in1 (List.mem_of_getElem? (i := 223) rfl) rfl
theorem gY_X4_1 : u_lay RX4 TX4 1 ∈ a_G := a_in1 (List.mem_of_getElem? (i := 225) rfl) rfl
theorem gY_X4_2 : u_lay RX4 TX4 2 ∈ a_G := a_in1 (List.mem_of_getElem? (i := 227) rfl) rfl
theorem gY_X4_3 : u_lay RX4 TX4 3 ∈ a_G := a_in1 (List.mem_of_getElem? (i := 229) rfl) rfl
theorem gY_X4_4 : u_lay RX4 TX4 4 ∈ a_G := a_in1 (List.mem_of_getElem? (i := 231) rfl) rfl
theorem gY_X4_5 : u_lay RX4 TX4 5 ∈ a_G := a_in1 (List.mem_of_getElem? (i := 233) rfl) rfl
theorem gY_X4_6 : u_lay RX4 TX4 6 ∈ a_G := a_in1 (List.mem_of_getElem? (i := 235) rfl) rfl
theorem gY_X4_7 : u_lay RX4 TX4 7 ∈ a_G := a_in1 (List.mem_of_getElem? (i := 237) rfl) rfl
theorem gY_X4_8 : u_lay RX4 TX4 8 ∈ a_G := a_in1 (List.mem_of_getElem? (i := 239) rfl) rfl
theorem gY_X4_9 : u_lay RX4 TX4 9 ∈ a_G := a_in2 (List.mem_of_getElem? (i := 1) rfl) rfl
theorem aK_X4 : aClass 4 RX4 TX4 := by
  refine ⟨rfl, fun w hw => ?_, by decide +kernel, by decide +kernel, by decide +kernel, by decide +kernel⟩
  obtain ⟨k, hk, rfl⟩ := List.mem_map.mp hw
  have hk2 : k < 10 := List.mem_range.mp hk
  exact match k, hk2 with
    | 0, _ => gY_X4_0
    | 1, _ => gY_X4_1
    | 2, _ => gY_X4_2
    | 3, _ => gY_X4_3
    | 4, _ => gY_X4_4
    | 5, _ => gY_X4_5
    | 6, _ => gY_X4_6
    | 7, _ => gY_X4_7
    | 8, _ => gY_X4_8
    | 9, _ => gY_X4_9
    | k + 10, h => absurd h (by omega)
theorem gY_X5_0 : u_lay RX5 TX5 0 ∈ a_G := a_in4 (List.mem_of_getElem? (i := 13) rfl) rfl
theorem gY_X5_1 : u_lay RX5 TX5 1 ∈ a_G := a_in4 (List.mem_of_getElem? (i := 15) rfl) rfl
theorem gY_X5_2 : u_lay RX5 TX5 2 ∈ a_G := a_in4 (List.mem_of_getElem? (i := 17) rfl) rfl
theorem gY_X5_3 : u_lay RX5 TX5 3 ∈ a_G := a_in4 (List.mem_of_getElem? (i := 19) rfl) rfl
theorem aK_X5 : aClass 5 RX5 TX5 := by
  refine ⟨rfl, fun w hw => ?_, by decide +kernel, by decide +kernel, by decide +kernel, by decide +kernel⟩
  obtain ⟨k, hk, rfl⟩ := List.mem_map.mp hw
  have hk2 : k < 4 := List.mem_range.mp hk
  exact match k, hk2 with
    | 0, _ => gY_X5_0
    | 1, _ => gY_X5_1
    | 2, _ => gY_X5_2
    | 3, _ => gY_X5_3
    | k + 4, h => absurd h (by omega)
theorem gY_X6_0 : u_lay RX6 TX6 0 ∈ a_G := a_in5 (List.mem_of_getElem? (i := 161) rfl) rfl
theorem gY_X6_1 : u_lay RX6 TX6 1 ∈ a_G := a_in5 (List.mem_of_getElem? (i := 163) rfl) rfl
theorem gY_X6_2 : u_lay RX6 TX6 2 ∈ a_G := a_in5 (List.mem_of_getElem? (i := 165) rfl) rfl
theorem gY_X6_3 : u_lay RX6 TX6 3 ∈ a_G := a_in5 (List.mem_of_getElem? (i := 167) rfl) rfl
theorem gY_X6_4 : u_lay RX6 TX6 4 ∈ a_G := a_in5 (List.mem_of_getElem? (i := 169) rfl) rfl
theorem aK_X6 : aClass 6 RX6 TX6 := by
  refine ⟨rfl, fun w hw => ?_, by decide +kernel, by decide +kernel, by decide +kernel, by decide +kernel⟩
  obtain ⟨k, hk, rfl⟩ := List.mem_map.mp hw
  have hk2 : k < 5 := List.mem_range.mp hk
  exact match k, hk2 with
    | 0, _ => gY_X6_0
    | 1, _ => gY_X6_1
    | 2, _ => gY_X6_2
    | 3, _ => gY_X6_3
    | 4, _ => gY_X6_4
    | k + 5, h => absurd h (by omega)
theorem gY_X7_0 : u_lay RX7 TX7 0 ∈ a_G := a_in1 (List.mem_of_getElem? (i := 101) rfl) rfl
theorem aK_X7 : aClass 7 RX7 TX7 := by
  refine ⟨rfl, fun w hw => ?_, by decide +kernel, by decide +kernel, by decide +kernel, by decide +kernel⟩
  obtain ⟨k, hk, rfl⟩ := List.mem_map.mp hw
  have hk2 : k < 1 := List.mem_range.mp hk
  exact match k, hk2 with
    | 0, _ => gY_X7_0
    | k + 1, h => absurd h (by omega)
theorem gY_X8_0 : u_lay RX8 TX8 0 ∈ a_G := a_in5 (List.mem_of_getElem? (i := 7) rfl) rfl
theorem gY_X8_1 : u_lay RX8 TX8 1 ∈ a_G := a_in5 (List.mem_of_getElem? (i := 9) rfl) rfl
theorem gY_X8_2 : u_lay RX8 TX8 2 ∈ a_G := a_in5 (List.mem_of_getElem? (i := 11) rfl) rfl
theorem gY_X8_3 : u_lay RX8 TX8 3 ∈ a_G := a_in5 (List.mem_of_getElem? (i := 13) rfl) rfl
theorem gY_X8_4 : u_lay RX8 TX8 4 ∈ a_G := a_in5 (List.mem_of_getElem? (i := 15) rfl) rfl
theorem gY_X8_5 : u_lay RX8 TX8 5 ∈ a_G := a_in5 (List.mem_of_getElem? (i := 17) rfl) rfl
theorem gY_X8_6 : u_lay RX8 TX8 6 ∈ a_G := a_in5 (List.mem_of_getElem? (i := 19) rfl) rfl
theorem gY_X8_7 : u_lay RX8 TX8 7 ∈ a_G := a_in5 (List.mem_of_getElem? (i := 21) rfl) rfl
theorem gY_X8_8 : u_lay RX8 TX8 8 ∈ a_G := a_in5 (List.mem_of_getElem? (i := 23) rfl) rfl
theorem gY_X8_9 : u_lay RX8 TX8 9 ∈ a_G := a_in5 (List.mem_of_getElem? (i := 25) rfl) rfl
theorem gY_X8_10 : u_lay RX8 TX8 10 ∈ a_G := a_in5 (List.mem_of_getElem? (i := 27) rfl) rfl
theorem gY_X8_11 : u_lay RX8 TX8 11 ∈ a_G := a_in5 (List.mem_of_getElem? (i := 29) rfl) rfl
theorem aK_X8 : aClass 8 RX8 TX8 := by
  refine ⟨rfl, fun w hw => ?_, by decide +kernel, by decide +kernel, by decide +kernel, by decide +kernel⟩
  obtain ⟨k, hk, rfl⟩ := List.mem_map.mp hw
  have hk2 : k < 12 := List.mem_range.mp hk
  exact match k, hk2 with
    | 0, _ => gY_X8_0
    | 1, _ => gY_X8_1
    | 2, _ => gY_X8_2
    | 3, _ => gY_X8_3
    | 4, _ => gY_X8_4
    | 5, _ => gY_X8_5
    | 6, _ => gY_X8_6
    | 7, _ => gY_X8_7
    | 8, _ => gY_X8_8
    | 9, _ => gY_X8_9
    | 10, _ => gY_X8_10
    | 11, _ => gY_X8_11
    | k + 12, h => absurd h (by omega)
theorem gY_X9_0 : u_lay RX9 TX9 0 ∈ a_G := a_in1 (List.mem_of_getElem? (i := 182) rfl) rfl
theorem gY_X9_1 : u_lay RX9 TX9 1 ∈ a_G := a_in1 (List.mem_of_getElem? (i := 184) rfl) rfl
theorem gY_X9_2 : u_lay RX9 TX9 2 ∈ a_G := a_in1 (List.mem_of_getElem? (i := 186) rfl) rfl
theorem gY_X9_3 : u_lay RX9 TX9 3 ∈ a_G := a_in1 (List.mem_of_getElem? (i := 188) rfl) rfl
theorem aK_X9 : aClass 9 RX9 TX9 := by
  refine ⟨rfl, fun w hw => ?_, by decide +kernel, by decide +kernel, by decide +kernel, by decide +kernel⟩
  obtain ⟨k, hk, rfl⟩ := List.mem_map.mp hw
  have hk2 : k < 4 := List.mem_range.mp hk
  exact match k, hk2 with
    | 0, _ => gY_X9_0
    | 1, _ => gY_X9_1
    | 2, _ => gY_X9_2
    | 3, _ => gY_X9_3
    | k + 4, h => absurd h (by omega)
theorem gY_X10_0 : u_lay RX10 TX10 0 ∈ a_G := a_in1 (List.mem_of_getElem? (i := 126) rfl) rfl
theorem gY_X10_1 : u_lay RX10 TX10 1 ∈ a_G := a_in1 (List.mem_of_getElem? (i := 128) rfl) rfl
theorem gY_X10_2 : u_lay RX10 TX10 2 ∈ a_G := a_in1 (List.mem_of_getElem? (i := 130) rfl) rfl
theorem gY_X10_3 : u_lay RX10 TX10 3 ∈ a_G := a_in1 (List.mem_of_getElem? (i := 132) rfl) rfl
theorem gY_X10_4 : u_lay RX10 TX10 4 ∈ a_G := a_in1 (List.mem_of_getElem? (i := 134) rfl) rfl
theorem gY_X10_5 : u_lay RX10 TX10 5 ∈ a_G := a_in1 (List.mem_of_getElem? (i := 136) rfl) rfl
theorem gY_X10_6 : u_lay RX10 TX10 6 ∈ a_G := a_in1 (List.mem_of_getElem? (i := 138) rfl) rfl
theorem gY_X10_7 : u_lay RX10 TX10 7 ∈ a_G := a_in1 (List.mem_of_getElem? (i := 140) rfl) rfl
theorem gY_X10_8 : u_lay RX10 TX10 8 ∈ a_G := a_in1 (List.mem_of_getElem? (i := 142) rfl) rfl
theorem gY_X10_9 : u_lay RX10 TX10 9 ∈ a_G := a_in1 (List.mem_of_getElem? (i := 144) rfl) rfl
theorem gY_X10_10 : u_lay RX10 TX10 10 ∈ a_G := a_in1 (List.mem_of_getElem? (i := 146) rfl) rfl
theorem gY_X10_11 : u_lay RX10 TX10 11 ∈ a_G := a_in1 (List.mem_of_getElem? (i := 148) rfl) rfl
theorem gY_X10_12 : u_lay RX10 TX10 12 ∈ a_G := a_in1 (List.mem_of_getElem? (i := 150) rfl) rfl
theorem gY_X10_13 : u_lay RX10 TX10 13 ∈ a_G := a_in1 (List.mem_of_getElem? (i := 152) rfl) rfl
theorem aK_X10 : aClass 10 RX10 TX10 := by
  refine ⟨rfl, fun w hw => ?_, by decide +kernel, by decide +kernel, by decide +kernel, by decide +kernel⟩
  obtain ⟨k, hk, rfl⟩ := List.mem_map.mp hw
  have hk2 : k < 14 := List.mem_range.mp hk
  exact match k, hk2 with
    | 0, _ => gY_X10_0
    | 1, _ => gY_X10_1
    | 2, _ => gY_X10_2
    | 3, _ => gY_X10_3
    | 4, _ => gY_X10_4
    | 5, _ => gY_X10_5
    | 6, _ => gY_X10_6
    | 7, _ => gY_X10_7
    | 8, _ => gY_X10_8
    | 9, _ => gY_X10_9
    | 10, _ => gY_X10_10
    | 11, _ => gY_X10_11
    | 12, _ => gY_X10_12
    | 13, _ => gY_X10_13
    | k + 14, h => absurd h (by omega)
theorem gY_X11_0 : u_lay RX11 TX11 0 ∈ a_G := a_in2 (List.mem_of_getElem? (i := 79) rfl) rfl
theorem gY_X11_1 : u_lay RX11 TX11 1 ∈ a_G := a_in2 (List.mem_of_getElem? (i := 81) rfl) rfl
theorem gY_X11_2 : u_lay RX11 TX11 2 ∈ a_G := a_in2 (List.mem_of_getElem? (i := 83) rfl) rfl
theorem gY_X11_3 : u_lay RX11 TX11 3 ∈ a_G := a_in2 (List.mem_of_getElem? (i := 85) rfl) rfl
theorem gY_X11_4 : u_lay RX11 TX11 4 ∈ a_G := a_in2 (List.mem_of_getElem? (i := 87) rfl) rfl
theorem gY_X11_5 : u_lay RX11 TX11 5 ∈ a_G := a_in2 (List.mem_of_getElem? (i := 89) rfl) rfl
theorem gY_X11_6 : u_lay RX11 TX11 6 ∈ a_G := a_in2 (List.mem_of_getElem? (i := 91) rfl) rfl
theorem gY_X11_7 : u_lay RX11 TX11 7 ∈ a_G := a_in2 (List.mem_of_getElem? (i := 93) rfl) rfl
theorem gY_X11_8 : u_lay RX11 TX11 8 ∈ a_G := a_in2 (List.mem_of_getElem? (i := 95) rfl) rfl
theorem gY_X11_9 : u_lay RX11 TX11 9 ∈ a_G := a_in2 (List.mem_of_getElem? (i := 97) rfl) rfl
theorem aK_X11 : aClass 11 RX11 TX11 := by
  refine ⟨rfl, fun w hw => ?_, by decide +kernel, by decide +kernel, by decide +kernel, by decide +kernel⟩
  obtain ⟨k, hk, rfl⟩ := List.mem_map.mp hw
  have hk2 : k < 10 := List.mem_range.mp hk
  exact match k, hk2 with
    | 0, _ => gY_X11_0
    | 1, _ => gY_X11_1
    | 2, _ => gY_X11_2
    | 3, _ => gY_X11_3
    | 4, _ => gY_X11_4
    | 5, _ => gY_X11_5
    | 6, _ => gY_X11_6
    | 7, _ => gY_X11_7
    | 8, _ => gY_X11_8
    | 9, _ => gY_X11_9
    | k + 10, h => absurd h (by omega)
theorem aF_X1_11 : aF RX1 11 1 RX1 TX1 0 := ⟨aK_X1, by decide, a_in1 (List.mem_of_getElem? (i := 44) rfl) rfl⟩
theorem aF_X10_64 : aF RX10 64 1 RX1 TX1 0 := ⟨aK_X1, by decide, a_in1 (List.mem_of_getElem? (i := 45) rfl) rfl⟩
theorem aF_X11_102 : aF RX11 102 1 RX1 TX1 0 := ⟨aK_X1, by decide, a_in1 (List.mem_of_getElem? (i := 46) rfl) rfl⟩
theorem aF_X1_39 : aF RX1 39 1 RX1 TX1 1 := ⟨aK_X1, by decide, a_in1 (List.mem_of_getElem? (i := 47) rfl) rfl⟩
theorem aF_X10_60 : aF RX10 60 1 RX1 TX1 1 := ⟨aK_X1, by decide, a_in1 (List.mem_of_getElem? (i := 48) rfl) rfl⟩
theorem aF_X11_98 : aF RX11 98 1 RX1 TX1 1 := ⟨aK_X1, by decide, a_in1 (List.mem_of_getElem? (i := 49) rfl) rfl⟩
theorem aF_X1_17 : aF RX1 17 1 RX1 TX1 2 := ⟨aK_X1, by decide, a_in1 (List.mem_of_getElem? (i := 50) rfl) rfl⟩
theorem aF_X11_120 : aF RX11 120 1 RX1 TX1 2 := ⟨aK_X1, by decide, a_in1 (List.mem_of_getElem? (i := 51) rfl) rfl⟩
theorem aF_X10_154 : aF RX10 154 1 RX1 TX1 2 := ⟨aK_X1, by decide, a_in1 (List.mem_of_getElem? (i := 52) rfl) rfl⟩
theorem aF_X1_21 : aF RX1 21 1 RX1 TX1 3 := ⟨aK_X1, by decide, a_in1 (List.mem_of_getElem? (i := 53) rfl) rfl⟩
theorem aF_X11_123 : aF RX11 123 1 RX1 TX1 3 := ⟨aK_X1, by decide, a_in1 (List.mem_of_getElem? (i := 54) rfl) rfl⟩
theorem aF_X1_24 : aF RX1 24 1 RX1 TX1 4 := ⟨aK_X1, by decide, a_in1 (List.mem_of_getElem? (i := 55) rfl) rfl⟩
theorem aF_X11_136 : aF RX11 136 1 RX1 TX1 4 := ⟨aK_X1, by decide, a_in1 (List.mem_of_getElem? (i := 56) rfl) rfl⟩
theorem aF_X1_27 : aF RX1 27 1 RX1 TX1 5 := ⟨aK_X1, by decide, a_in1 (List.mem_of_getElem? (i := 57) rfl) rfl⟩
theorem aF_X11_85 : aF RX11 85 1 RX1 TX1 5 := ⟨aK_X1, by decide, a_in1 (List.mem_of_getElem? (i := 58) rfl) rfl⟩
theorem aF_X11_133 : aF RX11 133 1 RX1 TX1 6 := ⟨aK_X1, by decide, a_in1 (List.mem_of_getElem? (i := 59) rfl) rfl⟩
theorem aF_X1_133 : aF RX1 133 1 RX1 TX1 6 := ⟨aK_X1, by decide, a_in1 (List.mem_of_getElem? (i := 60) rfl) rfl⟩
theorem aF_X1_30 : aF RX1 30 1 RX1 TX1 7 := ⟨aK_X1, by decide, a_in1 (List.mem_of_getElem? (i := 61) rfl) rfl⟩
theorem aF_X1_52 : aF RX1 52 1 RX1 TX1 8 := ⟨aK_X1, by decide, a_in1 (List.mem_of_getElem? (i := 62) rfl) rfl⟩
theorem aF_X1_56 : aF RX1 56 1 RX1 TX1 9 := ⟨aK_X1, by decide, a_in1 (List.mem_of_getElem? (i := 63) rfl) rfl⟩
theorem aF_X7_9 : aF RX7 9 7 RX7 TX7 0 := ⟨aK_X7, by decide, a_in1 (List.mem_of_getElem? (i := 98) rfl) rfl⟩
theorem aF_X10_97 : aF RX10 97 7 RX7 TX7 0 := ⟨aK_X7, by decide, a_in1 (List.mem_of_getElem? (i := 99) rfl) rfl⟩
theorem aF_X11_182 : aF RX11 182 7 RX7 TX7 0 := ⟨aK_X7, by decide, a_in1 (List.mem_of_getElem? (i := 100) rfl) rfl⟩
theorem aF_X10_40 : aF RX10 40 10 RX10 TX10 0 := ⟨aK_X10, by decide, a_in1 (List.mem_of_getElem? (i := 106) rfl) rfl⟩
theorem aF_X2_117 : aF RX2 117 10 RX10 TX10 0 := ⟨aK_X10, by decide, a_in1 (List.mem_of_getElem? (i := 107) rfl) rfl⟩
theorem aF_X10_12 : aF RX10 12 10 RX10 TX10 1 := ⟨aK_X10, by decide, a_in1 (List.mem_of_getElem? (i := 108) rfl) rfl⟩
theorem aF_X11_159 : aF RX11 159 10 RX10 TX10 1 := ⟨aK_X10, by decide, a_in1 (List.mem_of_getElem? (i := 109) rfl) rfl⟩
theorem aF_X10_78 : aF RX10 78 10 RX10 TX10 2 := ⟨aK_X10, by decide, a_in1 (List.mem_of_getElem? (i := 110) rfl) rfl⟩
theorem aF_X2_114 : aF RX2 114 10 RX10 TX10 2 := ⟨aK_X10, by decide, a_in1 (List.mem_of_getElem? (i := 111) rfl) rfl⟩
theorem aF_X10_110 : aF RX10 110 10 RX10 TX10 3 := ⟨aK_X10, by decide, a_in1 (List.mem_of_getElem? (i := 112) rfl) rfl⟩
theorem aF_X11_191 : aF RX11 191 10 RX10 TX10 3 := ⟨aK_X10, by decide, a_in1 (List.mem_of_getElem? (i := 113) rfl) rfl⟩
theorem aF_X10_18 : aF RX10 18 10 RX10 TX10 4 := ⟨aK_X10, by decide, a_in1 (List.mem_of_getElem? (i := 114) rfl) rfl⟩
theorem aF_X2_80 : aF RX2 80 10 RX10 TX10 4 := ⟨aK_X10, by decide, a_in1 (List.mem_of_getElem? (i := 115) rfl) rfl⟩
theorem aF_X11_156 : aF RX11 156 10 RX10 TX10 4 := ⟨aK_X10, by decide, a_in1 (List.mem_of_getElem? (i := 116) rfl) rfl⟩
theorem aF_X10_22 : aF RX10 22 10 RX10 TX10 5 := ⟨aK_X10, by decide, a_in1 (List.mem_of_getElem? (i := 117) rfl) rfl⟩
theorem aF_X10_25 : aF RX10 25 10 RX10 TX10 6 := ⟨aK_X10, by decide, a_in1 (List.mem_of_getElem? (i := 118) rfl) rfl⟩
theorem aF_X10_30 : aF RX10 30 10 RX10 TX10 7 := ⟨aK_X10, by decide, a_in1 (List.mem_of_getElem? (i := 119) rfl) rfl⟩
theorem aF_X10_34 : aF RX10 34 10 RX10 TX10 8 := ⟨aK_X10, by decide, a_in1 (List.mem_of_getElem? (i := 120) rfl) rfl⟩
theorem aF_X10_37 : aF RX10 37 10 RX10 TX10 9 := ⟨aK_X10, by decide, a_in1 (List.mem_of_getElem? (i := 121) rfl) rfl⟩
theorem aF_X10_180 : aF RX10 180 10 RX10 TX10 10 := ⟨aK_X10, by decide, a_in1 (List.mem_of_getElem? (i := 122) rfl) rfl⟩
theorem aF_X10_44 : aF RX10 44 10 RX10 TX10 11 := ⟨aK_X10, by decide, a_in1 (List.mem_of_getElem? (i := 123) rfl) rfl⟩
theorem aF_X10_94 : aF RX10 94 10 RX10 TX10 12 := ⟨aK_X10, by decide, a_in1 (List.mem_of_getElem? (i := 124) rfl) rfl⟩
theorem aF_X10_174 : aF RX10 174 10 RX10 TX10 13 := ⟨aK_X10, by decide, a_in1 (List.mem_of_getElem? (i := 125) rfl) rfl⟩
theorem aF_X9_9 : aF RX9 9 9 RX9 TX9 0 := ⟨aK_X9, by decide, a_in1 (List.mem_of_getElem? (i := 172) rfl) rfl⟩
theorem aF_X4_96 : aF RX4 96 9 RX9 TX9 0 := ⟨aK_X9, by decide, a_in1 (List.mem_of_getElem? (i := 173) rfl) rfl⟩
theorem aF_X11_202 : aF RX11 202 9 RX9 TX9 0 := ⟨aK_X9, by decide, a_in1 (List.mem_of_getElem? (i := 174) rfl) rfl⟩
theorem aF_X2_172 : aF RX2 172 9 RX9 TX9 1 := ⟨aK_X9, by decide, a_in1 (List.mem_of_getElem? (i := 175) rfl) rfl⟩
theorem aF_X11_207 : aF RX11 207 9 RX9 TX9 1 := ⟨aK_X9, by decide, a_in1 (List.mem_of_getElem? (i := 176) rfl) rfl⟩
theorem aF_X11_210 : aF RX11 210 9 RX9 TX9 2 := ⟨aK_X9, by decide, a_in1 (List.mem_of_getElem? (i := 177) rfl) rfl⟩
theorem aF_X2_201 : aF RX2 201 9 RX9 TX9 2 := ⟨aK_X9, by decide, a_in1 (List.mem_of_getElem? (i := 178) rfl) rfl⟩
theorem aF_X2_89 : aF RX2 89 9 RX9 TX9 3 := ⟨aK_X9, by decide, a_in1 (List.mem_of_getElem? (i := 179) rfl) rfl⟩
theorem aF_X4_93 : aF RX4 93 9 RX9 TX9 3 := ⟨aK_X9, by decide, a_in1 (List.mem_of_getElem? (i := 180) rfl) rfl⟩
theorem aF_X11_251 : aF RX11 251 9 RX9 TX9 3 := ⟨aK_X9, by decide, a_in1 (List.mem_of_getElem? (i := 181) rfl) rfl⟩
theorem aF_X4_11 : aF RX4 11 4 RX4 TX4 0 := ⟨aK_X4, by decide, a_in1 (List.mem_of_getElem? (i := 192) rfl) rfl⟩
theorem aF_X2_146 : aF RX2 146 4 RX4 TX4 0 := ⟨aK_X4, by decide, a_in1 (List.mem_of_getElem? (i := 193) rfl) rfl⟩
theorem aF_X11_198 : aF RX11 198 4 RX4 TX4 0 := ⟨aK_X4, by decide, a_in1 (List.mem_of_getElem? (i := 194) rfl) rfl⟩
theorem aF_X4_19 : aF RX4 19 4 RX4 TX4 1 := ⟨aK_X4, by decide, a_in1 (List.mem_of_getElem? (i := 195) rfl) rfl⟩
theorem aF_X2_130 : aF RX2 130 4 RX4 TX4 1 := ⟨aK_X4, by decide, a_in1 (List.mem_of_getElem? (i := 196) rfl) rfl⟩
theorem aF_X11_219 : aF RX11 219 4 RX4 TX4 1 := ⟨aK_X4, by decide, a_in1 (List.mem_of_getElem? (i := 197) rfl) rfl⟩
theorem aF_X4_44 : aF RX4 44 4 RX4 TX4 2 := ⟨aK_X4, by decide, a_in1 (List.mem_of_getElem? (i := 198) rfl) rfl⟩
theorem aF_X2_127 : aF RX2 127 4 RX4 TX4 2 := ⟨aK_X4, by decide, a_in1 (List.mem_of_getElem? (i := 199) rfl) rfl⟩
theorem aF_X11_213 : aF RX11 213 4 RX4 TX4 2 := ⟨aK_X4, by decide, a_in1 (List.mem_of_getElem? (i := 200) rfl) rfl⟩
theorem aF_X4_23 : aF RX4 23 4 RX4 TX4 3 := ⟨aK_X4, by decide, a_in1 (List.mem_of_getElem? (i := 201) rfl) rfl⟩
theorem aF_X11_357 : aF RX11 357 4 RX4 TX4 3 := ⟨aK_X4, by decide, a_in1 (List.mem_of_getElem? (i := 202) rfl) rfl⟩
theorem aF_X4_27 : aF RX4 27 4 RX4 TX4 4 := ⟨aK_X4, by decide, a_in1 (List.mem_of_getElem? (i := 203) rfl) rfl⟩
theorem aF_X0_129 : aF RX0 129 4 RX4 TX4 4 := ⟨aK_X4, by decide, a_in1 (List.mem_of_getElem? (i := 204) rfl) rfl⟩
theorem aF_X2_204 : aF RX2 204 4 RX4 TX4 4 := ⟨aK_X4, by decide, a_in1 (List.mem_of_getElem? (i := 205) rfl) rfl⟩
theorem aF_X11_342 : aF RX11 342 4 RX4 TX4 4 := ⟨aK_X4, by decide, a_in1 (List.mem_of_getElem? (i := 206) rfl) rfl⟩
theorem aF_X4_30 : aF RX4 30 4 RX4 TX4 5 := ⟨aK_X4, by decide, a_in1 (List.mem_of_getElem? (i := 207) rfl) rfl⟩
theorem aF_X0_96 : aF RX0 96 4 RX4 TX4 5 := ⟨aK_X4, by decide, a_in1 (List.mem_of_getElem? (i := 208) rfl) rfl⟩
theorem aF_X2_187 : aF RX2 187 4 RX4 TX4 5 := ⟨aK_X4, by decide, a_in1 (List.mem_of_getElem? (i := 209) rfl) rfl⟩
theorem aF_X11_338 : aF RX11 338 4 RX4 TX4 5 := ⟨aK_X4, by decide, a_in1 (List.mem_of_getElem? (i := 210) rfl) rfl⟩
theorem aF_X0_80 : aF RX0 80 4 RX4 TX4 6 := ⟨aK_X4, by decide, a_in1 (List.mem_of_getElem? (i := 211) rfl) rfl⟩
theorem aF_X4_77 : aF RX4 77 4 RX4 TX4 6 := ⟨aK_X4, by decide, a_in1 (List.mem_of_getElem? (i := 212) rfl) rfl⟩
theorem aF_X11_335 : aF RX11 335 4 RX4 TX4 6 := ⟨aK_X4, by decide, a_in1 (List.mem_of_getElem? (i := 213) rfl) rfl⟩
theorem aF_X4_36 : aF RX4 36 4 RX4 TX4 7 := ⟨aK_X4, by decide, a_in1 (List.mem_of_getElem? (i := 214) rfl) rfl⟩
theorem aF_X2_65 : aF RX2 65 4 RX4 TX4 7 := ⟨aK_X4, by decide, a_in1 (List.mem_of_getElem? (i := 215) rfl) rfl⟩
theorem aF_X0_132 : aF RX0 132 4 RX4 TX4 7 := ⟨aK_X4, by decide, a_in1 (List.mem_of_getElem? (i := 216) rfl) rfl⟩
theorem aF_X11_318 : aF RX11 318 4 RX4 TX4 7 := ⟨aK_X4, by decide, a_in1 (List.mem_of_getElem? (i := 217) rfl) rfl⟩
theorem aF_X0_72 : aF RX0 72 4 RX4 TX4 8 := ⟨aK_X4, by decide, a_in1 (List.mem_of_getElem? (i := 218) rfl) rfl⟩
theorem aF_X4_113 : aF RX4 113 4 RX4 TX4 8 := ⟨aK_X4, by decide, a_in1 (List.mem_of_getElem? (i := 219) rfl) rfl⟩
theorem aF_X2_198 : aF RX2 198 4 RX4 TX4 8 := ⟨aK_X4, by decide, a_in1 (List.mem_of_getElem? (i := 220) rfl) rfl⟩
theorem aF_X11_278 : aF RX11 278 4 RX4 TX4 8 := ⟨aK_X4, by decide, a_in1 (List.mem_of_getElem? (i := 221) rfl) rfl⟩
theorem aF_X4_40 : aF RX4 40 4 RX4 TX4 9 := ⟨aK_X4, by decide, a_in1 (List.mem_of_getElem? (i := 222) rfl) rfl⟩
theorem aF_X2_9 : aF RX2 9 2 RX2 TX2 0 := ⟨aK_X2, by decide, a_in2 (List.mem_of_getElem? (i := 10) rfl) rfl⟩
theorem aF_X0_83 : aF RX0 83 2 RX2 TX2 0 := ⟨aK_X2, by decide, a_in2 (List.mem_of_getElem? (i := 11) rfl) rfl⟩
theorem aF_X11_266 : aF RX11 266 2 RX2 TX2 0 := ⟨aK_X2, by decide, a_in2 (List.mem_of_getElem? (i := 12) rfl) rfl⟩
theorem aF_X2_15 : aF RX2 15 2 RX2 TX2 1 := ⟨aK_X2, by decide, a_in2 (List.mem_of_getElem? (i := 13) rfl) rfl⟩
theorem aF_X11_281 : aF RX11 281 2 RX2 TX2 1 := ⟨aK_X2, by decide, a_in2 (List.mem_of_getElem? (i := 14) rfl) rfl⟩
theorem aF_X2_24 : aF RX2 24 2 RX2 TX2 2 := ⟨aK_X2, by decide, a_in2 (List.mem_of_getElem? (i := 15) rfl) rfl⟩
theorem aF_X2_28 : aF RX2 28 2 RX2 TX2 3 := ⟨aK_X2, by decide, a_in2 (List.mem_of_getElem? (i := 16) rfl) rfl⟩
theorem aF_X2_18 : aF RX2 18 2 RX2 TX2 4 := ⟨aK_X2, by decide, a_in2 (List.mem_of_getElem? (i := 17) rfl) rfl⟩
theorem aF_X2_153 : aF RX2 153 2 RX2 TX2 5 := ⟨aK_X2, by decide, a_in2 (List.mem_of_getElem? (i := 18) rfl) rfl⟩
theorem aF_X2_21 : aF RX2 21 2 RX2 TX2 6 := ⟨aK_X2, by decide, a_in2 (List.mem_of_getElem? (i := 19) rfl) rfl⟩
theorem aF_X0_41 : aF RX0 41 0 RX0 TX0 0 := ⟨aK_X0, by decide, a_in2 (List.mem_of_getElem? (i := 41) rfl) rfl⟩
theorem aF_X11_254 : aF RX11 254 0 RX0 TX0 0 := ⟨aK_X0, by decide, a_in2 (List.mem_of_getElem? (i := 42) rfl) rfl⟩
theorem aF_X0_19 : aF RX0 19 0 RX0 TX0 1 := ⟨aK_X0, by decide, a_in2 (List.mem_of_getElem? (i := 43) rfl) rfl⟩
theorem aF_X0_23 : aF RX0 23 0 RX0 TX0 2 := ⟨aK_X0, by decide, a_in2 (List.mem_of_getElem? (i := 44) rfl) rfl⟩
theorem aF_X0_27 : aF RX0 27 0 RX0 TX0 3 := ⟨aK_X0, by decide, a_in2 (List.mem_of_getElem? (i := 45) rfl) rfl⟩
theorem aF_X0_37 : aF RX0 37 0 RX0 TX0 4 := ⟨aK_X0, by decide, a_in2 (List.mem_of_getElem? (i := 46) rfl) rfl⟩
theorem aF_X0_44 : aF RX0 44 0 RX0 TX0 5 := ⟨aK_X0, by decide, a_in2 (List.mem_of_getElem? (i := 47) rfl) rfl⟩
theorem aF_X0_9 : aF RX0 9 0 RX0 TX0 6 := ⟨aK_X0, by decide, a_in2 (List.mem_of_getElem? (i := 48) rfl) rfl⟩
theorem aF_X0_15 : aF RX0 15 0 RX0 TX0 7 := ⟨aK_X0, by decide, a_in2 (List.mem_of_getElem? (i := 49) rfl) rfl⟩
theorem aF_X11_10 : aF RX11 10 11 RX11 TX11 0 := ⟨aK_X11, by decide, a_in2 (List.mem_of_getElem? (i := 69) rfl) rfl⟩
theorem aF_X11_21 : aF RX11 21 11 RX11 TX11 1 := ⟨aK_X11, by decide, a_in2 (List.mem_of_getElem? (i := 70) rfl) rfl⟩
theorem aF_X11_28 : aF RX11 28 11 RX11 TX11 2 := ⟨aK_X11, by decide, a_in2 (List.mem_of_getElem? (i := 71) rfl) rfl⟩
theorem aF_X11_37 : aF RX11 37 11 RX11 TX11 3 := ⟨aK_X11, by decide, a_in2 (List.mem_of_getElem? (i := 72) rfl) rfl⟩
theorem aF_X11_46 : aF RX11 46 11 RX11 TX11 4 := ⟨aK_X11, by decide, a_in2 (List.mem_of_getElem? (i := 73) rfl) rfl⟩
theorem aF_X11_50 : aF RX11 50 11 RX11 TX11 5 := ⟨aK_X11, by decide, a_in2 (List.mem_of_getElem? (i := 74) rfl) rfl⟩
theorem aF_X11_54 : aF RX11 54 11 RX11 TX11 6 := ⟨aK_X11, by decide, a_in2 (List.mem_of_getElem? (i := 75) rfl) rfl⟩
theorem aF_X11_175 : aF RX11 175 11 RX11 TX11 7 := ⟨aK_X11, by decide, a_in2 (List.mem_of_getElem? (i := 76) rfl) rfl⟩
theorem aF_X11_60 : aF RX11 60 11 RX11 TX11 8 := ⟨aK_X11, by decide, a_in2 (List.mem_of_getElem? (i := 77) rfl) rfl⟩
theorem aF_X11_275 : aF RX11 275 11 RX11 TX11 9 := ⟨aK_X11, by decide, a_in2 (List.mem_of_getElem? (i := 78) rfl) rfl⟩
theorem aF_X5_18 : aF RX5 18 5 RX5 TX5 0 := ⟨aK_X5, by decide, a_in4 (List.mem_of_getElem? (i := 1) rfl) rfl⟩
theorem aF_X4_56 : aF RX4 56 5 RX5 TX5 0 := ⟨aK_X5, by decide, a_in4 (List.mem_of_getElem? (i := 2) rfl) rfl⟩
theorem aF_X2_150 : aF RX2 150 5 RX5 TX5 0 := ⟨aK_X5, by decide, a_in4 (List.mem_of_getElem? (i := 3) rfl) rfl⟩
theorem aF_X5_9 : aF RX5 9 5 RX5 TX5 1 := ⟨aK_X5, by decide, a_in4 (List.mem_of_getElem? (i := 4) rfl) rfl⟩
theorem aF_X5_28 : aF RX5 28 5 RX5 TX5 2 := ⟨aK_X5, by decide, a_in4 (List.mem_of_getElem? (i := 5) rfl) rfl⟩
theorem aF_X2_134 : aF RX2 134 5 RX5 TX5 2 := ⟨aK_X5, by decide, a_in4 (List.mem_of_getElem? (i := 6) rfl) rfl⟩
theorem aF_X11_223 : aF RX11 223 5 RX5 TX5 2 := ⟨aK_X5, by decide, a_in4 (List.mem_of_getElem? (i := 7) rfl) rfl⟩
theorem aF_X5_15 : aF RX5 15 5 RX5 TX5 3 := ⟨aK_X5, by decide, a_in4 (List.mem_of_getElem? (i := 8) rfl) rfl⟩
theorem aF_X2_54 : aF RX2 54 5 RX5 TX5 3 := ⟨aK_X5, by decide, a_in4 (List.mem_of_getElem? (i := 9) rfl) rfl⟩
theorem aF_X0_154 : aF RX0 154 5 RX5 TX5 3 := ⟨aK_X5, by decide, a_in4 (List.mem_of_getElem? (i := 10) rfl) rfl⟩
theorem aF_X4_116 : aF RX4 116 5 RX5 TX5 3 := ⟨aK_X5, by decide, a_in4 (List.mem_of_getElem? (i := 11) rfl) rfl⟩
theorem aF_X11_248 : aF RX11 248 5 RX5 TX5 3 := ⟨aK_X5, by decide, a_in4 (List.mem_of_getElem? (i := 12) rfl) rfl⟩
theorem aF_X8_9 : aF RX8 9 8 RX8 TX8 0 := ⟨aK_X8, by decide, a_in4 (List.mem_of_getElem? (i := 214) rfl) rfl⟩
theorem aF_X1_59 : aF RX1 59 8 RX8 TX8 0 := ⟨aK_X8, by decide, a_in4 (List.mem_of_getElem? (i := 215) rfl) rfl⟩
theorem aF_X11_106 : aF RX11 106 8 RX8 TX8 0 := ⟨aK_X8, by decide, a_in4 (List.mem_of_getElem? (i := 216) rfl) rfl⟩
theorem aF_X10_151 : aF RX10 151 8 RX8 TX8 0 := ⟨aK_X8, by decide, a_in4 (List.mem_of_getElem? (i := 217) rfl) rfl⟩
theorem aF_X8_15 : aF RX8 15 8 RX8 TX8 1 := ⟨aK_X8, by decide, a_in4 (List.mem_of_getElem? (i := 218) rfl) rfl⟩
theorem aF_X1_43 : aF RX1 43 8 RX8 TX8 1 := ⟨aK_X8, by decide, a_in4 (List.mem_of_getElem? (i := 219) rfl) rfl⟩
theorem aF_X8_18 : aF RX8 18 8 RX8 TX8 2 := ⟨aK_X8, by decide, a_in4 (List.mem_of_getElem? (i := 220) rfl) rfl⟩
theorem aF_X1_72 : aF RX1 72 8 RX8 TX8 2 := ⟨aK_X8, by decide, a_in4 (List.mem_of_getElem? (i := 221) rfl) rfl⟩
theorem aF_X7_53 : aF RX7 53 8 RX8 TX8 2 := ⟨aK_X8, by decide, a_in4 (List.mem_of_getElem? (i := 222) rfl) rfl⟩
theorem aF_X10_148 : aF RX10 148 8 RX8 TX8 2 := ⟨aK_X8, by decide, a_in4 (List.mem_of_getElem? (i := 223) rfl) rfl⟩
theorem aF_X8_21 : aF RX8 21 8 RX8 TX8 3 := ⟨aK_X8, by decide, a_in4 (List.mem_of_getElem? (i := 224) rfl) rfl⟩
theorem aF_X1_75 : aF RX1 75 8 RX8 TX8 3 := ⟨aK_X8, by decide, a_in4 (List.mem_of_getElem? (i := 225) rfl) rfl⟩
theorem aF_X10_134 : aF RX10 134 8 RX8 TX8 3 := ⟨aK_X8, by decide, a_in4 (List.mem_of_getElem? (i := 226) rfl) rfl⟩
theorem aF_X7_47 : aF RX7 47 8 RX8 TX8 3 := ⟨aK_X8, by decide, a_in4 (List.mem_of_getElem? (i := 227) rfl) rfl⟩
theorem aF_X8_24 : aF RX8 24 8 RX8 TX8 4 := ⟨aK_X8, by decide, a_in4 (List.mem_of_getElem? (i := 228) rfl) rfl⟩
theorem aF_X1_98 : aF RX1 98 8 RX8 TX8 4 := ⟨aK_X8, by decide, a_in4 (List.mem_of_getElem? (i := 229) rfl) rfl⟩
theorem aF_X10_137 : aF RX10 137 8 RX8 TX8 4 := ⟨aK_X8, by decide, a_in4 (List.mem_of_getElem? (i := 230) rfl) rfl⟩
theorem aF_X7_56 : aF RX7 56 8 RX8 TX8 4 := ⟨aK_X8, by decide, a_in4 (List.mem_of_getElem? (i := 231) rfl) rfl⟩
theorem aF_X8_27 : aF RX8 27 8 RX8 TX8 5 := ⟨aK_X8, by decide, a_in4 (List.mem_of_getElem? (i := 232) rfl) rfl⟩
theorem aF_X7_63 : aF RX7 63 8 RX8 TX8 5 := ⟨aK_X8, by decide, a_in4 (List.mem_of_getElem? (i := 233) rfl) rfl⟩
theorem aF_X1_46 : aF RX1 46 8 RX8 TX8 6 := ⟨aK_X8, by decide, a_in4 (List.mem_of_getElem? (i := 234) rfl) rfl⟩
theorem aF_X1_62 : aF RX1 62 8 RX8 TX8 7 := ⟨aK_X8, by decide, a_in4 (List.mem_of_getElem? (i := 235) rfl) rfl⟩
theorem aF_X11_109 : aF RX11 109 8 RX8 TX8 7 := ⟨aK_X8, by decide, a_in4 (List.mem_of_getElem? (i := 236) rfl) rfl⟩
theorem aF_X1_69 : aF RX1 69 8 RX8 TX8 8 := ⟨aK_X8, by decide, a_in4 (List.mem_of_getElem? (i := 237) rfl) rfl⟩
theorem aF_X10_121 : aF RX10 121 8 RX8 TX8 8 := ⟨aK_X8, by decide, a_in4 (List.mem_of_getElem? (i := 238) rfl) rfl⟩
theorem aF_X11_143 : aF RX11 143 8 RX8 TX8 8 := ⟨aK_X8, by decide, a_in4 (List.mem_of_getElem? (i := 239) rfl) rfl⟩
theorem aF_X10_71 : aF RX10 71 8 RX8 TX8 9 := ⟨aK_X8, by decide, a_in5 (List.mem_of_getElem? (i := 0) rfl) rfl⟩
theorem aF_X11_153 : aF RX11 153 8 RX8 TX8 9 := ⟨aK_X8, by decide, a_in5 (List.mem_of_getElem? (i := 1) rfl) rfl⟩
theorem aF_X1_90 : aF RX1 90 8 RX8 TX8 10 := ⟨aK_X8, by decide, a_in5 (List.mem_of_getElem? (i := 2) rfl) rfl⟩
theorem aF_X10_127 : aF RX10 127 8 RX8 TX8 10 := ⟨aK_X8, by decide, a_in5 (List.mem_of_getElem? (i := 3) rfl) rfl⟩
theorem aF_X11_146 : aF RX11 146 8 RX8 TX8 10 := ⟨aK_X8, by decide, a_in5 (List.mem_of_getElem? (i := 4) rfl) rfl⟩
theorem aF_X1_82 : aF RX1 82 8 RX8 TX8 11 := ⟨aK_X8, by decide, a_in5 (List.mem_of_getElem? (i := 5) rfl) rfl⟩
theorem aF_X10_130 : aF RX10 130 8 RX8 TX8 11 := ⟨aK_X8, by decide, a_in5 (List.mem_of_getElem? (i := 6) rfl) rfl⟩
theorem aF_X6_7 : aF RX6 7 6 RX6 TX6 0 := ⟨aK_X6, by decide, a_in5 (List.mem_of_getElem? (i := 151) rfl) rfl⟩
theorem aF_X11_294 : aF RX11 294 6 RX6 TX6 0 := ⟨aK_X6, by decide, a_in5 (List.mem_of_getElem? (i := 152) rfl) rfl⟩
theorem aF_X6_13 : aF RX6 13 6 RX6 TX6 1 := ⟨aK_X6, by decide, a_in5 (List.mem_of_getElem? (i := 153) rfl) rfl⟩
theorem aF_X11_300 : aF RX11 300 6 RX6 TX6 1 := ⟨aK_X6, by decide, a_in5 (List.mem_of_getElem? (i := 154) rfl) rfl⟩
theorem aF_X6_16 : aF RX6 16 6 RX6 TX6 2 := ⟨aK_X6, by decide, a_in5 (List.mem_of_getElem? (i := 155) rfl) rfl⟩
theorem aF_X0_56 : aF RX0 56 6 RX6 TX6 2 := ⟨aK_X6, by decide, a_in5 (List.mem_of_getElem? (i := 156) rfl) rfl⟩
theorem aF_X11_293 : aF RX11 293 6 RX6 TX6 2 := ⟨aK_X6, by decide, a_in5 (List.mem_of_getElem? (i := 157) rfl) rfl⟩
theorem aF_X11_297 : aF RX11 297 6 RX6 TX6 3 := ⟨aK_X6, by decide, a_in5 (List.mem_of_getElem? (i := 158) rfl) rfl⟩
theorem aF_X0_31 : aF RX0 31 6 RX6 TX6 4 := ⟨aK_X6, by decide, a_in5 (List.mem_of_getElem? (i := 159) rfl) rfl⟩
theorem aF_X11_305 : aF RX11 305 6 RX6 TX6 4 := ⟨aK_X6, by decide, a_in5 (List.mem_of_getElem? (i := 160) rfl) rfl⟩
theorem aF_X3_18 : aF RX3 18 3 RX3 TX3 0 := ⟨aK_X3, by decide, a_in5 (List.mem_of_getElem? (i := 225) rfl) rfl⟩
theorem aF_X0_136 : aF RX0 136 3 RX3 TX3 0 := ⟨aK_X3, by decide, a_in5 (List.mem_of_getElem? (i := 226) rfl) rfl⟩
theorem aF_X4_80 : aF RX4 80 3 RX3 TX3 0 := ⟨aK_X3, by decide, a_in5 (List.mem_of_getElem? (i := 227) rfl) rfl⟩
theorem aF_X2_191 : aF RX2 191 3 RX3 TX3 0 := ⟨aK_X3, by decide, a_in5 (List.mem_of_getElem? (i := 228) rfl) rfl⟩
theorem aF_X11_322 : aF RX11 322 3 RX3 TX3 0 := ⟨aK_X3, by decide, a_in5 (List.mem_of_getElem? (i := 229) rfl) rfl⟩
theorem aF_X3_9 : aF RX3 9 3 RX3 TX3 1 := ⟨aK_X3, by decide, a_in5 (List.mem_of_getElem? (i := 230) rfl) rfl⟩
theorem aF_X2_69 : aF RX2 69 3 RX3 TX3 1 := ⟨aK_X3, by decide, a_in5 (List.mem_of_getElem? (i := 231) rfl) rfl⟩
theorem aF_X0_121 : aF RX0 121 3 RX3 TX3 1 := ⟨aK_X3, by decide, a_in5 (List.mem_of_getElem? (i := 232) rfl) rfl⟩
theorem aF_X4_90 : aF RX4 90 3 RX3 TX3 1 := ⟨aK_X3, by decide, a_in5 (List.mem_of_getElem? (i := 233) rfl) rfl⟩
theorem aF_X11_333 : aF RX11 333 3 RX3 TX3 1 := ⟨aK_X3, by decide, a_in5 (List.mem_of_getElem? (i := 234) rfl) rfl⟩
theorem aF_X2_99 : aF RX2 99 3 RX3 TX3 2 := ⟨aK_X3, by decide, a_in5 (List.mem_of_getElem? (i := 235) rfl) rfl⟩
theorem aF_X0_118 : aF RX0 118 3 RX3 TX3 2 := ⟨aK_X3, by decide, a_in5 (List.mem_of_getElem? (i := 236) rfl) rfl⟩
theorem aF_X11_330 : aF RX11 330 3 RX3 TX3 2 := ⟨aK_X3, by decide, a_in5 (List.mem_of_getElem? (i := 237) rfl) rfl⟩
theorem aF_X3_22 : aF RX3 22 3 RX3 TX3 3 := ⟨aK_X3, by decide, a_in5 (List.mem_of_getElem? (i := 238) rfl) rfl⟩
theorem aF_X11_327 : aF RX11 327 3 RX3 TX3 3 := ⟨aK_X3, by decide, a_in5 (List.mem_of_getElem? (i := 239) rfl) rfl⟩
theorem aF_X3_15 : aF RX3 15 3 RX3 TX3 4 := ⟨aK_X3, by decide, a_in6 (List.mem_of_getElem? (i := 0) rfl) rfl⟩
theorem gW_L_8 : Cond.classLink RL 8 RX11 ∈ a_G := a_in1 (List.mem_of_getElem? (i := 25) rfl) rfl
theorem gB_X11 : Cond.instantiable RX11 (a_nf 11) ∈ a_G := a_in1 (List.mem_of_getElem? (i := 26) rfl) rfl
theorem gW_X11_7 : Cond.classLink RX11 7 RX1 ∈ a_G := a_in1 (List.mem_of_getElem? (i := 33) rfl) rfl
theorem gB_X1 : Cond.instantiable RX1 (a_nf 1) ∈ a_G := a_in1 (List.mem_of_getElem? (i := 34) rfl) rfl
theorem gW_X1_9 : Cond.classLink RX1 9 RX8 ∈ a_G := a_in1 (List.mem_of_getElem? (i := 39) rfl) rfl
theorem gA_int : Cond.arrayClass .int ∈ a_G := a_in1 (List.mem_of_getElem? (i := 85) rfl) rfl
theorem gW_X11_16 : Cond.classLink RX11 16 RX10 ∈ a_G := a_in1 (List.mem_of_getElem? (i := 86) rfl) rfl
theorem gB_X10 : Cond.instantiable RX10 (a_nf 10) ∈ a_G := a_in1 (List.mem_of_getElem? (i := 87) rfl) rfl
theorem gW_X10_9 : Cond.classLink RX10 9 RX7 ∈ a_G := a_in1 (List.mem_of_getElem? (i := 92) rfl) rfl
theorem gB_X7 : Cond.instantiable RX7 (a_nf 7) ∈ a_G := a_in1 (List.mem_of_getElem? (i := 93) rfl) rfl
theorem gA_long : Cond.arrayClass .long ∈ a_G := a_in1 (List.mem_of_getElem? (i := 104) rfl) rfl
theorem gW_X10_28 : Cond.classLink RX10 28 RX8 ∈ a_G := a_in1 (List.mem_of_getElem? (i := 105) rfl) rfl
theorem gW_X11_25 : Cond.classLink RX11 25 RX4 ∈ a_G := a_in1 (List.mem_of_getElem? (i := 155) rfl) rfl
theorem gB_X4 : Cond.instantiable RX4 (a_nf 4) ∈ a_G := a_in1 (List.mem_of_getElem? (i := 156) rfl) rfl
theorem gW_X4_9 : Cond.classLink RX4 9 RX9 ∈ a_G := a_in1 (List.mem_of_getElem? (i := 161) rfl) rfl
theorem gW_X4_17 : Cond.classLink RX4 17 RX5 ∈ a_G := a_in1 (List.mem_of_getElem? (i := 163) rfl) rfl
theorem gW_X4_34 : Cond.classLink RX4 34 RX3 ∈ a_G := a_in1 (List.mem_of_getElem? (i := 165) rfl) rfl
theorem gB_X9 : Cond.instantiable RX9 (a_nf 9) ∈ a_G := a_in1 (List.mem_of_getElem? (i := 167) rfl) rfl
theorem gA_boolean : Cond.arrayClass .boolean ∈ a_G := a_in1 (List.mem_of_getElem? (i := 191) rfl) rfl
theorem gW_X11_32 : Cond.classLink RX11 32 RX2 ∈ a_G := a_in2 (List.mem_of_getElem? (i := 4) rfl) rfl
theorem gB_X2 : Cond.instantiable RX2 (a_nf 2) ∈ a_G := a_in2 (List.mem_of_getElem? (i := 5) rfl) rfl
theorem gW_X11_41 : Cond.classLink RX11 41 RX0 ∈ a_G := a_in2 (List.mem_of_getElem? (i := 35) rfl) rfl
theorem gB_X0 : Cond.instantiable RX0 (a_nf 0) ∈ a_G := a_in2 (List.mem_of_getElem? (i := 36) rfl) rfl
theorem gW_X11_58 : Cond.classLink RX11 58 RX6 ∈ a_G := a_in2 (List.mem_of_getElem? (i := 67) rfl) rfl
theorem gW_X11_363 : Cond.classLink RX11 363 "java/lang/IndexOutOfBoundsException" ∈ a_G := a_in2 (List.mem_of_getElem? (i := 110) rfl) rfl
theorem gK_X1_93 : Cond.constant RX1 93 (1000000) ∈ a_G := a_in2 (List.mem_of_getElem? (i := 189) rfl) rfl
theorem gK_J6_264 : Cond.constant RJ6 264 (65536) ∈ a_G := a_in2 (List.mem_of_getElem? (i := 208) rfl) rfl
theorem gK_X7_15 : Cond.constantLong RX7 15 (-1) ∈ a_G := a_in3 (List.mem_of_getElem? (i := 5) rfl) rfl
theorem gK_X10_113 : Cond.constant RX10 113 (1000000) ∈ a_G := a_in3 (List.mem_of_getElem? (i := 13) rfl) rfl
theorem gK_J13_314 : Cond.constantLong RJ13 314 (6148914691236517205) ∈ a_G := a_in3 (List.mem_of_getElem? (i := 74) rfl) rfl
theorem gK_J13_316 : Cond.constantLong RJ13 316 (3689348814741910323) ∈ a_G := a_in3 (List.mem_of_getElem? (i := 75) rfl) rfl
theorem gK_J13_318 : Cond.constantLong RJ13 318 (1085102592571150095) ∈ a_G := a_in3 (List.mem_of_getElem? (i := 76) rfl) rfl
theorem gW_X11_366 : Cond.classLink RX11 366 "java/lang/IllegalArgumentException" ∈ a_G := a_in3 (List.mem_of_getElem? (i := 112) rfl) rfl
theorem gW_X11_369 : Cond.classLink RX11 369 "java/lang/IllegalStateException" ∈ a_G := a_in3 (List.mem_of_getElem? (i := 212) rfl) rfl
theorem gB_X5 : Cond.instantiable RX5 (a_nf 5) ∈ a_G := a_in3 (List.mem_of_getElem? (i := 235) rfl) rfl
theorem gW_L_85 : Cond.classLink RL 85 "java/lang/IndexOutOfBoundsException" ∈ a_G := a_in4 (List.mem_of_getElem? (i := 191) rfl) rfl
theorem gW_L_87 : Cond.classLink RL 87 "java/lang/IllegalArgumentException" ∈ a_G := a_in4 (List.mem_of_getElem? (i := 192) rfl) rfl
theorem gW_L_89 : Cond.classLink RL 89 "java/lang/IllegalStateException" ∈ a_G := a_in4 (List.mem_of_getElem? (i := 193) rfl) rfl
theorem gW_X11_76 : Cond.classLink RX11 76 RX8 ∈ a_G := a_in4 (List.mem_of_getElem? (i := 208) rfl) rfl
theorem gB_X8 : Cond.instantiable RX8 (a_nf 8) ∈ a_G := a_in4 (List.mem_of_getElem? (i := 209) rfl) rfl
theorem gK_X11_185 : Cond.constantLong RX11 185 (-1) ∈ a_G := a_in5 (List.mem_of_getElem? (i := 69) rfl) rfl
theorem gB_X6 : Cond.instantiable RX6 (a_nf 6) ∈ a_G := a_in5 (List.mem_of_getElem? (i := 134) rfl) rfl
theorem gW_J7_317 : Cond.classLink RJ7 317 "[I" ∈ a_G := a_in5 (List.mem_of_getElem? (i := 144) rfl) rfl
theorem gW_X0_113 : Cond.classLink RX0 113 RX3 ∈ a_G := a_in5 (List.mem_of_getElem? (i := 219) rfl) rfl
theorem gB_X3 : Cond.instantiable RX3 (a_nf 3) ∈ a_G := a_in5 (List.mem_of_getElem? (i := 220) rfl) rfl
theorem gK_L_156 : Cond.constant RL 156 (2147483647) ∈ a_G := a_in6 (List.mem_of_getElem? (i := 107) rfl) rfl
theorem gK_L_166 : Cond.constant RL 166 (640063) ∈ a_G := a_in6 (List.mem_of_getElem? (i := 111) rfl) rfl
theorem gK_L_177 : Cond.constant RL 177 (60510) ∈ a_G := a_in6 (List.mem_of_getElem? (i := 119) rfl) rfl
theorem gK_L_178 : Cond.constant RL 178 (50510) ∈ a_G := a_in6 (List.mem_of_getElem? (i := 120) rfl) rfl
theorem gK_L_179 : Cond.constant RL 179 (570763) ∈ a_G := a_in6 (List.mem_of_getElem? (i := 121) rfl) rfl
theorem gK_L_180 : Cond.constant RL 180 (620061) ∈ a_G := a_in6 (List.mem_of_getElem? (i := 122) rfl) rfl
theorem gK_L_181 : Cond.constant RL 181 (620162) ∈ a_G := a_in6 (List.mem_of_getElem? (i := 123) rfl) rfl
theorem gK_L_182 : Cond.constant RL 182 (620263) ∈ a_G := a_in6 (List.mem_of_getElem? (i := 124) rfl) rfl
theorem gK_L_183 : Cond.constant RL 183 (46063) ∈ a_G := a_in6 (List.mem_of_getElem? (i := 125) rfl) rfl
theorem gK_L_184 : Cond.constant RL 184 (40003) ∈ a_G := a_in6 (List.mem_of_getElem? (i := 126) rfl) rfl
theorem gN_L : Cond.initialized RL ∈ a_G := a_in1 (List.mem_of_getElem? (i := 0) rfl) rfl
theorem gN_X11 : Cond.initialized RX11 ∈ a_G := a_in1 (List.mem_of_getElem? (i := 1) rfl) rfl
theorem gN_X1 : Cond.initialized RX1 ∈ a_G := a_in1 (List.mem_of_getElem? (i := 2) rfl) rfl
theorem gN_J7 : Cond.initialized RJ7 ∈ a_G := a_in1 (List.mem_of_getElem? (i := 3) rfl) rfl
theorem gN_X10 : Cond.initialized RX10 ∈ a_G := a_in1 (List.mem_of_getElem? (i := 4) rfl) rfl
theorem gN_X7 : Cond.initialized RX7 ∈ a_G := a_in1 (List.mem_of_getElem? (i := 5) rfl) rfl
theorem gN_X4 : Cond.initialized RX4 ∈ a_G := a_in1 (List.mem_of_getElem? (i := 6) rfl) rfl
theorem gN_X9 : Cond.initialized RX9 ∈ a_G := a_in1 (List.mem_of_getElem? (i := 7) rfl) rfl
theorem gN_X2 : Cond.initialized RX2 ∈ a_G := a_in1 (List.mem_of_getElem? (i := 8) rfl) rfl
theorem gN_X0 : Cond.initialized RX0 ∈ a_G := a_in1 (List.mem_of_getElem? (i := 9) rfl) rfl
theorem gN_J9 : Cond.initialized RJ9 ∈ a_G := a_in1 (List.mem_of_getElem? (i := 10) rfl) rfl
theorem gN_Number : Cond.initialized "java/lang/Number" ∈ a_G := a_in1 (List.mem_of_getElem? (i := 11) rfl) rfl
theorem gN_J6 : Cond.initialized RJ6 ∈ a_G := a_in1 (List.mem_of_getElem? (i := 12) rfl) rfl
theorem gN_J13 : Cond.initialized RJ13 ∈ a_G := a_in1 (List.mem_of_getElem? (i := 13) rfl) rfl
theorem gN_J10 : Cond.initialized RJ10 ∈ a_G := a_in1 (List.mem_of_getElem? (i := 14) rfl) rfl
theorem gN_Throwable : Cond.initialized "java/lang/Throwable" ∈ a_G := a_in1 (List.mem_of_getElem? (i := 15) rfl) rfl
theorem gN_Exception : Cond.initialized "java/lang/Exception" ∈ a_G := a_in1 (List.mem_of_getElem? (i := 16) rfl) rfl
theorem gN_RuntimeException : Cond.initialized "java/lang/RuntimeException" ∈ a_G := a_in1 (List.mem_of_getElem? (i := 17) rfl) rfl
theorem gN_IndexOutOfBoundsException : Cond.initialized "java/lang/IndexOutOfBoundsException" ∈ a_G := a_in1 (List.mem_of_getElem? (i := 18) rfl) rfl
theorem gN_IllegalArgumentException : Cond.initialized "java/lang/IllegalArgumentException" ∈ a_G := a_in1 (List.mem_of_getElem? (i := 19) rfl) rfl
theorem gN_IllegalStateException : Cond.initialized "java/lang/IllegalStateException" ∈ a_G := a_in1 (List.mem_of_getElem? (i := 20) rfl) rfl
theorem gN_X8 : Cond.initialized RX8 ∈ a_G := a_in1 (List.mem_of_getElem? (i := 21) rfl) rfl
theorem gN_X5 : Cond.initialized RX5 ∈ a_G := a_in1 (List.mem_of_getElem? (i := 22) rfl) rfl
theorem gN_X3 : Cond.initialized RX3 ∈ a_G := a_in1 (List.mem_of_getElem? (i := 23) rfl) rfl
theorem gN_X6 : Cond.initialized RX6 ∈ a_G := a_in1 (List.mem_of_getElem? (i := 24) rfl) rfl
theorem gOI_i : Cond.instanceMethod objectInit ∈ a_G := a_in1 (List.mem_of_getElem? (i := 31) rfl) rfl
theorem gOI_c : Cond.code objectInit ⟨#[0xb1]⟩ 1 none ∈ a_G := a_in1 (List.mem_of_getElem? (i := 32) rfl) rfl
theorem gAC_native : Cond.native arraycopyName ∈ a_G := a_in3 (List.mem_of_getElem? (i := 62) rfl) rfl
theorem gAC_static : Cond.static arraycopyName ∈ a_G := a_in3 (List.mem_of_getElem? (i := 61) rfl) rfl
theorem gC_X11_init : a_wd yX11_init cX11_init 1 none [] ∈ a_G := a_in1 (List.mem_of_getElem? (i := 29) rfl) rfl
theorem gC_X1_init : a_wd yX1_init cX1_init 1 none [] ∈ a_G := a_in1 (List.mem_of_getElem? (i := 37) rfl) rfl
theorem gC_J7_fill_53178 : a_wd yJ7_fill_53178 cJ7_fill_53178 4 none [] ∈ a_G := a_in1 (List.mem_of_getElem? (i := 43) rfl) rfl
theorem gC_X10_init : a_wd yX10_init cX10_init 2 none [] ∈ a_G := a_in1 (List.mem_of_getElem? (i := 90) rfl) rfl
theorem gC_X7_init : a_wd yX7_init cX7_init 1 none [] ∈ a_G := a_in1 (List.mem_of_getElem? (i := 96) rfl) rfl
theorem gC_X4_init : a_wd yX4_init cX4_init 2 none [] ∈ a_G := a_in1 (List.mem_of_getElem? (i := 159) rfl) rfl
theorem gC_X9_init : a_wd yX9_init cX9_init 1 none [] ∈ a_G := a_in1 (List.mem_of_getElem? (i := 170) rfl) rfl
theorem gC_X2_init : a_wd yX2_init cX2_init 3 none [] ∈ a_G := a_in2 (List.mem_of_getElem? (i := 8) rfl) rfl
theorem gC_X0_init : a_wd yX0_init cX0_init 3 none [] ∈ a_G := a_in2 (List.mem_of_getElem? (i := 39) rfl) rfl
theorem gC_X11_remove : a_wd yX11_remove cX11_remove 3 (some .int) [] ∈ a_G := a_in2 (List.mem_of_getElem? (i := 103) rfl) rfl
theorem gC_X11_isBelow : a_wd yX11_isBelow cX11_isBelow 2 (some .boolean) [] ∈ a_G := a_in2 (List.mem_of_getElem? (i := 106) rfl) rfl
theorem gC_X11_needIndex : a_wd yX11_needIndex cX11_needIndex 1 none [] ∈ a_G := a_in2 (List.mem_of_getElem? (i := 109) rfl) rfl
theorem gC_X10_forget : a_wd yX10_forget cX10_forget 1 none [] ∈ a_G := a_in2 (List.mem_of_getElem? (i := 176) rfl) rfl
theorem gC_X10_settle : a_wd yX10_settle cX10_settle 2 none [] ∈ a_G := a_in2 (List.mem_of_getElem? (i := 180) rfl) rfl
theorem gC_X1_examine : a_wd yX1_examine cX1_examine 3 none [] ∈ a_G := a_in2 (List.mem_of_getElem? (i := 184) rfl) rfl
theorem gC_X1_findWanted : a_wd yX1_findWanted cX1_findWanted 4 none [] ∈ a_G := a_in2 (List.mem_of_getElem? (i := 188) rfl) rfl
theorem gC_X1_isAsking : a_wd yX1_isAsking cX1_isAsking 2 (some .boolean) [] ∈ a_G := a_in2 (List.mem_of_getElem? (i := 193) rfl) rfl
theorem gC_X1_addWanted : a_wd yX1_addWanted cX1_addWanted 4 (some .boolean) [] ∈ a_G := a_in2 (List.mem_of_getElem? (i := 197) rfl) rfl
theorem gC_J9_min_7cf53 : a_wd yJ9_min_7cf53 cJ9_min_7cf53 2 (some .int) [] ∈ a_G := a_in2 (List.mem_of_getElem? (i := 200) rfl) rfl
theorem gC_X1_chosenVersion : a_wd yX1_chosenVersion cX1_chosenVersion 2 (some .int) [] ∈ a_G := a_in2 (List.mem_of_getElem? (i := 204) rfl) rfl
theorem gC_J6_numberOfLeadingZeros_0f7a4 : a_wd yJ6_numberOfLeadingZeros_0f7a4 cJ6_numberOfLeadingZeros_0f7a4 2 (some .int) [] ∈ a_G := a_in2 (List.mem_of_getElem? (i := 207) rfl) rfl
theorem gC_X1_findGuard : a_wd yX1_findGuard cX1_findGuard 5 (some (.object "Layerwright$Statement")) [] ∈ a_G := a_in2 (List.mem_of_getElem? (i := 212) rfl) rfl
theorem gC_X8_isNarrowing : a_wd yX8_isNarrowing cX8_isNarrowing 1 (some .boolean) [] ∈ a_G := a_in2 (List.mem_of_getElem? (i := 216) rfl) rfl
theorem gC_X8_isTogetherWith : a_wd yX8_isTogetherWith cX8_isTogetherWith 2 (some .boolean) [] ∈ a_G := a_in2 (List.mem_of_getElem? (i := 220) rfl) rfl
theorem gC_X1_findFault : a_wd yX1_findFault cX1_findFault 2 (some .int) [] ∈ a_G := a_in2 (List.mem_of_getElem? (i := 224) rfl) rfl
theorem gC_X8_fields : a_wd yX8_fields cX8_fields 1 (some .int) [] ∈ a_G := a_in2 (List.mem_of_getElem? (i := 228) rfl) rfl
theorem gC_X8_isJoining : a_wd yX8_isJoining cX8_isJoining 1 (some .boolean) [] ∈ a_G := a_in2 (List.mem_of_getElem? (i := 232) rfl) rfl
theorem gC_X1_isHiddenFrom : a_wd yX1_isHiddenFrom cX1_isHiddenFrom 4 (some .boolean) [] ∈ a_G := a_in2 (List.mem_of_getElem? (i := 236) rfl) rfl
theorem gC_X1_isLockedFor : a_wd yX1_isLockedFor cX1_isLockedFor 3 (some .boolean) [] ∈ a_G := a_in3 (List.mem_of_getElem? (i := 0) rfl) rfl
theorem gC_X7_fill : a_wd yX7_fill cX7_fill 1 none [] ∈ a_G := a_in3 (List.mem_of_getElem? (i := 4) rfl) rfl
theorem gC_J7_fill_d0a16 : a_wd yJ7_fill_d0a16 cJ7_fill_d0a16 5 none [] ∈ a_G := a_in3 (List.mem_of_getElem? (i := 8) rfl) rfl
theorem gC_X10_narrowAll : a_wd yX10_narrowAll cX10_narrowAll 6 none [] ∈ a_G := a_in3 (List.mem_of_getElem? (i := 12) rfl) rfl
theorem gC_X10_isCounting : a_wd yX10_isCounting cX10_isCounting 2 (some .boolean) [] ∈ a_G := a_in3 (List.mem_of_getElem? (i := 16) rfl) rfl
theorem gC_X7_hasNoneBut : a_wd yX7_hasNoneBut cX7_hasNoneBut 3 (some .boolean) [] ∈ a_G := a_in3 (List.mem_of_getElem? (i := 21) rfl) rfl
theorem gC_X7_narrow : a_wd yX7_narrow cX7_narrow 3 (some .boolean) [] ∈ a_G := a_in3 (List.mem_of_getElem? (i := 25) rfl) rfl
theorem gC_X7_keep : a_wd yX7_keep cX7_keep 6 (some .boolean) [] ∈ a_G := a_in3 (List.mem_of_getElem? (i := 29) rfl) rfl
theorem gC_X7_range : a_wd yX7_range cX7_range 2 (some .long) [] ∈ a_G := a_in3 (List.mem_of_getElem? (i := 32) rfl) rfl
theorem gC_X7_moved : a_wd yX7_moved cX7_moved 3 (some .long) [] ∈ a_G := a_in3 (List.mem_of_getElem? (i := 35) rfl) rfl
theorem gC_X7_below : a_wd yX7_below cX7_below 2 (some .long) [] ∈ a_G := a_in3 (List.mem_of_getElem? (i := 38) rfl) rfl
theorem gC_J13_numberOfLeadingZeros_95d88 : a_wd yJ13_numberOfLeadingZeros_95d88 cJ13_numberOfLeadingZeros_95d88 3 (some .int) [] ∈ a_G := a_in3 (List.mem_of_getElem? (i := 41) rfl) rfl
theorem gC_X7_above : a_wd yX7_above cX7_above 2 (some .long) [] ∈ a_G := a_in3 (List.mem_of_getElem? (i := 45) rfl) rfl
theorem gC_J13_numberOfTrailingZeros_95d88 : a_wd yJ13_numberOfTrailingZeros_95d88 cJ13_numberOfTrailingZeros_95d88 3 (some .int) [] ∈ a_G := a_in3 (List.mem_of_getElem? (i := 48) rfl) rfl
theorem gC_J6_numberOfTrailingZeros_0f7a4 : a_wd yJ6_numberOfTrailingZeros_0f7a4 cJ6_numberOfTrailingZeros_0f7a4 2 (some .int) [] ∈ a_G := a_in3 (List.mem_of_getElem? (i := 51) rfl) rfl
theorem gC_X7_hasEmpty : a_wd yX7_hasEmpty cX7_hasEmpty 2 (some .boolean) [] ∈ a_G := a_in3 (List.mem_of_getElem? (i := 55) rfl) rfl
theorem gC_X7_copy : a_wd yX7_copy cX7_copy 2 none [] ∈ a_G := a_in3 (List.mem_of_getElem? (i := 59) rfl) rfl
theorem gC_X10_takeDefaults : a_wd yX10_takeDefaults cX10_takeDefaults 6 none [] ∈ a_G := a_in3 (List.mem_of_getElem? (i := 66) rfl) rfl
theorem gC_X10_defaultsOf : a_wd yX10_defaultsOf cX10_defaultsOf 8 (some .long) [] ∈ a_G := a_in3 (List.mem_of_getElem? (i := 70) rfl) rfl
theorem gC_J13_bitCount_95d88 : a_wd yJ13_bitCount_95d88 cJ13_bitCount_95d88 2 (some .int) [] ∈ a_G := a_in3 (List.mem_of_getElem? (i := 73) rfl) rfl
theorem gC_X10_findValue : a_wd yX10_findValue cX10_findValue 4 (some .int) [] ∈ a_G := a_in3 (List.mem_of_getElem? (i := 80) rfl) rfl
theorem gC_X7_least : a_wd yX7_least cX7_least 2 (some .int) [] ∈ a_G := a_in3 (List.mem_of_getElem? (i := 83) rfl) rfl
theorem gC_X10_findTainted : a_wd yX10_findTainted cX10_findTainted 5 none [] ∈ a_G := a_in3 (List.mem_of_getElem? (i := 87) rfl) rfl
theorem gC_X10_isTainting : a_wd yX10_isTainting cX10_isTainting 2 (some .boolean) [] ∈ a_G := a_in3 (List.mem_of_getElem? (i := 91) rfl) rfl
theorem gC_X10_isTainted : a_wd yX10_isTainted cX10_isTainted 2 (some .boolean) [] ∈ a_G := a_in3 (List.mem_of_getElem? (i := 95) rfl) rfl
theorem gC_X1_countThere : a_wd yX1_countThere cX1_countThere 3 (some .int) [] ∈ a_G := a_in3 (List.mem_of_getElem? (i := 101) rfl) rfl
theorem gC_X11_pass : a_wd yX11_pass cX11_pass 2 (some .int) [] ∈ a_G := a_in3 (List.mem_of_getElem? (i := 105) rfl) rfl
theorem gC_X11_isWithin : a_wd yX11_isWithin cX11_isWithin 3 (some .boolean) [] ∈ a_G := a_in3 (List.mem_of_getElem? (i := 108) rfl) rfl
theorem gC_X11_needArgument : a_wd yX11_needArgument cX11_needArgument 1 none [] ∈ a_G := a_in3 (List.mem_of_getElem? (i := 111) rfl) rfl
theorem gC_X0_dayComes : a_wd yX0_dayComes cX0_dayComes 2 none [] ∈ a_G := a_in3 (List.mem_of_getElem? (i := 130) rfl) rfl
theorem gC_X0_end : a_wd yX0_end cX0_end 1 none [] ∈ a_G := a_in3 (List.mem_of_getElem? (i := 134) rfl) rfl
theorem gC_X11_standing : a_wd yX11_standing cX11_standing 3 (some .int) [] ∈ a_G := a_in3 (List.mem_of_getElem? (i := 138) rfl) rfl
theorem gC_X11_value : a_wd yX11_value cX11_value 2 (some .int) [] ∈ a_G := a_in3 (List.mem_of_getElem? (i := 143) rfl) rfl
theorem gC_X11_set : a_wd yX11_set cX11_set 2 (some .int) [] ∈ a_G := a_in3 (List.mem_of_getElem? (i := 147) rfl) rfl
theorem gC_X7_summary : a_wd yX7_summary cX7_summary 4 (some .int) [] ∈ a_G := a_in3 (List.mem_of_getElem? (i := 151) rfl) rfl
theorem gC_X7_greatest : a_wd yX7_greatest cX7_greatest 2 (some .int) [] ∈ a_G := a_in3 (List.mem_of_getElem? (i := 156) rfl) rfl
theorem gC_X11_setAnew : a_wd yX11_setAnew cX11_setAnew 2 (some .int) [] ∈ a_G := a_in3 (List.mem_of_getElem? (i := 160) rfl) rfl
theorem gC_X10_narrowBackwards : a_wd yX10_narrowBackwards cX10_narrowBackwards 4 (some (.object "Layerwright$Sets")) [] ∈ a_G := a_in3 (List.mem_of_getElem? (i := 164) rfl) rfl
theorem gC_X10_narrowOut : a_wd yX10_narrowOut cX10_narrowOut 3 (some .boolean) [] ∈ a_G := a_in3 (List.mem_of_getElem? (i := 168) rfl) rfl
theorem gC_X11_conflict : a_wd yX11_conflict cX11_conflict 1 (some .int) [] ∈ a_G := a_in3 (List.mem_of_getElem? (i := 172) rfl) rfl
theorem gC_X10_leastConflict : a_wd yX10_leastConflict cX10_leastConflict 1 (some .int) [] ∈ a_G := a_in3 (List.mem_of_getElem? (i := 176) rfl) rfl
theorem gC_X10_seekConflict : a_wd yX10_seekConflict cX10_seekConflict 3 (some .int) [] ∈ a_G := a_in3 (List.mem_of_getElem? (i := 180) rfl) rfl
theorem gC_X10_findSuspects : a_wd yX10_findSuspects cX10_findSuspects 2 none [] ∈ a_G := a_in3 (List.mem_of_getElem? (i := 184) rfl) rfl
theorem gC_X10_isClash : a_wd yX10_isClash cX10_isClash 6 (some .boolean) [] ∈ a_G := a_in3 (List.mem_of_getElem? (i := 188) rfl) rfl
theorem gC_X10_isJoined : a_wd yX10_isJoined cX10_isJoined 3 (some .boolean) [] ∈ a_G := a_in3 (List.mem_of_getElem? (i := 192) rfl) rfl
theorem gC_X10_seekTriple : a_wd yX10_seekTriple cX10_seekTriple 4 (some .int) [] ∈ a_G := a_in3 (List.mem_of_getElem? (i := 196) rfl) rfl
theorem gC_X10_isChain : a_wd yX10_isChain cX10_isChain 4 (some .boolean) [] ∈ a_G := a_in3 (List.mem_of_getElem? (i := 200) rfl) rfl
theorem gC_X11_setType : a_wd yX11_setType cX11_setType 8 none [] ∈ a_G := a_in3 (List.mem_of_getElem? (i := 204) rfl) rfl
theorem gC_X4_isInUse : a_wd yX4_isInUse cX4_isInUse 3 (some .boolean) [] ∈ a_G := a_in3 (List.mem_of_getElem? (i := 208) rfl) rfl
theorem gC_X11_needState : a_wd yX11_needState cX11_needState 1 none [] ∈ a_G := a_in3 (List.mem_of_getElem? (i := 211) rfl) rfl
theorem gC_X11_generator : a_wd yX11_generator cX11_generator 2 (some .int) [] ∈ a_G := a_in3 (List.mem_of_getElem? (i := 230) rfl) rfl
theorem gC_X4_addGenerator : a_wd yX4_addGenerator cX4_addGenerator 2 (some .int) [] ∈ a_G := a_in3 (List.mem_of_getElem? (i := 234) rfl) rfl
theorem gC_X5_init : a_wd yX5_init cX5_init 2 none [] ∈ a_G := a_in3 (List.mem_of_getElem? (i := 238) rfl) rfl
theorem gC_X11_bind : a_wd yX11_bind cX11_bind 6 (some .int) [] ∈ a_G := a_in4 (List.mem_of_getElem? (i := 25) rfl) rfl
theorem gC_X4_typeOfGenerator : a_wd yX4_typeOfGenerator cX4_typeOfGenerator 2 (some (.object "Layerwright$Type")) [] ∈ a_G := a_in4 (List.mem_of_getElem? (i := 29) rfl) rfl
theorem gC_X9_is : a_wd yX9_is cX9_is 3 (some .boolean) [] ∈ a_G := a_in4 (List.mem_of_getElem? (i := 33) rfl) rfl
theorem gC_X4_isComputedSource : a_wd yX4_isComputedSource cX4_isComputedSource 2 (some .boolean) [] ∈ a_G := a_in4 (List.mem_of_getElem? (i := 37) rfl) rfl
theorem gC_X4_generatorOfSource : a_wd yX4_generatorOfSource cX4_generatorOfSource 1 (some .int) [] ∈ a_G := a_in4 (List.mem_of_getElem? (i := 40) rfl) rfl
theorem gC_X4_attributeOfSource : a_wd yX4_attributeOfSource cX4_attributeOfSource 1 (some .int) [] ∈ a_G := a_in4 (List.mem_of_getElem? (i := 44) rfl) rfl
theorem gC_X11_pending : a_wd yX11_pending cX11_pending 1 (some .int) [] ∈ a_G := a_in4 (List.mem_of_getElem? (i := 49) rfl) rfl
theorem gC_X2_listActions : a_wd yX2_listActions cX2_listActions 2 (some .int) [] ∈ a_G := a_in4 (List.mem_of_getElem? (i := 53) rfl) rfl
theorem gC_X2_canPlan : a_wd yX2_canPlan cX2_canPlan 3 (some .boolean) [] ∈ a_G := a_in4 (List.mem_of_getElem? (i := 57) rfl) rfl
theorem gC_X1_hasFault : a_wd yX1_hasFault cX1_hasFault 2 (some .boolean) [] ∈ a_G := a_in4 (List.mem_of_getElem? (i := 61) rfl) rfl
theorem gC_X2_canPlanSource : a_wd yX2_canPlanSource cX2_canPlanSource 5 (some .boolean) [] ∈ a_G := a_in4 (List.mem_of_getElem? (i := 65) rfl) rfl
theorem gC_X5_hasKeysOf : a_wd yX5_hasKeysOf cX5_hasKeysOf 3 (some .boolean) [] ∈ a_G := a_in4 (List.mem_of_getElem? (i := 70) rfl) rfl
theorem gC_X5_hasKey : a_wd yX5_hasKey cX5_hasKey 3 (some .boolean) [] ∈ a_G := a_in4 (List.mem_of_getElem? (i := 74) rfl) rfl
theorem gC_X2_lookAtAll : a_wd yX2_lookAtAll cX2_lookAtAll 2 none [] ∈ a_G := a_in4 (List.mem_of_getElem? (i := 80) rfl) rfl
theorem gC_X4_names : a_wd yX4_names cX4_names 1 (some .int) [] ∈ a_G := a_in4 (List.mem_of_getElem? (i := 84) rfl) rfl
theorem gC_X2_lookAt : a_wd yX2_lookAt cX2_lookAt 3 none [] ∈ a_G := a_in4 (List.mem_of_getElem? (i := 88) rfl) rfl
theorem gC_X2_sourceGives : a_wd yX2_sourceGives cX2_sourceGives 6 (some .int) [] ∈ a_G := a_in4 (List.mem_of_getElem? (i := 92) rfl) rfl
theorem gC_X4_generatorOf : a_wd yX4_generatorOf cX4_generatorOf 2 (some (.object "Layerwright$Generator")) [] ∈ a_G := a_in4 (List.mem_of_getElem? (i := 96) rfl) rfl
theorem gC_X2_fieldGives : a_wd yX2_fieldGives cX2_fieldGives 4 (some .int) [] ∈ a_G := a_in4 (List.mem_of_getElem? (i := 100) rfl) rfl
theorem gC_X4_typeOf : a_wd yX4_typeOf cX4_typeOf 2 (some (.object "Layerwright$Type")) [] ∈ a_G := a_in4 (List.mem_of_getElem? (i := 104) rfl) rfl
theorem gC_X2_converted : a_wd yX2_converted cX2_converted 4 (some .int) [] ∈ a_G := a_in4 (List.mem_of_getElem? (i := 109) rfl) rfl
theorem gC_X2_findNeed : a_wd yX2_findNeed cX2_findNeed 6 (some .int) [] ∈ a_G := a_in4 (List.mem_of_getElem? (i := 113) rfl) rfl
theorem gC_X4_hasKey : a_wd yX4_hasKey cX4_hasKey 2 (some .boolean) [] ∈ a_G := a_in4 (List.mem_of_getElem? (i := 117) rfl) rfl
theorem gC_X2_isDiffering : a_wd yX2_isDiffering cX2_isDiffering 5 (some .boolean) [] ∈ a_G := a_in4 (List.mem_of_getElem? (i := 122) rfl) rfl
theorem gC_X3_isAdoptedOn : a_wd yX3_isAdoptedOn cX3_isAdoptedOn 3 (some .boolean) [] ∈ a_G := a_in4 (List.mem_of_getElem? (i := 126) rfl) rfl
theorem gC_X2_addMaking : a_wd yX2_addMaking cX2_addMaking 2 none [] ∈ a_G := a_in4 (List.mem_of_getElem? (i := 130) rfl) rfl
theorem gC_X2_addAction : a_wd yX2_addAction cX2_addAction 3 none [] ∈ a_G := a_in4 (List.mem_of_getElem? (i := 134) rfl) rfl
theorem gC_X2_addEnding : a_wd yX2_addEnding cX2_addEnding 2 none [] ∈ a_G := a_in4 (List.mem_of_getElem? (i := 138) rfl) rfl
theorem gC_X11_differing : a_wd yX11_differing cX11_differing 1 (some .int) [] ∈ a_G := a_in4 (List.mem_of_getElem? (i := 142) rfl) rfl
theorem gC_X2_countDiffering : a_wd yX2_countDiffering cX2_countDiffering 4 (some .int) [] ∈ a_G := a_in4 (List.mem_of_getElem? (i := 146) rfl) rfl
theorem gC_X2_isMadeAlike : a_wd yX2_isMadeAlike cX2_isMadeAlike 7 (some .boolean) [] ∈ a_G := a_in4 (List.mem_of_getElem? (i := 150) rfl) rfl
theorem gC_X2_valueBeside : a_wd yX2_valueBeside cX2_valueBeside 6 (some .int) [] ∈ a_G := a_in4 (List.mem_of_getElem? (i := 154) rfl) rfl
theorem gC_X2_forgetComputed : a_wd yX2_forgetComputed cX2_forgetComputed 3 none [] ∈ a_G := a_in4 (List.mem_of_getElem? (i := 158) rfl) rfl
theorem gC_X11_approve : a_wd yX11_approve cX11_approve 4 (some .boolean) [] ∈ a_G := a_in4 (List.mem_of_getElem? (i := 162) rfl) rfl
theorem gC_X11_isStale : a_wd yX11_isStale cX11_isStale 2 (some .boolean) [] ∈ a_G := a_in4 (List.mem_of_getElem? (i := 166) rfl) rfl
theorem gC_X2_hasAllOf : a_wd yX2_hasAllOf cX2_hasAllOf 3 (some .boolean) [] ∈ a_G := a_in4 (List.mem_of_getElem? (i := 170) rfl) rfl
theorem gC_X2_hasAction : a_wd yX2_hasAction cX2_hasAction 3 (some .boolean) [] ∈ a_G := a_in4 (List.mem_of_getElem? (i := 174) rfl) rfl
theorem gC_X11_apply : a_wd yX11_apply cX11_apply 3 (some .int) [] ∈ a_G := a_in4 (List.mem_of_getElem? (i := 178) rfl) rfl
theorem gC_X0_begin : a_wd yX0_begin cX0_begin 4 none [] ∈ a_G := a_in4 (List.mem_of_getElem? (i := 182) rfl) rfl
theorem gC_X11_isLocked : a_wd yX11_isLocked cX11_isLocked 1 (some .boolean) [] ∈ a_G := a_in4 (List.mem_of_getElem? (i := 187) rfl) rfl
theorem gC_L_act : a_wd yL_act cL_act 8 (some .int) [(0, 345, 346, 85), (0, 345, 351, 87), (0, 345, 356, 89)] ∈ a_G := a_in4 (List.mem_of_getElem? (i := 190) rfl) rfl
theorem gC_X11_tell : a_wd yX11_tell cX11_tell 6 (some .int) [] ∈ a_G := a_in4 (List.mem_of_getElem? (i := 197) rfl) rfl
theorem gC_X11_needStatement : a_wd yX11_needStatement cX11_needStatement 5 none [] ∈ a_G := a_in4 (List.mem_of_getElem? (i := 201) rfl) rfl
theorem gC_X11_isFirstNumber : a_wd yX11_isFirstNumber cX11_isFirstNumber 2 (some .boolean) [] ∈ a_G := a_in4 (List.mem_of_getElem? (i := 204) rfl) rfl
theorem gC_X11_isSecondNumber : a_wd yX11_isSecondNumber cX11_isSecondNumber 3 (some .boolean) [] ∈ a_G := a_in4 (List.mem_of_getElem? (i := 207) rfl) rfl
theorem gC_X8_init : a_wd yX8_init cX8_init 7 none [] ∈ a_G := a_in4 (List.mem_of_getElem? (i := 212) rfl) rfl
theorem gC_X11_addStatement : a_wd yX11_addStatement cX11_addStatement 2 (some .int) [] ∈ a_G := a_in5 (List.mem_of_getElem? (i := 35) rfl) rfl
theorem gC_X11_draft : a_wd yX11_draft cX11_draft 6 (some .int) [] ∈ a_G := a_in5 (List.mem_of_getElem? (i := 39) rfl) rfl
theorem gC_X11_publish : a_wd yX11_publish cX11_publish 2 (some .int) [] ∈ a_G := a_in5 (List.mem_of_getElem? (i := 43) rfl) rfl
theorem gC_X1_closeDraft : a_wd yX1_closeDraft cX1_closeDraft 4 (some .int) [] ∈ a_G := a_in5 (List.mem_of_getElem? (i := 47) rfl) rfl
theorem gC_X11_setLayer : a_wd yX11_setLayer cX11_setLayer 4 (some .int) [] ∈ a_G := a_in5 (List.mem_of_getElem? (i := 51) rfl) rfl
theorem gC_X11_lock : a_wd yX11_lock cX11_lock 4 (some .int) [] ∈ a_G := a_in5 (List.mem_of_getElem? (i := 55) rfl) rfl
theorem gC_X11_except : a_wd yX11_except cX11_except 5 (some .int) [] ∈ a_G := a_in5 (List.mem_of_getElem? (i := 59) rfl) rfl
theorem gC_X11_policy : a_wd yX11_policy cX11_policy 4 (some .int) [] ∈ a_G := a_in5 (List.mem_of_getElem? (i := 63) rfl) rfl
theorem gC_X11_proof : a_wd yX11_proof cX11_proof 6 (some .int) [] ∈ a_G := a_in5 (List.mem_of_getElem? (i := 68) rfl) rfl
theorem gC_L_types : a_wd yL_types cL_types 5 (some .int) [] ∈ a_G := a_in5 (List.mem_of_getElem? (i := 73) rfl) rfl
theorem gC_X11_key : a_wd yX11_key cX11_key 5 (some .int) [] ∈ a_G := a_in5 (List.mem_of_getElem? (i := 77) rfl) rfl
theorem gC_X5_putKey : a_wd yX5_putKey cX5_putKey 4 none [] ∈ a_G := a_in5 (List.mem_of_getElem? (i := 82) rfl) rfl
theorem gC_X11_unkey : a_wd yX11_unkey cX11_unkey 4 (some .int) [] ∈ a_G := a_in5 (List.mem_of_getElem? (i := 86) rfl) rfl
theorem gC_X5_takeKey : a_wd yX5_takeKey cX5_takeKey 4 (some .int) [] ∈ a_G := a_in5 (List.mem_of_getElem? (i := 90) rfl) rfl
theorem gC_X11_upgrade : a_wd yX11_upgrade cX11_upgrade 2 (some .int) [] ∈ a_G := a_in5 (List.mem_of_getElem? (i := 94) rfl) rfl
theorem gC_X4_upgradeType : a_wd yX4_upgradeType cX4_upgradeType 5 none [] ∈ a_G := a_in5 (List.mem_of_getElem? (i := 98) rfl) rfl
theorem gC_X4_turnSources : a_wd yX4_turnSources cX4_turnSources 4 none [] ∈ a_G := a_in5 (List.mem_of_getElem? (i := 102) rfl) rfl
theorem gC_X4_turnedSource : a_wd yX4_turnedSource cX4_turnedSource 3 (some .int) [] ∈ a_G := a_in5 (List.mem_of_getElem? (i := 106) rfl) rfl
theorem gC_X3_turnRow : a_wd yX3_turnRow cX3_turnRow 3 none [] ∈ a_G := a_in5 (List.mem_of_getElem? (i := 109) rfl) rfl
theorem gC_X4_typeNumberOf : a_wd yX4_typeNumberOf cX4_typeNumberOf 2 (some .int) [] ∈ a_G := a_in5 (List.mem_of_getElem? (i := 114) rfl) rfl
theorem gC_X3_turn : a_wd yX3_turn cX3_turn 1 none [] ∈ a_G := a_in5 (List.mem_of_getElem? (i := 118) rfl) rfl
theorem gC_X11_given : a_wd yX11_given cX11_given 3 (some .int) [] ∈ a_G := a_in5 (List.mem_of_getElem? (i := 123) rfl) rfl
theorem gC_X4_isName : a_wd yX4_isName cX4_isName 2 (some .boolean) [] ∈ a_G := a_in5 (List.mem_of_getElem? (i := 127) rfl) rfl
theorem gC_X11_plan : a_wd yX11_plan cX11_plan 3 (some .int) [] ∈ a_G := a_in5 (List.mem_of_getElem? (i := 133) rfl) rfl
theorem gC_J7_copyOf_59c91 : a_wd yJ7_copyOf_59c91 cJ7_copyOf_59c91 3 (some (.array .int)) [] ∈ a_G := a_in5 (List.mem_of_getElem? (i := 137) rfl) rfl
theorem gC_X6_init : a_wd yX6_init cX6_init 4 none [] ∈ a_G := a_in5 (List.mem_of_getElem? (i := 149) rfl) rfl
theorem gC_L_more : a_wd yL_more cL_more 5 (some .int) [] ∈ a_G := a_in5 (List.mem_of_getElem? (i := 174) rfl) rfl
theorem gC_X11_action : a_wd yX11_action cX11_action 3 (some .int) [] ∈ a_G := a_in5 (List.mem_of_getElem? (i := 178) rfl) rfl
theorem gC_X11_rebase : a_wd yX11_rebase cX11_rebase 2 (some .boolean) [] ∈ a_G := a_in5 (List.mem_of_getElem? (i := 182) rfl) rfl
theorem gC_X11_step : a_wd yX11_step cX11_step 2 (some .int) [] ∈ a_G := a_in5 (List.mem_of_getElem? (i := 186) rfl) rfl
theorem gC_X0_isOn : a_wd yX0_isOn cX0_isOn 1 (some .boolean) [] ∈ a_G := a_in5 (List.mem_of_getElem? (i := 190) rfl) rfl
theorem gC_X0_doNext : a_wd yX0_doNext cX0_doNext 6 (some .int) [] ∈ a_G := a_in5 (List.mem_of_getElem? (i := 194) rfl) rfl
theorem gC_X0_isAble : a_wd yX0_isAble cX0_isAble 4 (some .boolean) [] ∈ a_G := a_in5 (List.mem_of_getElem? (i := 199) rfl) rfl
theorem gC_X0_act : a_wd yX0_act cX0_act 4 none [] ∈ a_G := a_in5 (List.mem_of_getElem? (i := 203) rfl) rfl
theorem gC_X0_makeResource : a_wd yX0_makeResource cX0_makeResource 9 none [] ∈ a_G := a_in5 (List.mem_of_getElem? (i := 207) rfl) rfl
theorem gC_X4_addResource : a_wd yX4_addResource cX4_addResource 2 (some .int) [] ∈ a_G := a_in5 (List.mem_of_getElem? (i := 213) rfl) rfl
theorem gC_X4_takeComputedValue : a_wd yX4_takeComputedValue cX4_takeComputedValue 3 (some .int) [] ∈ a_G := a_in5 (List.mem_of_getElem? (i := 217) rfl) rfl
theorem gC_X3_init : a_wd yX3_init cX3_init 2 none [] ∈ a_G := a_in5 (List.mem_of_getElem? (i := 223) rfl) rfl
theorem gC_X0_writeDifferences : a_wd yX0_writeDifferences cX0_writeDifferences 6 none [] ∈ a_G := a_in6 (List.mem_of_getElem? (i := 16) rfl) rfl
theorem gC_X3_write : a_wd yX3_write cX3_write 3 none [] ∈ a_G := a_in6 (List.mem_of_getElem? (i := 21) rfl) rfl
theorem gC_X0_endResource : a_wd yX0_endResource cX0_endResource 4 none [] ∈ a_G := a_in6 (List.mem_of_getElem? (i := 25) rfl) rfl
theorem gC_X0_goOn : a_wd yX0_goOn cX0_goOn 1 none [] ∈ a_G := a_in6 (List.mem_of_getElem? (i := 29) rfl) rfl
theorem gC_X0_isLeftOut : a_wd yX0_isLeftOut cX0_isLeftOut 5 (some .boolean) [] ∈ a_G := a_in6 (List.mem_of_getElem? (i := 33) rfl) rfl
theorem gC_X11_entry : a_wd yX11_entry cX11_entry 3 (some .int) [] ∈ a_G := a_in6 (List.mem_of_getElem? (i := 39) rfl) rfl
theorem gC_X11_stored : a_wd yX11_stored cX11_stored 4 (some .int) [] ∈ a_G := a_in6 (List.mem_of_getElem? (i := 43) rfl) rfl
theorem gC_X11_real : a_wd yX11_real cX11_real 3 (some .int) [] ∈ a_G := a_in6 (List.mem_of_getElem? (i := 47) rfl) rfl
theorem gC_X11_change : a_wd yX11_change cX11_change 5 (some .int) [] ∈ a_G := a_in6 (List.mem_of_getElem? (i := 51) rfl) rfl
theorem gC_X11_destroy : a_wd yX11_destroy cX11_destroy 3 (some .boolean) [] ∈ a_G := a_in6 (List.mem_of_getElem? (i := 55) rfl) rfl
theorem gC_X11_make : a_wd yX11_make cX11_make 2 (some .int) [] ∈ a_G := a_in6 (List.mem_of_getElem? (i := 59) rfl) rfl
theorem gC_X11_read : a_wd yX11_read cX11_read 1 (some .int) [] ∈ a_G := a_in6 (List.mem_of_getElem? (i := 64) rfl) rfl
theorem gC_X2_readWorld : a_wd yX2_readWorld cX2_readWorld 5 (some .int) [] ∈ a_G := a_in6 (List.mem_of_getElem? (i := 68) rfl) rfl
theorem gC_X2_followDrift : a_wd yX2_followDrift cX2_followDrift 8 (some .int) [] ∈ a_G := a_in6 (List.mem_of_getElem? (i := 72) rfl) rfl
theorem gC_X3_follow : a_wd yX3_follow cX3_follow 4 none [] ∈ a_G := a_in6 (List.mem_of_getElem? (i := 76) rfl) rfl
theorem gC_X11_move : a_wd yX11_move cX11_move 3 (some .int) [] ∈ a_G := a_in6 (List.mem_of_getElem? (i := 81) rfl) rfl
theorem gC_X11_take : a_wd yX11_take cX11_take 3 (some .int) [] ∈ a_G := a_in6 (List.mem_of_getElem? (i := 86) rfl) rfl
theorem gC_X4_hasEntry : a_wd yX4_hasEntry cX4_hasEntry 3 (some .boolean) [] ∈ a_G := a_in6 (List.mem_of_getElem? (i := 90) rfl) rfl
theorem gC_X4_importResource : a_wd yX4_importResource cX4_importResource 5 none [] ∈ a_G := a_in6 (List.mem_of_getElem? (i := 94) rfl) rfl
theorem gC_L_refuses : a_wd yL_refuses cL_refuses 24 (some .boolean) [] ∈ a_G := a_in6 (List.mem_of_getElem? (i := 98) rfl) rfl
theorem gC_X11_serial : a_wd yX11_serial cX11_serial 1 (some .int) [] ∈ a_G := a_in6 (List.mem_of_getElem? (i := 102) rfl) rfl
theorem gC_X11_resources : a_wd yX11_resources cX11_resources 1 (some .int) [] ∈ a_G := a_in6 (List.mem_of_getElem? (i := 106) rfl) rfl
theorem gC_L_values : a_wd yL_values cL_values 3 (some .boolean) [] ∈ a_G := a_in6 (List.mem_of_getElem? (i := 110) rfl) rfl
theorem gC_L_sets : a_wd yL_sets cL_sets 3 (some .boolean) [] ∈ a_G := a_in6 (List.mem_of_getElem? (i := 114) rfl) rfl
theorem gC_X11_tainted : a_wd yX11_tainted cX11_tainted 1 (some .int) [] ∈ a_G := a_in6 (List.mem_of_getElem? (i := 118) rfl) rfl
theorem gC_L_faults : a_wd yL_faults cL_faults 4 (some .boolean) [] ∈ a_G := a_in6 (List.mem_of_getElem? (i := 129) rfl) rfl
theorem gC_L_plans : a_wd yL_plans cL_plans 2 (some .boolean) [] ∈ a_G := a_in6 (List.mem_of_getElem? (i := 132) rfl) rfl
theorem gC_X11_isApplying : a_wd yX11_isApplying cX11_isApplying 1 (some .boolean) [] ∈ a_G := a_in6 (List.mem_of_getElem? (i := 136) rfl) rfl
theorem gC_L_has : a_wd yL_has cL_has 6 (some .boolean) [] ∈ a_G := a_in6 (List.mem_of_getElem? (i := 139) rfl) rfl
theorem gC_L_is : a_wd yL_is cL_is 5 (some .boolean) [] ∈ a_G := a_in6 (List.mem_of_getElem? (i := 142) rfl) rfl
theorem gC_L_begins : a_wd yL_begins cL_begins 2 (some .int) [] ∈ a_G := a_in6 (List.mem_of_getElem? (i := 145) rfl) rfl
theorem gC_L_worlds : a_wd yL_worlds cL_worlds 3 (some .boolean) [] ∈ a_G := a_in6 (List.mem_of_getElem? (i := 148) rfl) rfl
theorem gC_L_limits : a_wd yL_limits cL_limits 3 (some .boolean) [] ∈ a_G := a_in6 (List.mem_of_getElem? (i := 151) rfl) rfl
theorem gL_L_161 : Cond.methodLink RL 161 yX11_init ∈ a_G := a_in1 (List.mem_of_getElem? (i := 27) rfl) rfl
theorem gL_X11_1 : Cond.methodLink RX11 1 objectInit ∈ a_G := a_in1 (List.mem_of_getElem? (i := 30) rfl) rfl
theorem gL_X11_9 : Cond.methodLink RX11 9 yX1_init ∈ a_G := a_in1 (List.mem_of_getElem? (i := 35) rfl) rfl
theorem gL_X1_3 : Cond.methodLink RX1 3 objectInit ∈ a_G := a_in1 (List.mem_of_getElem? (i := 38) rfl) rfl
theorem gL_X1_33 : Cond.methodLink RX1 33 yJ7_fill_53178 ∈ a_G := a_in1 (List.mem_of_getElem? (i := 41) rfl) rfl
theorem gL_X11_18 : Cond.methodLink RX11 18 yX10_init ∈ a_G := a_in1 (List.mem_of_getElem? (i := 88) rfl) rfl
theorem gL_X10_3 : Cond.methodLink RX10 3 objectInit ∈ a_G := a_in1 (List.mem_of_getElem? (i := 91) rfl) rfl
theorem gL_X7_3 : Cond.methodLink RX7 3 objectInit ∈ a_G := a_in1 (List.mem_of_getElem? (i := 97) rfl) rfl
theorem gL_X11_27 : Cond.methodLink RX11 27 yX4_init ∈ a_G := a_in1 (List.mem_of_getElem? (i := 157) rfl) rfl
theorem gL_X4_3 : Cond.methodLink RX4 3 objectInit ∈ a_G := a_in1 (List.mem_of_getElem? (i := 160) rfl) rfl
theorem gL_X9_3 : Cond.methodLink RX9 3 objectInit ∈ a_G := a_in1 (List.mem_of_getElem? (i := 171) rfl) rfl
theorem gL_X11_34 : Cond.methodLink RX11 34 yX2_init ∈ a_G := a_in2 (List.mem_of_getElem? (i := 6) rfl) rfl
theorem gL_X2_3 : Cond.methodLink RX2 3 objectInit ∈ a_G := a_in2 (List.mem_of_getElem? (i := 9) rfl) rfl
theorem gL_X11_43 : Cond.methodLink RX11 43 yX0_init ∈ a_G := a_in2 (List.mem_of_getElem? (i := 37) rfl) rfl
theorem gL_X0_3 : Cond.methodLink RX0 3 objectInit ∈ a_G := a_in2 (List.mem_of_getElem? (i := 40) rfl) rfl
theorem gL_L_20 : Cond.methodLink RL 20 yX11_remove ∈ a_G := a_in2 (List.mem_of_getElem? (i := 100) rfl) rfl
theorem gL_X11_64 : Cond.methodLink RX11 64 yX11_isBelow ∈ a_G := a_in2 (List.mem_of_getElem? (i := 104) rfl) rfl
theorem gL_X11_68 : Cond.methodLink RX11 68 yX11_needIndex ∈ a_G := a_in2 (List.mem_of_getElem? (i := 107) rfl) rfl
theorem gL_X11_91 : Cond.methodLink RX11 91 yX10_forget ∈ a_G := a_in2 (List.mem_of_getElem? (i := 173) rfl) rfl
theorem gL_X11_113 : Cond.methodLink RX11 113 yX10_settle ∈ a_G := a_in2 (List.mem_of_getElem? (i := 177) rfl) rfl
theorem gL_X10_48 : Cond.methodLink RX10 48 yX1_examine ∈ a_G := a_in2 (List.mem_of_getElem? (i := 181) rfl) rfl
theorem gL_X1_49 : Cond.methodLink RX1 49 yX1_findWanted ∈ a_G := a_in2 (List.mem_of_getElem? (i := 185) rfl) rfl
theorem gL_X1_94 : Cond.methodLink RX1 94 yX1_isAsking ∈ a_G := a_in2 (List.mem_of_getElem? (i := 190) rfl) rfl
theorem gL_X1_101 : Cond.methodLink RX1 101 yX1_addWanted ∈ a_G := a_in2 (List.mem_of_getElem? (i := 194) rfl) rfl
theorem gL_X1_105 : Cond.methodLink RX1 105 yJ9_min_7cf53 ∈ a_G := a_in2 (List.mem_of_getElem? (i := 198) rfl) rfl
theorem gL_X1_65 : Cond.methodLink RX1 65 yX1_chosenVersion ∈ a_G := a_in2 (List.mem_of_getElem? (i := 201) rfl) rfl
theorem gL_X1_111 : Cond.methodLink RX1 111 yJ6_numberOfLeadingZeros_0f7a4 ∈ a_G := a_in2 (List.mem_of_getElem? (i := 205) rfl) rfl
theorem gL_X1_78 : Cond.methodLink RX1 78 yX1_findGuard ∈ a_G := a_in2 (List.mem_of_getElem? (i := 209) rfl) rfl
theorem gL_X1_116 : Cond.methodLink RX1 116 yX8_isNarrowing ∈ a_G := a_in2 (List.mem_of_getElem? (i := 213) rfl) rfl
theorem gL_X1_120 : Cond.methodLink RX1 120 yX8_isTogetherWith ∈ a_G := a_in2 (List.mem_of_getElem? (i := 217) rfl) rfl
theorem gL_X1_86 : Cond.methodLink RX1 86 yX1_findFault ∈ a_G := a_in2 (List.mem_of_getElem? (i := 221) rfl) rfl
theorem gL_X1_123 : Cond.methodLink RX1 123 yX8_fields ∈ a_G := a_in2 (List.mem_of_getElem? (i := 225) rfl) rfl
theorem gL_X8_30 : Cond.methodLink RX8 30 yX8_isJoining ∈ a_G := a_in2 (List.mem_of_getElem? (i := 229) rfl) rfl
theorem gL_X1_127 : Cond.methodLink RX1 127 yX1_isHiddenFrom ∈ a_G := a_in2 (List.mem_of_getElem? (i := 233) rfl) rfl
theorem gL_X1_130 : Cond.methodLink RX1 130 yX1_isLockedFor ∈ a_G := a_in2 (List.mem_of_getElem? (i := 237) rfl) rfl
theorem gL_X10_53 : Cond.methodLink RX10 53 yX7_fill ∈ a_G := a_in3 (List.mem_of_getElem? (i := 1) rfl) rfl
theorem gL_X7_26 : Cond.methodLink RX7 26 yJ7_fill_d0a16 ∈ a_G := a_in3 (List.mem_of_getElem? (i := 6) rfl) rfl
theorem gL_X10_56 : Cond.methodLink RX10 56 yX10_narrowAll ∈ a_G := a_in3 (List.mem_of_getElem? (i := 9) rfl) rfl
theorem gL_X10_67 : Cond.methodLink RX10 67 yX10_isCounting ∈ a_G := a_in3 (List.mem_of_getElem? (i := 14) rfl) rfl
theorem gL_X10_124 : Cond.methodLink RX10 124 yX8_isNarrowing ∈ a_G := a_in3 (List.mem_of_getElem? (i := 17) rfl) rfl
theorem gL_X10_140 : Cond.methodLink RX10 140 yX7_hasNoneBut ∈ a_G := a_in3 (List.mem_of_getElem? (i := 18) rfl) rfl
theorem gL_X10_118 : Cond.methodLink RX10 118 yX7_narrow ∈ a_G := a_in3 (List.mem_of_getElem? (i := 22) rfl) rfl
theorem gL_X7_59 : Cond.methodLink RX7 59 yX7_keep ∈ a_G := a_in3 (List.mem_of_getElem? (i := 26) rfl) rfl
theorem gL_X7_66 : Cond.methodLink RX7 66 yX7_range ∈ a_G := a_in3 (List.mem_of_getElem? (i := 30) rfl) rfl
theorem gL_X7_70 : Cond.methodLink RX7 70 yX7_moved ∈ a_G := a_in3 (List.mem_of_getElem? (i := 33) rfl) rfl
theorem gL_X7_74 : Cond.methodLink RX7 74 yX7_below ∈ a_G := a_in3 (List.mem_of_getElem? (i := 36) rfl) rfl
theorem gL_X7_23 : Cond.methodLink RX7 23 yJ13_numberOfLeadingZeros_95d88 ∈ a_G := a_in3 (List.mem_of_getElem? (i := 39) rfl) rfl
theorem gL_J13_308 : Cond.methodLink RJ13 308 yJ6_numberOfLeadingZeros_0f7a4 ∈ a_G := a_in3 (List.mem_of_getElem? (i := 42) rfl) rfl
theorem gL_X7_78 : Cond.methodLink RX7 78 yX7_above ∈ a_G := a_in3 (List.mem_of_getElem? (i := 43) rfl) rfl
theorem gL_X7_17 : Cond.methodLink RX7 17 yJ13_numberOfTrailingZeros_95d88 ∈ a_G := a_in3 (List.mem_of_getElem? (i := 46) rfl) rfl
theorem gL_J13_311 : Cond.methodLink RJ13 311 yJ6_numberOfTrailingZeros_0f7a4 ∈ a_G := a_in3 (List.mem_of_getElem? (i := 49) rfl) rfl
theorem gL_X10_74 : Cond.methodLink RX10 74 yX7_hasEmpty ∈ a_G := a_in3 (List.mem_of_getElem? (i := 52) rfl) rfl
theorem gL_X10_81 : Cond.methodLink RX10 81 yX7_copy ∈ a_G := a_in3 (List.mem_of_getElem? (i := 56) rfl) rfl
theorem gL_X7_32 : Cond.methodLink RX7 32 arraycopyName ∈ a_G := a_in3 (List.mem_of_getElem? (i := 60) rfl) rfl
theorem gL_X10_84 : Cond.methodLink RX10 84 yX10_takeDefaults ∈ a_G := a_in3 (List.mem_of_getElem? (i := 63) rfl) rfl
theorem gL_X10_144 : Cond.methodLink RX10 144 yX10_defaultsOf ∈ a_G := a_in3 (List.mem_of_getElem? (i := 67) rfl) rfl
theorem gL_X10_101 : Cond.methodLink RX10 101 yJ13_bitCount_95d88 ∈ a_G := a_in3 (List.mem_of_getElem? (i := 71) rfl) rfl
theorem gL_X10_87 : Cond.methodLink RX10 87 yX10_findValue ∈ a_G := a_in3 (List.mem_of_getElem? (i := 77) rfl) rfl
theorem gL_X10_107 : Cond.methodLink RX10 107 yX7_least ∈ a_G := a_in3 (List.mem_of_getElem? (i := 81) rfl) rfl
theorem gL_X10_91 : Cond.methodLink RX10 91 yX10_findTainted ∈ a_G := a_in3 (List.mem_of_getElem? (i := 84) rfl) rfl
theorem gL_X10_157 : Cond.methodLink RX10 157 yX10_isTainting ∈ a_G := a_in3 (List.mem_of_getElem? (i := 88) rfl) rfl
theorem gL_X10_164 : Cond.methodLink RX10 164 yX10_isTainted ∈ a_G := a_in3 (List.mem_of_getElem? (i := 92) rfl) rfl
theorem gL_X10_168 : Cond.methodLink RX10 168 yX8_isJoining ∈ a_G := a_in3 (List.mem_of_getElem? (i := 96) rfl) rfl
theorem gL_X10_160 : Cond.methodLink RX10 160 yX8_fields ∈ a_G := a_in3 (List.mem_of_getElem? (i := 97) rfl) rfl
theorem gL_X11_116 : Cond.methodLink RX11 116 yX1_countThere ∈ a_G := a_in3 (List.mem_of_getElem? (i := 98) rfl) rfl
theorem gL_L_34 : Cond.methodLink RL 34 yX11_pass ∈ a_G := a_in3 (List.mem_of_getElem? (i := 102) rfl) rfl
theorem gL_X11_126 : Cond.methodLink RX11 126 yX11_isWithin ∈ a_G := a_in3 (List.mem_of_getElem? (i := 106) rfl) rfl
theorem gL_X11_130 : Cond.methodLink RX11 130 yX11_needArgument ∈ a_G := a_in3 (List.mem_of_getElem? (i := 109) rfl) rfl
theorem gL_X11_139 : Cond.methodLink RX11 139 yX0_dayComes ∈ a_G := a_in3 (List.mem_of_getElem? (i := 127) rfl) rfl
theorem gL_X0_53 : Cond.methodLink RX0 53 yX0_end ∈ a_G := a_in3 (List.mem_of_getElem? (i := 131) rfl) rfl
theorem gL_L_37 : Cond.methodLink RL 37 yX11_standing ∈ a_G := a_in3 (List.mem_of_getElem? (i := 135) rfl) rfl
theorem gL_X11_149 : Cond.methodLink RX11 149 yX8_isNarrowing ∈ a_G := a_in3 (List.mem_of_getElem? (i := 139) rfl) rfl
theorem gL_L_40 : Cond.methodLink RL 40 yX11_value ∈ a_G := a_in3 (List.mem_of_getElem? (i := 140) rfl) rfl
theorem gL_L_43 : Cond.methodLink RL 43 yX11_set ∈ a_G := a_in3 (List.mem_of_getElem? (i := 144) rfl) rfl
theorem gL_X11_163 : Cond.methodLink RX11 163 yX7_summary ∈ a_G := a_in3 (List.mem_of_getElem? (i := 148) rfl) rfl
theorem gL_X7_38 : Cond.methodLink RX7 38 yJ13_bitCount_95d88 ∈ a_G := a_in3 (List.mem_of_getElem? (i := 152) rfl) rfl
theorem gL_X7_41 : Cond.methodLink RX7 41 yX7_least ∈ a_G := a_in3 (List.mem_of_getElem? (i := 153) rfl) rfl
theorem gL_X7_44 : Cond.methodLink RX7 44 yX7_greatest ∈ a_G := a_in3 (List.mem_of_getElem? (i := 154) rfl) rfl
theorem gL_L_46 : Cond.methodLink RL 46 yX11_setAnew ∈ a_G := a_in3 (List.mem_of_getElem? (i := 157) rfl) rfl
theorem gL_X11_168 : Cond.methodLink RX11 168 yX10_narrowBackwards ∈ a_G := a_in3 (List.mem_of_getElem? (i := 161) rfl) rfl
theorem gL_X10_114 : Cond.methodLink RX10 114 yX10_narrowOut ∈ a_G := a_in3 (List.mem_of_getElem? (i := 165) rfl) rfl
theorem gL_L_171 : Cond.methodLink RL 171 yX11_conflict ∈ a_G := a_in3 (List.mem_of_getElem? (i := 169) rfl) rfl
theorem gL_X11_172 : Cond.methodLink RX11 172 yX10_leastConflict ∈ a_G := a_in3 (List.mem_of_getElem? (i := 173) rfl) rfl
theorem gL_X10_171 : Cond.methodLink RX10 171 yX10_seekConflict ∈ a_G := a_in3 (List.mem_of_getElem? (i := 177) rfl) rfl
theorem gL_X10_177 : Cond.methodLink RX10 177 yX10_findSuspects ∈ a_G := a_in3 (List.mem_of_getElem? (i := 181) rfl) rfl
theorem gL_X10_183 : Cond.methodLink RX10 183 yX10_isClash ∈ a_G := a_in3 (List.mem_of_getElem? (i := 185) rfl) rfl
theorem gL_X10_187 : Cond.methodLink RX10 187 yX10_isJoined ∈ a_G := a_in3 (List.mem_of_getElem? (i := 189) rfl) rfl
theorem gL_X10_190 : Cond.methodLink RX10 190 yX10_seekTriple ∈ a_G := a_in3 (List.mem_of_getElem? (i := 193) rfl) rfl
theorem gL_X10_193 : Cond.methodLink RX10 193 yX10_isChain ∈ a_G := a_in3 (List.mem_of_getElem? (i := 197) rfl) rfl
theorem gL_L_91 : Cond.methodLink RL 91 yX11_setType ∈ a_G := a_in3 (List.mem_of_getElem? (i := 201) rfl) rfl
theorem gL_X11_194 : Cond.methodLink RX11 194 yX4_isInUse ∈ a_G := a_in3 (List.mem_of_getElem? (i := 205) rfl) rfl
theorem gL_X11_88 : Cond.methodLink RX11 88 yX11_needState ∈ a_G := a_in3 (List.mem_of_getElem? (i := 209) rfl) rfl
theorem gL_L_61 : Cond.methodLink RL 61 yX11_generator ∈ a_G := a_in3 (List.mem_of_getElem? (i := 227) rfl) rfl
theorem gL_X11_216 : Cond.methodLink RX11 216 yX4_addGenerator ∈ a_G := a_in3 (List.mem_of_getElem? (i := 231) rfl) rfl
theorem gL_X4_83 : Cond.methodLink RX4 83 yX5_init ∈ a_G := a_in3 (List.mem_of_getElem? (i := 236) rfl) rfl
theorem gL_X5_3 : Cond.methodLink RX5 3 objectInit ∈ a_G := a_in3 (List.mem_of_getElem? (i := 239) rfl) rfl
theorem gL_X5_22 : Cond.methodLink RX5 22 yJ7_fill_53178 ∈ a_G := a_in4 (List.mem_of_getElem? (i := 0) rfl) rfl
theorem gL_L_70 : Cond.methodLink RL 70 yX11_bind ∈ a_G := a_in4 (List.mem_of_getElem? (i := 22) rfl) rfl
theorem gL_X11_238 : Cond.methodLink RX11 238 yX4_typeOfGenerator ∈ a_G := a_in4 (List.mem_of_getElem? (i := 26) rfl) rfl
theorem gL_X11_242 : Cond.methodLink RX11 242 yX9_is ∈ a_G := a_in4 (List.mem_of_getElem? (i := 30) rfl) rfl
theorem gL_X11_245 : Cond.methodLink RX11 245 yX4_isComputedSource ∈ a_G := a_in4 (List.mem_of_getElem? (i := 34) rfl) rfl
theorem gL_X4_63 : Cond.methodLink RX4 63 yX4_generatorOfSource ∈ a_G := a_in4 (List.mem_of_getElem? (i := 38) rfl) rfl
theorem gL_X4_67 : Cond.methodLink RX4 67 yX4_typeOfGenerator ∈ a_G := a_in4 (List.mem_of_getElem? (i := 41) rfl) rfl
theorem gL_X4_71 : Cond.methodLink RX4 71 yX4_attributeOfSource ∈ a_G := a_in4 (List.mem_of_getElem? (i := 42) rfl) rfl
theorem gL_X4_74 : Cond.methodLink RX4 74 yX9_is ∈ a_G := a_in4 (List.mem_of_getElem? (i := 45) rfl) rfl
theorem gL_L_149 : Cond.methodLink RL 149 yX11_pending ∈ a_G := a_in4 (List.mem_of_getElem? (i := 46) rfl) rfl
theorem gL_X11_269 : Cond.methodLink RX11 269 yX2_listActions ∈ a_G := a_in4 (List.mem_of_getElem? (i := 50) rfl) rfl
theorem gL_X2_156 : Cond.methodLink RX2 156 yX2_canPlan ∈ a_G := a_in4 (List.mem_of_getElem? (i := 54) rfl) rfl
theorem gL_X2_121 : Cond.methodLink RX2 121 yX1_hasFault ∈ a_G := a_in4 (List.mem_of_getElem? (i := 58) rfl) rfl
theorem gL_X2_137 : Cond.methodLink RX2 137 yX2_canPlanSource ∈ a_G := a_in4 (List.mem_of_getElem? (i := 62) rfl) rfl
theorem gL_X2_62 : Cond.methodLink RX2 62 yX4_generatorOfSource ∈ a_G := a_in4 (List.mem_of_getElem? (i := 66) rfl) rfl
theorem gL_X2_140 : Cond.methodLink RX2 140 yX5_hasKeysOf ∈ a_G := a_in4 (List.mem_of_getElem? (i := 67) rfl) rfl
theorem gL_X5_31 : Cond.methodLink RX5 31 yX5_hasKey ∈ a_G := a_in4 (List.mem_of_getElem? (i := 71) rfl) rfl
theorem gL_X2_144 : Cond.methodLink RX2 144 yX10_isTainted ∈ a_G := a_in4 (List.mem_of_getElem? (i := 75) rfl) rfl
theorem gL_X2_107 : Cond.methodLink RX2 107 yX9_is ∈ a_G := a_in4 (List.mem_of_getElem? (i := 76) rfl) rfl
theorem gL_X2_159 : Cond.methodLink RX2 159 yX2_lookAtAll ∈ a_G := a_in4 (List.mem_of_getElem? (i := 77) rfl) rfl
theorem gL_X2_32 : Cond.methodLink RX2 32 yX4_names ∈ a_G := a_in4 (List.mem_of_getElem? (i := 81) rfl) rfl
theorem gL_X2_38 : Cond.methodLink RX2 38 yX2_lookAt ∈ a_G := a_in4 (List.mem_of_getElem? (i := 85) rfl) rfl
theorem gL_X2_42 : Cond.methodLink RX2 42 yX2_sourceGives ∈ a_G := a_in4 (List.mem_of_getElem? (i := 89) rfl) rfl
theorem gL_X2_50 : Cond.methodLink RX2 50 yX4_generatorOf ∈ a_G := a_in4 (List.mem_of_getElem? (i := 93) rfl) rfl
theorem gL_X2_59 : Cond.methodLink RX2 59 yX2_fieldGives ∈ a_G := a_in4 (List.mem_of_getElem? (i := 97) rfl) rfl
theorem gL_X2_85 : Cond.methodLink RX2 85 yX4_typeOf ∈ a_G := a_in4 (List.mem_of_getElem? (i := 101) rfl) rfl
theorem gL_X2_73 : Cond.methodLink RX2 73 yX4_attributeOfSource ∈ a_G := a_in4 (List.mem_of_getElem? (i := 105) rfl) rfl
theorem gL_X2_76 : Cond.methodLink RX2 76 yX2_converted ∈ a_G := a_in4 (List.mem_of_getElem? (i := 106) rfl) rfl
theorem gL_X2_46 : Cond.methodLink RX2 46 yX2_findNeed ∈ a_G := a_in4 (List.mem_of_getElem? (i := 110) rfl) rfl
theorem gL_X2_95 : Cond.methodLink RX2 95 yX4_hasKey ∈ a_G := a_in4 (List.mem_of_getElem? (i := 114) rfl) rfl
theorem gL_X4_59 : Cond.methodLink RX4 59 yX5_hasKey ∈ a_G := a_in4 (List.mem_of_getElem? (i := 118) rfl) rfl
theorem gL_X2_103 : Cond.methodLink RX2 103 yX2_isDiffering ∈ a_G := a_in4 (List.mem_of_getElem? (i := 119) rfl) rfl
theorem gL_X2_111 : Cond.methodLink RX2 111 yX3_isAdoptedOn ∈ a_G := a_in4 (List.mem_of_getElem? (i := 123) rfl) rfl
theorem gL_X2_162 : Cond.methodLink RX2 162 yX2_addMaking ∈ a_G := a_in4 (List.mem_of_getElem? (i := 127) rfl) rfl
theorem gL_X2_168 : Cond.methodLink RX2 168 yX2_addAction ∈ a_G := a_in4 (List.mem_of_getElem? (i := 131) rfl) rfl
theorem gL_X2_165 : Cond.methodLink RX2 165 yX2_addEnding ∈ a_G := a_in4 (List.mem_of_getElem? (i := 135) rfl) rfl
theorem gL_L_185 : Cond.methodLink RL 185 yX11_differing ∈ a_G := a_in4 (List.mem_of_getElem? (i := 139) rfl) rfl
theorem gL_X11_272 : Cond.methodLink RX11 272 yX2_countDiffering ∈ a_G := a_in4 (List.mem_of_getElem? (i := 143) rfl) rfl
theorem gL_X2_178 : Cond.methodLink RX2 178 yX2_isMadeAlike ∈ a_G := a_in4 (List.mem_of_getElem? (i := 147) rfl) rfl
theorem gL_X2_181 : Cond.methodLink RX2 181 yX2_valueBeside ∈ a_G := a_in4 (List.mem_of_getElem? (i := 151) rfl) rfl
theorem gL_X2_184 : Cond.methodLink RX2 184 yX2_forgetComputed ∈ a_G := a_in4 (List.mem_of_getElem? (i := 155) rfl) rfl
theorem gL_L_98 : Cond.methodLink RL 98 yX11_approve ∈ a_G := a_in4 (List.mem_of_getElem? (i := 159) rfl) rfl
theorem gL_L_102 : Cond.methodLink RL 102 yX11_isStale ∈ a_G := a_in4 (List.mem_of_getElem? (i := 163) rfl) rfl
theorem gL_X11_301 : Cond.methodLink RX11 301 yX2_hasAllOf ∈ a_G := a_in4 (List.mem_of_getElem? (i := 167) rfl) rfl
theorem gL_X2_175 : Cond.methodLink RX2 175 yX2_hasAction ∈ a_G := a_in4 (List.mem_of_getElem? (i := 171) rfl) rfl
theorem gL_L_109 : Cond.methodLink RL 109 yX11_apply ∈ a_G := a_in4 (List.mem_of_getElem? (i := 175) rfl) rfl
theorem gL_X11_308 : Cond.methodLink RX11 308 yX0_begin ∈ a_G := a_in4 (List.mem_of_getElem? (i := 179) rfl) rfl
theorem gL_X0_47 : Cond.methodLink RX0 47 yJ7_fill_53178 ∈ a_G := a_in4 (List.mem_of_getElem? (i := 183) rfl) rfl
theorem gL_L_152 : Cond.methodLink RL 152 yX11_isLocked ∈ a_G := a_in4 (List.mem_of_getElem? (i := 184) rfl) rfl
theorem gL_L_157 : Cond.methodLink RL 157 yL_act ∈ a_G := a_in4 (List.mem_of_getElem? (i := 188) rfl) rfl
theorem gL_L_7 : Cond.methodLink RL 7 yX11_tell ∈ a_G := a_in4 (List.mem_of_getElem? (i := 194) rfl) rfl
theorem gL_X11_72 : Cond.methodLink RX11 72 yX11_needStatement ∈ a_G := a_in4 (List.mem_of_getElem? (i := 198) rfl) rfl
theorem gL_X11_372 : Cond.methodLink RX11 372 yX11_isFirstNumber ∈ a_G := a_in4 (List.mem_of_getElem? (i := 202) rfl) rfl
theorem gL_X11_375 : Cond.methodLink RX11 375 yX11_isSecondNumber ∈ a_G := a_in4 (List.mem_of_getElem? (i := 205) rfl) rfl
theorem gL_X11_78 : Cond.methodLink RX11 78 yX8_init ∈ a_G := a_in4 (List.mem_of_getElem? (i := 210) rfl) rfl
theorem gL_X8_3 : Cond.methodLink RX8 3 objectInit ∈ a_G := a_in4 (List.mem_of_getElem? (i := 213) rfl) rfl
theorem gL_X11_81 : Cond.methodLink RX11 81 yX11_addStatement ∈ a_G := a_in5 (List.mem_of_getElem? (i := 32) rfl) rfl
theorem gL_L_13 : Cond.methodLink RL 13 yX11_draft ∈ a_G := a_in5 (List.mem_of_getElem? (i := 36) rfl) rfl
theorem gL_L_16 : Cond.methodLink RL 16 yX11_publish ∈ a_G := a_in5 (List.mem_of_getElem? (i := 40) rfl) rfl
theorem gL_X11_94 : Cond.methodLink RX11 94 yX1_closeDraft ∈ a_G := a_in5 (List.mem_of_getElem? (i := 44) rfl) rfl
theorem gL_L_23 : Cond.methodLink RL 23 yX11_setLayer ∈ a_G := a_in5 (List.mem_of_getElem? (i := 48) rfl) rfl
theorem gL_L_27 : Cond.methodLink RL 27 yX11_lock ∈ a_G := a_in5 (List.mem_of_getElem? (i := 52) rfl) rfl
theorem gL_L_30 : Cond.methodLink RL 30 yX11_except ∈ a_G := a_in5 (List.mem_of_getElem? (i := 56) rfl) rfl
theorem gL_L_49 : Cond.methodLink RL 49 yX11_policy ∈ a_G := a_in5 (List.mem_of_getElem? (i := 60) rfl) rfl
theorem gL_X11_178 : Cond.methodLink RX11 178 yX7_range ∈ a_G := a_in5 (List.mem_of_getElem? (i := 64) rfl) rfl
theorem gL_L_52 : Cond.methodLink RL 52 yX11_proof ∈ a_G := a_in5 (List.mem_of_getElem? (i := 65) rfl) rfl
theorem gL_X11_187 : Cond.methodLink RX11 187 yX7_least ∈ a_G := a_in5 (List.mem_of_getElem? (i := 70) rfl) rfl
theorem gL_L_55 : Cond.methodLink RL 55 yL_types ∈ a_G := a_in5 (List.mem_of_getElem? (i := 71) rfl) rfl
theorem gL_L_64 : Cond.methodLink RL 64 yX11_key ∈ a_G := a_in5 (List.mem_of_getElem? (i := 74) rfl) rfl
theorem gL_X11_228 : Cond.methodLink RX11 228 yX5_hasKey ∈ a_G := a_in5 (List.mem_of_getElem? (i := 78) rfl) rfl
theorem gL_X11_231 : Cond.methodLink RX11 231 yX5_putKey ∈ a_G := a_in5 (List.mem_of_getElem? (i := 79) rfl) rfl
theorem gL_L_67 : Cond.methodLink RL 67 yX11_unkey ∈ a_G := a_in5 (List.mem_of_getElem? (i := 83) rfl) rfl
theorem gL_X11_235 : Cond.methodLink RX11 235 yX5_takeKey ∈ a_G := a_in5 (List.mem_of_getElem? (i := 87) rfl) rfl
theorem gL_L_73 : Cond.methodLink RL 73 yX11_upgrade ∈ a_G := a_in5 (List.mem_of_getElem? (i := 91) rfl) rfl
theorem gL_X11_257 : Cond.methodLink RX11 257 yX4_upgradeType ∈ a_G := a_in5 (List.mem_of_getElem? (i := 95) rfl) rfl
theorem gL_X4_99 : Cond.methodLink RX4 99 yX4_turnSources ∈ a_G := a_in5 (List.mem_of_getElem? (i := 99) rfl) rfl
theorem gL_X4_119 : Cond.methodLink RX4 119 yX4_turnedSource ∈ a_G := a_in5 (List.mem_of_getElem? (i := 103) rfl) rfl
theorem gL_X4_103 : Cond.methodLink RX4 103 yX3_turnRow ∈ a_G := a_in5 (List.mem_of_getElem? (i := 107) rfl) rfl
theorem gL_X4_48 : Cond.methodLink RX4 48 yX4_names ∈ a_G := a_in5 (List.mem_of_getElem? (i := 110) rfl) rfl
theorem gL_X4_107 : Cond.methodLink RX4 107 yX4_typeNumberOf ∈ a_G := a_in5 (List.mem_of_getElem? (i := 111) rfl) rfl
theorem gL_X4_110 : Cond.methodLink RX4 110 yX3_turn ∈ a_G := a_in5 (List.mem_of_getElem? (i := 115) rfl) rfl
theorem gL_X3_29 : Cond.methodLink RX3 29 yX3_turnRow ∈ a_G := a_in5 (List.mem_of_getElem? (i := 119) rfl) rfl
theorem gL_L_76 : Cond.methodLink RL 76 yX11_given ∈ a_G := a_in5 (List.mem_of_getElem? (i := 120) rfl) rfl
theorem gL_X11_260 : Cond.methodLink RX11 260 yX4_isName ∈ a_G := a_in5 (List.mem_of_getElem? (i := 124) rfl) rfl
theorem gL_X11_263 : Cond.methodLink RX11 263 yX2_lookAtAll ∈ a_G := a_in5 (List.mem_of_getElem? (i := 129) rfl) rfl
theorem gL_L_79 : Cond.methodLink RL 79 yX11_plan ∈ a_G := a_in5 (List.mem_of_getElem? (i := 130) rfl) rfl
theorem gL_X11_284 : Cond.methodLink RX11 284 yJ7_copyOf_59c91 ∈ a_G := a_in5 (List.mem_of_getElem? (i := 135) rfl) rfl
theorem gL_J7_304 : Cond.methodLink RJ7 304 yJ9_min_7cf53 ∈ a_G := a_in5 (List.mem_of_getElem? (i := 145) rfl) rfl
theorem gL_J7_150 : Cond.methodLink RJ7 150 arraycopyName ∈ a_G := a_in5 (List.mem_of_getElem? (i := 146) rfl) rfl
theorem gL_X11_290 : Cond.methodLink RX11 290 yX6_init ∈ a_G := a_in5 (List.mem_of_getElem? (i := 147) rfl) rfl
theorem gL_X6_1 : Cond.methodLink RX6 1 objectInit ∈ a_G := a_in5 (List.mem_of_getElem? (i := 150) rfl) rfl
theorem gL_L_82 : Cond.methodLink RL 82 yL_more ∈ a_G := a_in5 (List.mem_of_getElem? (i := 172) rfl) rfl
theorem gL_L_95 : Cond.methodLink RL 95 yX11_action ∈ a_G := a_in5 (List.mem_of_getElem? (i := 175) rfl) rfl
theorem gL_L_106 : Cond.methodLink RL 106 yX11_rebase ∈ a_G := a_in5 (List.mem_of_getElem? (i := 179) rfl) rfl
theorem gL_L_112 : Cond.methodLink RL 112 yX11_step ∈ a_G := a_in5 (List.mem_of_getElem? (i := 183) rfl) rfl
theorem gL_X11_312 : Cond.methodLink RX11 312 yX0_isOn ∈ a_G := a_in5 (List.mem_of_getElem? (i := 187) rfl) rfl
theorem gL_X11_315 : Cond.methodLink RX11 315 yX0_doNext ∈ a_G := a_in5 (List.mem_of_getElem? (i := 191) rfl) rfl
theorem gL_X0_59 : Cond.methodLink RX0 59 yX2_lookAtAll ∈ a_G := a_in5 (List.mem_of_getElem? (i := 195) rfl) rfl
theorem gL_X0_64 : Cond.methodLink RX0 64 yX0_isAble ∈ a_G := a_in5 (List.mem_of_getElem? (i := 196) rfl) rfl
theorem gL_X0_68 : Cond.methodLink RX0 68 yX0_act ∈ a_G := a_in5 (List.mem_of_getElem? (i := 200) rfl) rfl
theorem gL_X0_86 : Cond.methodLink RX0 86 yX0_makeResource ∈ a_G := a_in5 (List.mem_of_getElem? (i := 204) rfl) rfl
theorem gL_X0_99 : Cond.methodLink RX0 99 yX4_typeOf ∈ a_G := a_in5 (List.mem_of_getElem? (i := 208) rfl) rfl
theorem gL_X0_103 : Cond.methodLink RX0 103 yX4_typeNumberOf ∈ a_G := a_in5 (List.mem_of_getElem? (i := 209) rfl) rfl
theorem gL_X0_107 : Cond.methodLink RX0 107 yX4_addResource ∈ a_G := a_in5 (List.mem_of_getElem? (i := 210) rfl) rfl
theorem gL_X0_110 : Cond.methodLink RX0 110 yX4_takeComputedValue ∈ a_G := a_in5 (List.mem_of_getElem? (i := 214) rfl) rfl
theorem gL_X4_87 : Cond.methodLink RX4 87 yX4_typeOf ∈ a_G := a_in5 (List.mem_of_getElem? (i := 218) rfl) rfl
theorem gL_X0_115 : Cond.methodLink RX0 115 yX3_init ∈ a_G := a_in5 (List.mem_of_getElem? (i := 221) rfl) rfl
theorem gL_X3_3 : Cond.methodLink RX3 3 objectInit ∈ a_G := a_in5 (List.mem_of_getElem? (i := 224) rfl) rfl
theorem gL_X0_124 : Cond.methodLink RX0 124 yX9_is ∈ a_G := a_in6 (List.mem_of_getElem? (i := 12) rfl) rfl
theorem gL_X0_90 : Cond.methodLink RX0 90 yX0_writeDifferences ∈ a_G := a_in6 (List.mem_of_getElem? (i := 13) rfl) rfl
theorem gL_X0_139 : Cond.methodLink RX0 139 yX2_isDiffering ∈ a_G := a_in6 (List.mem_of_getElem? (i := 17) rfl) rfl
theorem gL_X0_143 : Cond.methodLink RX0 143 yX3_write ∈ a_G := a_in6 (List.mem_of_getElem? (i := 18) rfl) rfl
theorem gL_X0_93 : Cond.methodLink RX0 93 yX0_endResource ∈ a_G := a_in6 (List.mem_of_getElem? (i := 22) rfl) rfl
theorem gL_X0_77 : Cond.methodLink RX0 77 yX0_goOn ∈ a_G := a_in6 (List.mem_of_getElem? (i := 26) rfl) rfl
theorem gL_X0_146 : Cond.methodLink RX0 146 yX0_isLeftOut ∈ a_G := a_in6 (List.mem_of_getElem? (i := 30) rfl) rfl
theorem gL_X0_150 : Cond.methodLink RX0 150 yX4_generatorOf ∈ a_G := a_in6 (List.mem_of_getElem? (i := 34) rfl) rfl
theorem gL_X0_159 : Cond.methodLink RX0 159 yX4_generatorOfSource ∈ a_G := a_in6 (List.mem_of_getElem? (i := 35) rfl) rfl
theorem gL_L_115 : Cond.methodLink RL 115 yX11_entry ∈ a_G := a_in6 (List.mem_of_getElem? (i := 36) rfl) rfl
theorem gL_L_118 : Cond.methodLink RL 118 yX11_stored ∈ a_G := a_in6 (List.mem_of_getElem? (i := 40) rfl) rfl
theorem gL_L_121 : Cond.methodLink RL 121 yX11_real ∈ a_G := a_in6 (List.mem_of_getElem? (i := 44) rfl) rfl
theorem gL_L_124 : Cond.methodLink RL 124 yX11_change ∈ a_G := a_in6 (List.mem_of_getElem? (i := 48) rfl) rfl
theorem gL_L_127 : Cond.methodLink RL 127 yX11_destroy ∈ a_G := a_in6 (List.mem_of_getElem? (i := 52) rfl) rfl
theorem gL_L_130 : Cond.methodLink RL 130 yX11_make ∈ a_G := a_in6 (List.mem_of_getElem? (i := 56) rfl) rfl
theorem gL_X11_345 : Cond.methodLink RX11 345 yX4_addResource ∈ a_G := a_in6 (List.mem_of_getElem? (i := 60) rfl) rfl
theorem gL_L_133 : Cond.methodLink RL 133 yX11_read ∈ a_G := a_in6 (List.mem_of_getElem? (i := 61) rfl) rfl
theorem gL_X11_348 : Cond.methodLink RX11 348 yX2_readWorld ∈ a_G := a_in6 (List.mem_of_getElem? (i := 65) rfl) rfl
theorem gL_X2_194 : Cond.methodLink RX2 194 yX2_followDrift ∈ a_G := a_in6 (List.mem_of_getElem? (i := 69) rfl) rfl
theorem gL_X2_207 : Cond.methodLink RX2 207 yX3_follow ∈ a_G := a_in6 (List.mem_of_getElem? (i := 73) rfl) rfl
theorem gL_X3_25 : Cond.methodLink RX3 25 yX3_write ∈ a_G := a_in6 (List.mem_of_getElem? (i := 77) rfl) rfl
theorem gL_L_137 : Cond.methodLink RL 137 yX11_move ∈ a_G := a_in6 (List.mem_of_getElem? (i := 78) rfl) rfl
theorem gL_X11_351 : Cond.methodLink RX11 351 yX4_typeNumberOf ∈ a_G := a_in6 (List.mem_of_getElem? (i := 82) rfl) rfl
theorem gL_L_140 : Cond.methodLink RL 140 yX11_take ∈ a_G := a_in6 (List.mem_of_getElem? (i := 83) rfl) rfl
theorem gL_X11_354 : Cond.methodLink RX11 354 yX4_hasEntry ∈ a_G := a_in6 (List.mem_of_getElem? (i := 87) rfl) rfl
theorem gL_X11_360 : Cond.methodLink RX11 360 yX4_importResource ∈ a_G := a_in6 (List.mem_of_getElem? (i := 91) rfl) rfl
theorem gL_X4_86 : Cond.methodLink RX4 86 yX3_init ∈ a_G := a_in6 (List.mem_of_getElem? (i := 95) rfl) rfl
theorem gL_L_162 : Cond.methodLink RL 162 yL_refuses ∈ a_G := a_in6 (List.mem_of_getElem? (i := 96) rfl) rfl
theorem gL_L_143 : Cond.methodLink RL 143 yX11_serial ∈ a_G := a_in6 (List.mem_of_getElem? (i := 99) rfl) rfl
theorem gL_L_146 : Cond.methodLink RL 146 yX11_resources ∈ a_G := a_in6 (List.mem_of_getElem? (i := 103) rfl) rfl
theorem gL_L_205 : Cond.methodLink RL 205 yL_values ∈ a_G := a_in6 (List.mem_of_getElem? (i := 108) rfl) rfl
theorem gL_L_167 : Cond.methodLink RL 167 yL_sets ∈ a_G := a_in6 (List.mem_of_getElem? (i := 112) rfl) rfl
theorem gL_L_174 : Cond.methodLink RL 174 yX11_tainted ∈ a_G := a_in6 (List.mem_of_getElem? (i := 115) rfl) rfl
theorem gL_L_208 : Cond.methodLink RL 208 yL_faults ∈ a_G := a_in6 (List.mem_of_getElem? (i := 127) rfl) rfl
theorem gL_L_211 : Cond.methodLink RL 211 yL_plans ∈ a_G := a_in6 (List.mem_of_getElem? (i := 130) rfl) rfl
theorem gL_L_188 : Cond.methodLink RL 188 yX11_isApplying ∈ a_G := a_in6 (List.mem_of_getElem? (i := 133) rfl) rfl
theorem gL_L_191 : Cond.methodLink RL 191 yL_has ∈ a_G := a_in6 (List.mem_of_getElem? (i := 137) rfl) rfl
theorem gL_L_195 : Cond.methodLink RL 195 yL_is ∈ a_G := a_in6 (List.mem_of_getElem? (i := 140) rfl) rfl
theorem gL_L_198 : Cond.methodLink RL 198 yL_begins ∈ a_G := a_in6 (List.mem_of_getElem? (i := 143) rfl) rfl
theorem gL_L_214 : Cond.methodLink RL 214 yL_worlds ∈ a_G := a_in6 (List.mem_of_getElem? (i := 146) rfl) rfl
theorem gL_L_202 : Cond.methodLink RL 202 yL_limits ∈ a_G := a_in6 (List.mem_of_getElem? (i := 149) rfl) rfl
theorem gI_X11_init : Cond.instanceMethod yX11_init ∈ a_G := a_in1 (List.mem_of_getElem? (i := 28) rfl) rfl
theorem gI_X1_init : Cond.instanceMethod yX1_init ∈ a_G := a_in1 (List.mem_of_getElem? (i := 36) rfl) rfl
theorem gS_J7_fill_53178 : Cond.static yJ7_fill_53178 ∈ a_G := a_in1 (List.mem_of_getElem? (i := 42) rfl) rfl
theorem gI_X10_init : Cond.instanceMethod yX10_init ∈ a_G := a_in1 (List.mem_of_getElem? (i := 89) rfl) rfl
theorem gI_X7_init : Cond.instanceMethod yX7_init ∈ a_G := a_in1 (List.mem_of_getElem? (i := 95) rfl) rfl
theorem gI_X4_init : Cond.instanceMethod yX4_init ∈ a_G := a_in1 (List.mem_of_getElem? (i := 158) rfl) rfl
theorem gI_X9_init : Cond.instanceMethod yX9_init ∈ a_G := a_in1 (List.mem_of_getElem? (i := 169) rfl) rfl
theorem gI_X2_init : Cond.instanceMethod yX2_init ∈ a_G := a_in2 (List.mem_of_getElem? (i := 7) rfl) rfl
theorem gI_X0_init : Cond.instanceMethod yX0_init ∈ a_G := a_in2 (List.mem_of_getElem? (i := 38) rfl) rfl
theorem gI_X11_remove : Cond.instanceMethod yX11_remove ∈ a_G := a_in2 (List.mem_of_getElem? (i := 101) rfl) rfl
theorem gS_X11_isBelow : Cond.static yX11_isBelow ∈ a_G := a_in2 (List.mem_of_getElem? (i := 105) rfl) rfl
theorem gS_X11_needIndex : Cond.static yX11_needIndex ∈ a_G := a_in2 (List.mem_of_getElem? (i := 108) rfl) rfl
theorem gI_X10_forget : Cond.instanceMethod yX10_forget ∈ a_G := a_in2 (List.mem_of_getElem? (i := 174) rfl) rfl
theorem gI_X10_settle : Cond.instanceMethod yX10_settle ∈ a_G := a_in2 (List.mem_of_getElem? (i := 178) rfl) rfl
theorem gI_X1_examine : Cond.instanceMethod yX1_examine ∈ a_G := a_in2 (List.mem_of_getElem? (i := 182) rfl) rfl
theorem gI_X1_findWanted : Cond.instanceMethod yX1_findWanted ∈ a_G := a_in2 (List.mem_of_getElem? (i := 187) rfl) rfl
theorem gI_X1_isAsking : Cond.instanceMethod yX1_isAsking ∈ a_G := a_in2 (List.mem_of_getElem? (i := 192) rfl) rfl
theorem gI_X1_addWanted : Cond.instanceMethod yX1_addWanted ∈ a_G := a_in2 (List.mem_of_getElem? (i := 196) rfl) rfl
theorem gS_J9_min_7cf53 : Cond.static yJ9_min_7cf53 ∈ a_G := a_in2 (List.mem_of_getElem? (i := 199) rfl) rfl
theorem gI_X1_chosenVersion : Cond.instanceMethod yX1_chosenVersion ∈ a_G := a_in2 (List.mem_of_getElem? (i := 203) rfl) rfl
theorem gS_J6_numberOfLeadingZeros_0f7a4 : Cond.static yJ6_numberOfLeadingZeros_0f7a4 ∈ a_G := a_in2 (List.mem_of_getElem? (i := 206) rfl) rfl
theorem gI_X1_findGuard : Cond.instanceMethod yX1_findGuard ∈ a_G := a_in2 (List.mem_of_getElem? (i := 211) rfl) rfl
theorem gI_X8_isNarrowing : Cond.instanceMethod yX8_isNarrowing ∈ a_G := a_in2 (List.mem_of_getElem? (i := 214) rfl) rfl
theorem gI_X8_isTogetherWith : Cond.instanceMethod yX8_isTogetherWith ∈ a_G := a_in2 (List.mem_of_getElem? (i := 218) rfl) rfl
theorem gI_X1_findFault : Cond.instanceMethod yX1_findFault ∈ a_G := a_in2 (List.mem_of_getElem? (i := 223) rfl) rfl
theorem gI_X8_fields : Cond.instanceMethod yX8_fields ∈ a_G := a_in2 (List.mem_of_getElem? (i := 226) rfl) rfl
theorem gI_X8_isJoining : Cond.instanceMethod yX8_isJoining ∈ a_G := a_in2 (List.mem_of_getElem? (i := 230) rfl) rfl
theorem gI_X1_isHiddenFrom : Cond.instanceMethod yX1_isHiddenFrom ∈ a_G := a_in2 (List.mem_of_getElem? (i := 235) rfl) rfl
theorem gI_X1_isLockedFor : Cond.instanceMethod yX1_isLockedFor ∈ a_G := a_in2 (List.mem_of_getElem? (i := 239) rfl) rfl
theorem gI_X7_fill : Cond.instanceMethod yX7_fill ∈ a_G := a_in3 (List.mem_of_getElem? (i := 2) rfl) rfl
theorem gS_J7_fill_d0a16 : Cond.static yJ7_fill_d0a16 ∈ a_G := a_in3 (List.mem_of_getElem? (i := 7) rfl) rfl
theorem gI_X10_narrowAll : Cond.instanceMethod yX10_narrowAll ∈ a_G := a_in3 (List.mem_of_getElem? (i := 11) rfl) rfl
theorem gS_X10_isCounting : Cond.static yX10_isCounting ∈ a_G := a_in3 (List.mem_of_getElem? (i := 15) rfl) rfl
theorem gI_X7_hasNoneBut : Cond.instanceMethod yX7_hasNoneBut ∈ a_G := a_in3 (List.mem_of_getElem? (i := 19) rfl) rfl
theorem gI_X7_narrow : Cond.instanceMethod yX7_narrow ∈ a_G := a_in3 (List.mem_of_getElem? (i := 23) rfl) rfl
theorem gI_X7_keep : Cond.instanceMethod yX7_keep ∈ a_G := a_in3 (List.mem_of_getElem? (i := 28) rfl) rfl
theorem gS_X7_range : Cond.static yX7_range ∈ a_G := a_in3 (List.mem_of_getElem? (i := 31) rfl) rfl
theorem gS_X7_moved : Cond.static yX7_moved ∈ a_G := a_in3 (List.mem_of_getElem? (i := 34) rfl) rfl
theorem gS_X7_below : Cond.static yX7_below ∈ a_G := a_in3 (List.mem_of_getElem? (i := 37) rfl) rfl
theorem gS_J13_numberOfLeadingZeros_95d88 : Cond.static yJ13_numberOfLeadingZeros_95d88 ∈ a_G := a_in3 (List.mem_of_getElem? (i := 40) rfl) rfl
theorem gS_X7_above : Cond.static yX7_above ∈ a_G := a_in3 (List.mem_of_getElem? (i := 44) rfl) rfl
theorem gS_J13_numberOfTrailingZeros_95d88 : Cond.static yJ13_numberOfTrailingZeros_95d88 ∈ a_G := a_in3 (List.mem_of_getElem? (i := 47) rfl) rfl
theorem gS_J6_numberOfTrailingZeros_0f7a4 : Cond.static yJ6_numberOfTrailingZeros_0f7a4 ∈ a_G := a_in3 (List.mem_of_getElem? (i := 50) rfl) rfl
theorem gI_X7_hasEmpty : Cond.instanceMethod yX7_hasEmpty ∈ a_G := a_in3 (List.mem_of_getElem? (i := 53) rfl) rfl
theorem gI_X7_copy : Cond.instanceMethod yX7_copy ∈ a_G := a_in3 (List.mem_of_getElem? (i := 57) rfl) rfl
theorem gI_X10_takeDefaults : Cond.instanceMethod yX10_takeDefaults ∈ a_G := a_in3 (List.mem_of_getElem? (i := 65) rfl) rfl
theorem gI_X10_defaultsOf : Cond.instanceMethod yX10_defaultsOf ∈ a_G := a_in3 (List.mem_of_getElem? (i := 69) rfl) rfl
theorem gS_J13_bitCount_95d88 : Cond.static yJ13_bitCount_95d88 ∈ a_G := a_in3 (List.mem_of_getElem? (i := 72) rfl) rfl
theorem gI_X10_findValue : Cond.instanceMethod yX10_findValue ∈ a_G := a_in3 (List.mem_of_getElem? (i := 79) rfl) rfl
theorem gS_X7_least : Cond.static yX7_least ∈ a_G := a_in3 (List.mem_of_getElem? (i := 82) rfl) rfl
theorem gI_X10_findTainted : Cond.instanceMethod yX10_findTainted ∈ a_G := a_in3 (List.mem_of_getElem? (i := 86) rfl) rfl
theorem gI_X10_isTainting : Cond.instanceMethod yX10_isTainting ∈ a_G := a_in3 (List.mem_of_getElem? (i := 90) rfl) rfl
theorem gI_X10_isTainted : Cond.instanceMethod yX10_isTainted ∈ a_G := a_in3 (List.mem_of_getElem? (i := 93) rfl) rfl
theorem gI_X1_countThere : Cond.instanceMethod yX1_countThere ∈ a_G := a_in3 (List.mem_of_getElem? (i := 99) rfl) rfl
theorem gI_X11_pass : Cond.instanceMethod yX11_pass ∈ a_G := a_in3 (List.mem_of_getElem? (i := 103) rfl) rfl
theorem gS_X11_isWithin : Cond.static yX11_isWithin ∈ a_G := a_in3 (List.mem_of_getElem? (i := 107) rfl) rfl
theorem gS_X11_needArgument : Cond.static yX11_needArgument ∈ a_G := a_in3 (List.mem_of_getElem? (i := 110) rfl) rfl
theorem gI_X0_dayComes : Cond.instanceMethod yX0_dayComes ∈ a_G := a_in3 (List.mem_of_getElem? (i := 128) rfl) rfl
theorem gI_X0_end : Cond.instanceMethod yX0_end ∈ a_G := a_in3 (List.mem_of_getElem? (i := 133) rfl) rfl
theorem gI_X11_standing : Cond.instanceMethod yX11_standing ∈ a_G := a_in3 (List.mem_of_getElem? (i := 136) rfl) rfl
theorem gI_X11_value : Cond.instanceMethod yX11_value ∈ a_G := a_in3 (List.mem_of_getElem? (i := 141) rfl) rfl
theorem gI_X11_set : Cond.instanceMethod yX11_set ∈ a_G := a_in3 (List.mem_of_getElem? (i := 145) rfl) rfl
theorem gI_X7_summary : Cond.instanceMethod yX7_summary ∈ a_G := a_in3 (List.mem_of_getElem? (i := 149) rfl) rfl
theorem gS_X7_greatest : Cond.static yX7_greatest ∈ a_G := a_in3 (List.mem_of_getElem? (i := 155) rfl) rfl
theorem gI_X11_setAnew : Cond.instanceMethod yX11_setAnew ∈ a_G := a_in3 (List.mem_of_getElem? (i := 158) rfl) rfl
theorem gI_X10_narrowBackwards : Cond.instanceMethod yX10_narrowBackwards ∈ a_G := a_in3 (List.mem_of_getElem? (i := 162) rfl) rfl
theorem gI_X10_narrowOut : Cond.instanceMethod yX10_narrowOut ∈ a_G := a_in3 (List.mem_of_getElem? (i := 167) rfl) rfl
theorem gI_X11_conflict : Cond.instanceMethod yX11_conflict ∈ a_G := a_in3 (List.mem_of_getElem? (i := 170) rfl) rfl
theorem gI_X10_leastConflict : Cond.instanceMethod yX10_leastConflict ∈ a_G := a_in3 (List.mem_of_getElem? (i := 174) rfl) rfl
theorem gI_X10_seekConflict : Cond.instanceMethod yX10_seekConflict ∈ a_G := a_in3 (List.mem_of_getElem? (i := 179) rfl) rfl
theorem gI_X10_findSuspects : Cond.instanceMethod yX10_findSuspects ∈ a_G := a_in3 (List.mem_of_getElem? (i := 183) rfl) rfl
theorem gI_X10_isClash : Cond.instanceMethod yX10_isClash ∈ a_G := a_in3 (List.mem_of_getElem? (i := 187) rfl) rfl
theorem gI_X10_isJoined : Cond.instanceMethod yX10_isJoined ∈ a_G := a_in3 (List.mem_of_getElem? (i := 191) rfl) rfl
theorem gI_X10_seekTriple : Cond.instanceMethod yX10_seekTriple ∈ a_G := a_in3 (List.mem_of_getElem? (i := 195) rfl) rfl
theorem gI_X10_isChain : Cond.instanceMethod yX10_isChain ∈ a_G := a_in3 (List.mem_of_getElem? (i := 199) rfl) rfl
theorem gI_X11_setType : Cond.instanceMethod yX11_setType ∈ a_G := a_in3 (List.mem_of_getElem? (i := 202) rfl) rfl
theorem gI_X4_isInUse : Cond.instanceMethod yX4_isInUse ∈ a_G := a_in3 (List.mem_of_getElem? (i := 206) rfl) rfl
theorem gS_X11_needState : Cond.static yX11_needState ∈ a_G := a_in3 (List.mem_of_getElem? (i := 210) rfl) rfl
theorem gI_X11_generator : Cond.instanceMethod yX11_generator ∈ a_G := a_in3 (List.mem_of_getElem? (i := 228) rfl) rfl
theorem gI_X4_addGenerator : Cond.instanceMethod yX4_addGenerator ∈ a_G := a_in3 (List.mem_of_getElem? (i := 232) rfl) rfl
theorem gI_X5_init : Cond.instanceMethod yX5_init ∈ a_G := a_in3 (List.mem_of_getElem? (i := 237) rfl) rfl
theorem gI_X11_bind : Cond.instanceMethod yX11_bind ∈ a_G := a_in4 (List.mem_of_getElem? (i := 23) rfl) rfl
theorem gI_X4_typeOfGenerator : Cond.instanceMethod yX4_typeOfGenerator ∈ a_G := a_in4 (List.mem_of_getElem? (i := 27) rfl) rfl
theorem gI_X9_is : Cond.instanceMethod yX9_is ∈ a_G := a_in4 (List.mem_of_getElem? (i := 31) rfl) rfl
theorem gI_X4_isComputedSource : Cond.instanceMethod yX4_isComputedSource ∈ a_G := a_in4 (List.mem_of_getElem? (i := 35) rfl) rfl
theorem gS_X4_generatorOfSource : Cond.static yX4_generatorOfSource ∈ a_G := a_in4 (List.mem_of_getElem? (i := 39) rfl) rfl
theorem gS_X4_attributeOfSource : Cond.static yX4_attributeOfSource ∈ a_G := a_in4 (List.mem_of_getElem? (i := 43) rfl) rfl
theorem gI_X11_pending : Cond.instanceMethod yX11_pending ∈ a_G := a_in4 (List.mem_of_getElem? (i := 47) rfl) rfl
theorem gI_X2_listActions : Cond.instanceMethod yX2_listActions ∈ a_G := a_in4 (List.mem_of_getElem? (i := 51) rfl) rfl
theorem gI_X2_canPlan : Cond.instanceMethod yX2_canPlan ∈ a_G := a_in4 (List.mem_of_getElem? (i := 56) rfl) rfl
theorem gI_X1_hasFault : Cond.instanceMethod yX1_hasFault ∈ a_G := a_in4 (List.mem_of_getElem? (i := 59) rfl) rfl
theorem gI_X2_canPlanSource : Cond.instanceMethod yX2_canPlanSource ∈ a_G := a_in4 (List.mem_of_getElem? (i := 64) rfl) rfl
theorem gI_X5_hasKeysOf : Cond.instanceMethod yX5_hasKeysOf ∈ a_G := a_in4 (List.mem_of_getElem? (i := 68) rfl) rfl
theorem gI_X5_hasKey : Cond.instanceMethod yX5_hasKey ∈ a_G := a_in4 (List.mem_of_getElem? (i := 72) rfl) rfl
theorem gI_X2_lookAtAll : Cond.instanceMethod yX2_lookAtAll ∈ a_G := a_in4 (List.mem_of_getElem? (i := 78) rfl) rfl
theorem gI_X4_names : Cond.instanceMethod yX4_names ∈ a_G := a_in4 (List.mem_of_getElem? (i := 82) rfl) rfl
theorem gI_X2_lookAt : Cond.instanceMethod yX2_lookAt ∈ a_G := a_in4 (List.mem_of_getElem? (i := 87) rfl) rfl
theorem gI_X2_sourceGives : Cond.instanceMethod yX2_sourceGives ∈ a_G := a_in4 (List.mem_of_getElem? (i := 91) rfl) rfl
theorem gI_X4_generatorOf : Cond.instanceMethod yX4_generatorOf ∈ a_G := a_in4 (List.mem_of_getElem? (i := 94) rfl) rfl
theorem gI_X2_fieldGives : Cond.instanceMethod yX2_fieldGives ∈ a_G := a_in4 (List.mem_of_getElem? (i := 99) rfl) rfl
theorem gI_X4_typeOf : Cond.instanceMethod yX4_typeOf ∈ a_G := a_in4 (List.mem_of_getElem? (i := 102) rfl) rfl
theorem gI_X2_converted : Cond.instanceMethod yX2_converted ∈ a_G := a_in4 (List.mem_of_getElem? (i := 108) rfl) rfl
theorem gI_X2_findNeed : Cond.instanceMethod yX2_findNeed ∈ a_G := a_in4 (List.mem_of_getElem? (i := 112) rfl) rfl
theorem gI_X4_hasKey : Cond.instanceMethod yX4_hasKey ∈ a_G := a_in4 (List.mem_of_getElem? (i := 115) rfl) rfl
theorem gI_X2_isDiffering : Cond.instanceMethod yX2_isDiffering ∈ a_G := a_in4 (List.mem_of_getElem? (i := 120) rfl) rfl
theorem gI_X3_isAdoptedOn : Cond.instanceMethod yX3_isAdoptedOn ∈ a_G := a_in4 (List.mem_of_getElem? (i := 124) rfl) rfl
theorem gI_X2_addMaking : Cond.instanceMethod yX2_addMaking ∈ a_G := a_in4 (List.mem_of_getElem? (i := 129) rfl) rfl
theorem gI_X2_addAction : Cond.instanceMethod yX2_addAction ∈ a_G := a_in4 (List.mem_of_getElem? (i := 133) rfl) rfl
theorem gI_X2_addEnding : Cond.instanceMethod yX2_addEnding ∈ a_G := a_in4 (List.mem_of_getElem? (i := 137) rfl) rfl
theorem gI_X11_differing : Cond.instanceMethod yX11_differing ∈ a_G := a_in4 (List.mem_of_getElem? (i := 140) rfl) rfl
theorem gI_X2_countDiffering : Cond.instanceMethod yX2_countDiffering ∈ a_G := a_in4 (List.mem_of_getElem? (i := 144) rfl) rfl
theorem gI_X2_isMadeAlike : Cond.instanceMethod yX2_isMadeAlike ∈ a_G := a_in4 (List.mem_of_getElem? (i := 149) rfl) rfl
theorem gI_X2_valueBeside : Cond.instanceMethod yX2_valueBeside ∈ a_G := a_in4 (List.mem_of_getElem? (i := 153) rfl) rfl
theorem gI_X2_forgetComputed : Cond.instanceMethod yX2_forgetComputed ∈ a_G := a_in4 (List.mem_of_getElem? (i := 157) rfl) rfl
theorem gI_X11_approve : Cond.instanceMethod yX11_approve ∈ a_G := a_in4 (List.mem_of_getElem? (i := 160) rfl) rfl
theorem gI_X11_isStale : Cond.instanceMethod yX11_isStale ∈ a_G := a_in4 (List.mem_of_getElem? (i := 164) rfl) rfl
theorem gI_X2_hasAllOf : Cond.instanceMethod yX2_hasAllOf ∈ a_G := a_in4 (List.mem_of_getElem? (i := 168) rfl) rfl
theorem gI_X2_hasAction : Cond.instanceMethod yX2_hasAction ∈ a_G := a_in4 (List.mem_of_getElem? (i := 173) rfl) rfl
theorem gI_X11_apply : Cond.instanceMethod yX11_apply ∈ a_G := a_in4 (List.mem_of_getElem? (i := 176) rfl) rfl
theorem gI_X0_begin : Cond.instanceMethod yX0_begin ∈ a_G := a_in4 (List.mem_of_getElem? (i := 180) rfl) rfl
theorem gI_X11_isLocked : Cond.instanceMethod yX11_isLocked ∈ a_G := a_in4 (List.mem_of_getElem? (i := 185) rfl) rfl
theorem gS_L_act : Cond.static yL_act ∈ a_G := a_in4 (List.mem_of_getElem? (i := 189) rfl) rfl
theorem gI_X11_tell : Cond.instanceMethod yX11_tell ∈ a_G := a_in4 (List.mem_of_getElem? (i := 195) rfl) rfl
theorem gI_X11_needStatement : Cond.instanceMethod yX11_needStatement ∈ a_G := a_in4 (List.mem_of_getElem? (i := 200) rfl) rfl
theorem gS_X11_isFirstNumber : Cond.static yX11_isFirstNumber ∈ a_G := a_in4 (List.mem_of_getElem? (i := 203) rfl) rfl
theorem gS_X11_isSecondNumber : Cond.static yX11_isSecondNumber ∈ a_G := a_in4 (List.mem_of_getElem? (i := 206) rfl) rfl
theorem gI_X8_init : Cond.instanceMethod yX8_init ∈ a_G := a_in4 (List.mem_of_getElem? (i := 211) rfl) rfl
theorem gI_X11_addStatement : Cond.instanceMethod yX11_addStatement ∈ a_G := a_in5 (List.mem_of_getElem? (i := 34) rfl) rfl
theorem gI_X11_draft : Cond.instanceMethod yX11_draft ∈ a_G := a_in5 (List.mem_of_getElem? (i := 37) rfl) rfl
theorem gI_X11_publish : Cond.instanceMethod yX11_publish ∈ a_G := a_in5 (List.mem_of_getElem? (i := 41) rfl) rfl
theorem gI_X1_closeDraft : Cond.instanceMethod yX1_closeDraft ∈ a_G := a_in5 (List.mem_of_getElem? (i := 45) rfl) rfl
theorem gI_X11_setLayer : Cond.instanceMethod yX11_setLayer ∈ a_G := a_in5 (List.mem_of_getElem? (i := 49) rfl) rfl
theorem gI_X11_lock : Cond.instanceMethod yX11_lock ∈ a_G := a_in5 (List.mem_of_getElem? (i := 53) rfl) rfl
theorem gI_X11_except : Cond.instanceMethod yX11_except ∈ a_G := a_in5 (List.mem_of_getElem? (i := 57) rfl) rfl
theorem gI_X11_policy : Cond.instanceMethod yX11_policy ∈ a_G := a_in5 (List.mem_of_getElem? (i := 61) rfl) rfl
theorem gI_X11_proof : Cond.instanceMethod yX11_proof ∈ a_G := a_in5 (List.mem_of_getElem? (i := 66) rfl) rfl
theorem gS_L_types : Cond.static yL_types ∈ a_G := a_in5 (List.mem_of_getElem? (i := 72) rfl) rfl
theorem gI_X11_key : Cond.instanceMethod yX11_key ∈ a_G := a_in5 (List.mem_of_getElem? (i := 75) rfl) rfl
theorem gI_X5_putKey : Cond.instanceMethod yX5_putKey ∈ a_G := a_in5 (List.mem_of_getElem? (i := 80) rfl) rfl
theorem gI_X11_unkey : Cond.instanceMethod yX11_unkey ∈ a_G := a_in5 (List.mem_of_getElem? (i := 84) rfl) rfl
theorem gI_X5_takeKey : Cond.instanceMethod yX5_takeKey ∈ a_G := a_in5 (List.mem_of_getElem? (i := 88) rfl) rfl
theorem gI_X11_upgrade : Cond.instanceMethod yX11_upgrade ∈ a_G := a_in5 (List.mem_of_getElem? (i := 92) rfl) rfl
theorem gI_X4_upgradeType : Cond.instanceMethod yX4_upgradeType ∈ a_G := a_in5 (List.mem_of_getElem? (i := 96) rfl) rfl
theorem gI_X4_turnSources : Cond.instanceMethod yX4_turnSources ∈ a_G := a_in5 (List.mem_of_getElem? (i := 101) rfl) rfl
theorem gI_X4_turnedSource : Cond.instanceMethod yX4_turnedSource ∈ a_G := a_in5 (List.mem_of_getElem? (i := 105) rfl) rfl
theorem gS_X3_turnRow : Cond.static yX3_turnRow ∈ a_G := a_in5 (List.mem_of_getElem? (i := 108) rfl) rfl
theorem gI_X4_typeNumberOf : Cond.instanceMethod yX4_typeNumberOf ∈ a_G := a_in5 (List.mem_of_getElem? (i := 112) rfl) rfl
theorem gI_X3_turn : Cond.instanceMethod yX3_turn ∈ a_G := a_in5 (List.mem_of_getElem? (i := 116) rfl) rfl
theorem gI_X11_given : Cond.instanceMethod yX11_given ∈ a_G := a_in5 (List.mem_of_getElem? (i := 121) rfl) rfl
theorem gI_X4_isName : Cond.instanceMethod yX4_isName ∈ a_G := a_in5 (List.mem_of_getElem? (i := 125) rfl) rfl
theorem gI_X11_plan : Cond.instanceMethod yX11_plan ∈ a_G := a_in5 (List.mem_of_getElem? (i := 131) rfl) rfl
theorem gS_J7_copyOf_59c91 : Cond.static yJ7_copyOf_59c91 ∈ a_G := a_in5 (List.mem_of_getElem? (i := 136) rfl) rfl
theorem gI_X6_init : Cond.instanceMethod yX6_init ∈ a_G := a_in5 (List.mem_of_getElem? (i := 148) rfl) rfl
theorem gS_L_more : Cond.static yL_more ∈ a_G := a_in5 (List.mem_of_getElem? (i := 173) rfl) rfl
theorem gI_X11_action : Cond.instanceMethod yX11_action ∈ a_G := a_in5 (List.mem_of_getElem? (i := 176) rfl) rfl
theorem gI_X11_rebase : Cond.instanceMethod yX11_rebase ∈ a_G := a_in5 (List.mem_of_getElem? (i := 180) rfl) rfl
theorem gI_X11_step : Cond.instanceMethod yX11_step ∈ a_G := a_in5 (List.mem_of_getElem? (i := 184) rfl) rfl
theorem gI_X0_isOn : Cond.instanceMethod yX0_isOn ∈ a_G := a_in5 (List.mem_of_getElem? (i := 188) rfl) rfl
theorem gI_X0_doNext : Cond.instanceMethod yX0_doNext ∈ a_G := a_in5 (List.mem_of_getElem? (i := 192) rfl) rfl
theorem gI_X0_isAble : Cond.instanceMethod yX0_isAble ∈ a_G := a_in5 (List.mem_of_getElem? (i := 198) rfl) rfl
theorem gI_X0_act : Cond.instanceMethod yX0_act ∈ a_G := a_in5 (List.mem_of_getElem? (i := 202) rfl) rfl
theorem gI_X0_makeResource : Cond.instanceMethod yX0_makeResource ∈ a_G := a_in5 (List.mem_of_getElem? (i := 206) rfl) rfl
theorem gI_X4_addResource : Cond.instanceMethod yX4_addResource ∈ a_G := a_in5 (List.mem_of_getElem? (i := 211) rfl) rfl
theorem gI_X4_takeComputedValue : Cond.instanceMethod yX4_takeComputedValue ∈ a_G := a_in5 (List.mem_of_getElem? (i := 215) rfl) rfl
theorem gI_X3_init : Cond.instanceMethod yX3_init ∈ a_G := a_in5 (List.mem_of_getElem? (i := 222) rfl) rfl
theorem gI_X0_writeDifferences : Cond.instanceMethod yX0_writeDifferences ∈ a_G := a_in6 (List.mem_of_getElem? (i := 15) rfl) rfl
theorem gI_X3_write : Cond.instanceMethod yX3_write ∈ a_G := a_in6 (List.mem_of_getElem? (i := 19) rfl) rfl
theorem gI_X0_endResource : Cond.instanceMethod yX0_endResource ∈ a_G := a_in6 (List.mem_of_getElem? (i := 24) rfl) rfl
theorem gI_X0_goOn : Cond.instanceMethod yX0_goOn ∈ a_G := a_in6 (List.mem_of_getElem? (i := 28) rfl) rfl
theorem gI_X0_isLeftOut : Cond.instanceMethod yX0_isLeftOut ∈ a_G := a_in6 (List.mem_of_getElem? (i := 32) rfl) rfl
theorem gI_X11_entry : Cond.instanceMethod yX11_entry ∈ a_G := a_in6 (List.mem_of_getElem? (i := 37) rfl) rfl
theorem gI_X11_stored : Cond.instanceMethod yX11_stored ∈ a_G := a_in6 (List.mem_of_getElem? (i := 41) rfl) rfl
theorem gI_X11_real : Cond.instanceMethod yX11_real ∈ a_G := a_in6 (List.mem_of_getElem? (i := 45) rfl) rfl
theorem gI_X11_change : Cond.instanceMethod yX11_change ∈ a_G := a_in6 (List.mem_of_getElem? (i := 49) rfl) rfl
theorem gI_X11_destroy : Cond.instanceMethod yX11_destroy ∈ a_G := a_in6 (List.mem_of_getElem? (i := 53) rfl) rfl
theorem gI_X11_make : Cond.instanceMethod yX11_make ∈ a_G := a_in6 (List.mem_of_getElem? (i := 57) rfl) rfl
theorem gI_X11_read : Cond.instanceMethod yX11_read ∈ a_G := a_in6 (List.mem_of_getElem? (i := 62) rfl) rfl
theorem gI_X2_readWorld : Cond.instanceMethod yX2_readWorld ∈ a_G := a_in6 (List.mem_of_getElem? (i := 66) rfl) rfl
theorem gI_X2_followDrift : Cond.instanceMethod yX2_followDrift ∈ a_G := a_in6 (List.mem_of_getElem? (i := 71) rfl) rfl
theorem gI_X3_follow : Cond.instanceMethod yX3_follow ∈ a_G := a_in6 (List.mem_of_getElem? (i := 74) rfl) rfl
theorem gI_X11_move : Cond.instanceMethod yX11_move ∈ a_G := a_in6 (List.mem_of_getElem? (i := 79) rfl) rfl
theorem gI_X11_take : Cond.instanceMethod yX11_take ∈ a_G := a_in6 (List.mem_of_getElem? (i := 84) rfl) rfl
theorem gI_X4_hasEntry : Cond.instanceMethod yX4_hasEntry ∈ a_G := a_in6 (List.mem_of_getElem? (i := 88) rfl) rfl
theorem gI_X4_importResource : Cond.instanceMethod yX4_importResource ∈ a_G := a_in6 (List.mem_of_getElem? (i := 92) rfl) rfl
theorem gS_L_refuses : Cond.static yL_refuses ∈ a_G := a_in6 (List.mem_of_getElem? (i := 97) rfl) rfl
theorem gI_X11_serial : Cond.instanceMethod yX11_serial ∈ a_G := a_in6 (List.mem_of_getElem? (i := 100) rfl) rfl
theorem gI_X11_resources : Cond.instanceMethod yX11_resources ∈ a_G := a_in6 (List.mem_of_getElem? (i := 104) rfl) rfl
theorem gS_L_values : Cond.static yL_values ∈ a_G := a_in6 (List.mem_of_getElem? (i := 109) rfl) rfl
theorem gS_L_sets : Cond.static yL_sets ∈ a_G := a_in6 (List.mem_of_getElem? (i := 113) rfl) rfl
theorem gI_X11_tainted : Cond.instanceMethod yX11_tainted ∈ a_G := a_in6 (List.mem_of_getElem? (i := 116) rfl) rfl
theorem gS_L_faults : Cond.static yL_faults ∈ a_G := a_in6 (List.mem_of_getElem? (i := 128) rfl) rfl
theorem gS_L_plans : Cond.static yL_plans ∈ a_G := a_in6 (List.mem_of_getElem? (i := 131) rfl) rfl
theorem gI_X11_isApplying : Cond.instanceMethod yX11_isApplying ∈ a_G := a_in6 (List.mem_of_getElem? (i := 134) rfl) rfl
theorem gS_L_has : Cond.static yL_has ∈ a_G := a_in6 (List.mem_of_getElem? (i := 138) rfl) rfl
theorem gS_L_is : Cond.static yL_is ∈ a_G := a_in6 (List.mem_of_getElem? (i := 141) rfl) rfl
theorem gS_L_begins : Cond.static yL_begins ∈ a_G := a_in6 (List.mem_of_getElem? (i := 144) rfl) rfl
theorem gS_L_worlds : Cond.static yL_worlds ∈ a_G := a_in6 (List.mem_of_getElem? (i := 147) rfl) rfl
theorem gS_L_limits : Cond.static yL_limits ∈ a_G := a_in6 (List.mem_of_getElem? (i := 150) rfl) rfl
theorem gE_X11_remove : Cond.selects yX11_remove.cls yX11_remove yX11_remove ∈ a_G := a_in2 (List.mem_of_getElem? (i := 102) rfl) rfl
theorem gE_X10_forget : Cond.selects yX10_forget.cls yX10_forget yX10_forget ∈ a_G := a_in2 (List.mem_of_getElem? (i := 175) rfl) rfl
theorem gE_X10_settle : Cond.selects yX10_settle.cls yX10_settle yX10_settle ∈ a_G := a_in2 (List.mem_of_getElem? (i := 179) rfl) rfl
theorem gE_X1_examine : Cond.selects yX1_examine.cls yX1_examine yX1_examine ∈ a_G := a_in2 (List.mem_of_getElem? (i := 183) rfl) rfl
theorem gE_X1_findWanted : Cond.selects yX1_findWanted.cls yX1_findWanted yX1_findWanted ∈ a_G := a_ip1 (q := (yX1_findWanted, _)) (List.mem_of_getElem? (i := 1) rfl)
theorem gE_X1_isAsking : Cond.selects yX1_isAsking.cls yX1_isAsking yX1_isAsking ∈ a_G := a_ip1 (q := (yX1_isAsking, _)) (List.mem_of_getElem? (i := 2) rfl)
theorem gE_X1_addWanted : Cond.selects yX1_addWanted.cls yX1_addWanted yX1_addWanted ∈ a_G := a_ip1 (q := (yX1_addWanted, _)) (List.mem_of_getElem? (i := 3) rfl)
theorem gE_X1_chosenVersion : Cond.selects yX1_chosenVersion.cls yX1_chosenVersion yX1_chosenVersion ∈ a_G := a_ip1 (q := (yX1_chosenVersion, _)) (List.mem_of_getElem? (i := 4) rfl)
theorem gE_X1_findGuard : Cond.selects yX1_findGuard.cls yX1_findGuard yX1_findGuard ∈ a_G := a_ip1 (q := (yX1_findGuard, _)) (List.mem_of_getElem? (i := 5) rfl)
theorem gE_X8_isNarrowing : Cond.selects yX8_isNarrowing.cls yX8_isNarrowing yX8_isNarrowing ∈ a_G := a_in2 (List.mem_of_getElem? (i := 215) rfl) rfl
theorem gE_X8_isTogetherWith : Cond.selects yX8_isTogetherWith.cls yX8_isTogetherWith yX8_isTogetherWith ∈ a_G := a_in2 (List.mem_of_getElem? (i := 219) rfl) rfl
theorem gE_X1_findFault : Cond.selects yX1_findFault.cls yX1_findFault yX1_findFault ∈ a_G := a_ip1 (q := (yX1_findFault, _)) (List.mem_of_getElem? (i := 6) rfl)
theorem gE_X8_fields : Cond.selects yX8_fields.cls yX8_fields yX8_fields ∈ a_G := a_in2 (List.mem_of_getElem? (i := 227) rfl) rfl
theorem gE_X8_isJoining : Cond.selects yX8_isJoining.cls yX8_isJoining yX8_isJoining ∈ a_G := a_in2 (List.mem_of_getElem? (i := 231) rfl) rfl
theorem gE_X1_isHiddenFrom : Cond.selects yX1_isHiddenFrom.cls yX1_isHiddenFrom yX1_isHiddenFrom ∈ a_G := a_ip1 (q := (yX1_isHiddenFrom, _)) (List.mem_of_getElem? (i := 7) rfl)
theorem gE_X1_isLockedFor : Cond.selects yX1_isLockedFor.cls yX1_isLockedFor yX1_isLockedFor ∈ a_G := a_ip1 (q := (yX1_isLockedFor, _)) (List.mem_of_getElem? (i := 8) rfl)
theorem gE_X7_fill : Cond.selects yX7_fill.cls yX7_fill yX7_fill ∈ a_G := a_in3 (List.mem_of_getElem? (i := 3) rfl) rfl
theorem gE_X10_narrowAll : Cond.selects yX10_narrowAll.cls yX10_narrowAll yX10_narrowAll ∈ a_G := a_ip1 (q := (yX10_narrowAll, _)) (List.mem_of_getElem? (i := 9) rfl)
theorem gE_X7_hasNoneBut : Cond.selects yX7_hasNoneBut.cls yX7_hasNoneBut yX7_hasNoneBut ∈ a_G := a_in3 (List.mem_of_getElem? (i := 20) rfl) rfl
theorem gE_X7_narrow : Cond.selects yX7_narrow.cls yX7_narrow yX7_narrow ∈ a_G := a_in3 (List.mem_of_getElem? (i := 24) rfl) rfl
theorem gE_X7_keep : Cond.selects yX7_keep.cls yX7_keep yX7_keep ∈ a_G := a_ip1 (q := (yX7_keep, _)) (List.mem_of_getElem? (i := 10) rfl)
theorem gE_X7_hasEmpty : Cond.selects yX7_hasEmpty.cls yX7_hasEmpty yX7_hasEmpty ∈ a_G := a_in3 (List.mem_of_getElem? (i := 54) rfl) rfl
theorem gE_X7_copy : Cond.selects yX7_copy.cls yX7_copy yX7_copy ∈ a_G := a_in3 (List.mem_of_getElem? (i := 58) rfl) rfl
theorem gE_X10_takeDefaults : Cond.selects yX10_takeDefaults.cls yX10_takeDefaults yX10_takeDefaults ∈ a_G := a_ip1 (q := (yX10_takeDefaults, _)) (List.mem_of_getElem? (i := 11) rfl)
theorem gE_X10_defaultsOf : Cond.selects yX10_defaultsOf.cls yX10_defaultsOf yX10_defaultsOf ∈ a_G := a_ip1 (q := (yX10_defaultsOf, _)) (List.mem_of_getElem? (i := 12) rfl)
theorem gE_X10_findValue : Cond.selects yX10_findValue.cls yX10_findValue yX10_findValue ∈ a_G := a_ip1 (q := (yX10_findValue, _)) (List.mem_of_getElem? (i := 13) rfl)
theorem gE_X10_findTainted : Cond.selects yX10_findTainted.cls yX10_findTainted yX10_findTainted ∈ a_G := a_ip1 (q := (yX10_findTainted, _)) (List.mem_of_getElem? (i := 14) rfl)
theorem gE_X10_isTainting : Cond.selects yX10_isTainting.cls yX10_isTainting yX10_isTainting ∈ a_G := a_ip1 (q := (yX10_isTainting, _)) (List.mem_of_getElem? (i := 15) rfl)
theorem gE_X10_isTainted : Cond.selects yX10_isTainted.cls yX10_isTainted yX10_isTainted ∈ a_G := a_in3 (List.mem_of_getElem? (i := 94) rfl) rfl
theorem gE_X1_countThere : Cond.selects yX1_countThere.cls yX1_countThere yX1_countThere ∈ a_G := a_in3 (List.mem_of_getElem? (i := 100) rfl) rfl
theorem gE_X11_pass : Cond.selects yX11_pass.cls yX11_pass yX11_pass ∈ a_G := a_in3 (List.mem_of_getElem? (i := 104) rfl) rfl
theorem gE_X0_dayComes : Cond.selects yX0_dayComes.cls yX0_dayComes yX0_dayComes ∈ a_G := a_in3 (List.mem_of_getElem? (i := 129) rfl) rfl
theorem gE_X0_end : Cond.selects yX0_end.cls yX0_end yX0_end ∈ a_G := a_ip2 (q := (yX0_end, _)) (List.mem_of_getElem? (i := 0) rfl)
theorem gE_X11_standing : Cond.selects yX11_standing.cls yX11_standing yX11_standing ∈ a_G := a_in3 (List.mem_of_getElem? (i := 137) rfl) rfl
theorem gE_X11_value : Cond.selects yX11_value.cls yX11_value yX11_value ∈ a_G := a_in3 (List.mem_of_getElem? (i := 142) rfl) rfl
theorem gE_X11_set : Cond.selects yX11_set.cls yX11_set yX11_set ∈ a_G := a_in3 (List.mem_of_getElem? (i := 146) rfl) rfl
theorem gE_X7_summary : Cond.selects yX7_summary.cls yX7_summary yX7_summary ∈ a_G := a_in3 (List.mem_of_getElem? (i := 150) rfl) rfl
theorem gE_X11_setAnew : Cond.selects yX11_setAnew.cls yX11_setAnew yX11_setAnew ∈ a_G := a_in3 (List.mem_of_getElem? (i := 159) rfl) rfl
theorem gE_X10_narrowBackwards : Cond.selects yX10_narrowBackwards.cls yX10_narrowBackwards yX10_narrowBackwards ∈ a_G := a_in3 (List.mem_of_getElem? (i := 163) rfl) rfl
theorem gE_X10_narrowOut : Cond.selects yX10_narrowOut.cls yX10_narrowOut yX10_narrowOut ∈ a_G := a_ip2 (q := (yX10_narrowOut, _)) (List.mem_of_getElem? (i := 1) rfl)
theorem gE_X11_conflict : Cond.selects yX11_conflict.cls yX11_conflict yX11_conflict ∈ a_G := a_in3 (List.mem_of_getElem? (i := 171) rfl) rfl
theorem gE_X10_leastConflict : Cond.selects yX10_leastConflict.cls yX10_leastConflict yX10_leastConflict ∈ a_G := a_in3 (List.mem_of_getElem? (i := 175) rfl) rfl
theorem gE_X10_seekConflict : Cond.selects yX10_seekConflict.cls yX10_seekConflict yX10_seekConflict ∈ a_G := a_ip2 (q := (yX10_seekConflict, _)) (List.mem_of_getElem? (i := 2) rfl)
theorem gE_X10_findSuspects : Cond.selects yX10_findSuspects.cls yX10_findSuspects yX10_findSuspects ∈ a_G := a_ip2 (q := (yX10_findSuspects, _)) (List.mem_of_getElem? (i := 3) rfl)
theorem gE_X10_isClash : Cond.selects yX10_isClash.cls yX10_isClash yX10_isClash ∈ a_G := a_ip2 (q := (yX10_isClash, _)) (List.mem_of_getElem? (i := 4) rfl)
theorem gE_X10_isJoined : Cond.selects yX10_isJoined.cls yX10_isJoined yX10_isJoined ∈ a_G := a_ip2 (q := (yX10_isJoined, _)) (List.mem_of_getElem? (i := 5) rfl)
theorem gE_X10_seekTriple : Cond.selects yX10_seekTriple.cls yX10_seekTriple yX10_seekTriple ∈ a_G := a_ip2 (q := (yX10_seekTriple, _)) (List.mem_of_getElem? (i := 6) rfl)
theorem gE_X10_isChain : Cond.selects yX10_isChain.cls yX10_isChain yX10_isChain ∈ a_G := a_ip2 (q := (yX10_isChain, _)) (List.mem_of_getElem? (i := 7) rfl)
theorem gE_X11_setType : Cond.selects yX11_setType.cls yX11_setType yX11_setType ∈ a_G := a_in3 (List.mem_of_getElem? (i := 203) rfl) rfl
theorem gE_X4_isInUse : Cond.selects yX4_isInUse.cls yX4_isInUse yX4_isInUse ∈ a_G := a_in3 (List.mem_of_getElem? (i := 207) rfl) rfl
theorem gE_X11_generator : Cond.selects yX11_generator.cls yX11_generator yX11_generator ∈ a_G := a_in3 (List.mem_of_getElem? (i := 229) rfl) rfl
theorem gE_X4_addGenerator : Cond.selects yX4_addGenerator.cls yX4_addGenerator yX4_addGenerator ∈ a_G := a_in3 (List.mem_of_getElem? (i := 233) rfl) rfl
theorem gE_X11_bind : Cond.selects yX11_bind.cls yX11_bind yX11_bind ∈ a_G := a_in4 (List.mem_of_getElem? (i := 24) rfl) rfl
theorem gE_X4_typeOfGenerator : Cond.selects yX4_typeOfGenerator.cls yX4_typeOfGenerator yX4_typeOfGenerator ∈ a_G := a_in4 (List.mem_of_getElem? (i := 28) rfl) rfl
theorem gE_X9_is : Cond.selects yX9_is.cls yX9_is yX9_is ∈ a_G := a_in4 (List.mem_of_getElem? (i := 32) rfl) rfl
theorem gE_X4_isComputedSource : Cond.selects yX4_isComputedSource.cls yX4_isComputedSource yX4_isComputedSource ∈ a_G := a_in4 (List.mem_of_getElem? (i := 36) rfl) rfl
theorem gE_X11_pending : Cond.selects yX11_pending.cls yX11_pending yX11_pending ∈ a_G := a_in4 (List.mem_of_getElem? (i := 48) rfl) rfl
theorem gE_X2_listActions : Cond.selects yX2_listActions.cls yX2_listActions yX2_listActions ∈ a_G := a_in4 (List.mem_of_getElem? (i := 52) rfl) rfl
theorem gE_X2_canPlan : Cond.selects yX2_canPlan.cls yX2_canPlan yX2_canPlan ∈ a_G := a_ip2 (q := (yX2_canPlan, _)) (List.mem_of_getElem? (i := 8) rfl)
theorem gE_X1_hasFault : Cond.selects yX1_hasFault.cls yX1_hasFault yX1_hasFault ∈ a_G := a_in4 (List.mem_of_getElem? (i := 60) rfl) rfl
theorem gE_X2_canPlanSource : Cond.selects yX2_canPlanSource.cls yX2_canPlanSource yX2_canPlanSource ∈ a_G := a_ip2 (q := (yX2_canPlanSource, _)) (List.mem_of_getElem? (i := 9) rfl)
theorem gE_X5_hasKeysOf : Cond.selects yX5_hasKeysOf.cls yX5_hasKeysOf yX5_hasKeysOf ∈ a_G := a_in4 (List.mem_of_getElem? (i := 69) rfl) rfl
theorem gE_X5_hasKey : Cond.selects yX5_hasKey.cls yX5_hasKey yX5_hasKey ∈ a_G := a_in4 (List.mem_of_getElem? (i := 73) rfl) rfl
theorem gE_X2_lookAtAll : Cond.selects yX2_lookAtAll.cls yX2_lookAtAll yX2_lookAtAll ∈ a_G := a_in4 (List.mem_of_getElem? (i := 79) rfl) rfl
theorem gE_X4_names : Cond.selects yX4_names.cls yX4_names yX4_names ∈ a_G := a_in4 (List.mem_of_getElem? (i := 83) rfl) rfl
theorem gE_X2_lookAt : Cond.selects yX2_lookAt.cls yX2_lookAt yX2_lookAt ∈ a_G := a_ip2 (q := (yX2_lookAt, _)) (List.mem_of_getElem? (i := 10) rfl)
theorem gE_X2_sourceGives : Cond.selects yX2_sourceGives.cls yX2_sourceGives yX2_sourceGives ∈ a_G := a_ip2 (q := (yX2_sourceGives, _)) (List.mem_of_getElem? (i := 11) rfl)
theorem gE_X4_generatorOf : Cond.selects yX4_generatorOf.cls yX4_generatorOf yX4_generatorOf ∈ a_G := a_in4 (List.mem_of_getElem? (i := 95) rfl) rfl
theorem gE_X2_fieldGives : Cond.selects yX2_fieldGives.cls yX2_fieldGives yX2_fieldGives ∈ a_G := a_ip2 (q := (yX2_fieldGives, _)) (List.mem_of_getElem? (i := 12) rfl)
theorem gE_X4_typeOf : Cond.selects yX4_typeOf.cls yX4_typeOf yX4_typeOf ∈ a_G := a_in4 (List.mem_of_getElem? (i := 103) rfl) rfl
theorem gE_X2_converted : Cond.selects yX2_converted.cls yX2_converted yX2_converted ∈ a_G := a_ip2 (q := (yX2_converted, _)) (List.mem_of_getElem? (i := 13) rfl)
theorem gE_X2_findNeed : Cond.selects yX2_findNeed.cls yX2_findNeed yX2_findNeed ∈ a_G := a_ip2 (q := (yX2_findNeed, _)) (List.mem_of_getElem? (i := 14) rfl)
theorem gE_X4_hasKey : Cond.selects yX4_hasKey.cls yX4_hasKey yX4_hasKey ∈ a_G := a_in4 (List.mem_of_getElem? (i := 116) rfl) rfl
theorem gE_X2_isDiffering : Cond.selects yX2_isDiffering.cls yX2_isDiffering yX2_isDiffering ∈ a_G := a_in4 (List.mem_of_getElem? (i := 121) rfl) rfl
theorem gE_X3_isAdoptedOn : Cond.selects yX3_isAdoptedOn.cls yX3_isAdoptedOn yX3_isAdoptedOn ∈ a_G := a_in4 (List.mem_of_getElem? (i := 125) rfl) rfl
theorem gE_X2_addMaking : Cond.selects yX2_addMaking.cls yX2_addMaking yX2_addMaking ∈ a_G := a_ip2 (q := (yX2_addMaking, _)) (List.mem_of_getElem? (i := 15) rfl)
theorem gE_X2_addAction : Cond.selects yX2_addAction.cls yX2_addAction yX2_addAction ∈ a_G := a_ip3 (q := (yX2_addAction, _)) (List.mem_of_getElem? (i := 0) rfl)
theorem gE_X2_addEnding : Cond.selects yX2_addEnding.cls yX2_addEnding yX2_addEnding ∈ a_G := a_ip3 (q := (yX2_addEnding, _)) (List.mem_of_getElem? (i := 1) rfl)
theorem gE_X11_differing : Cond.selects yX11_differing.cls yX11_differing yX11_differing ∈ a_G := a_in4 (List.mem_of_getElem? (i := 141) rfl) rfl
theorem gE_X2_countDiffering : Cond.selects yX2_countDiffering.cls yX2_countDiffering yX2_countDiffering ∈ a_G := a_in4 (List.mem_of_getElem? (i := 145) rfl) rfl
theorem gE_X2_isMadeAlike : Cond.selects yX2_isMadeAlike.cls yX2_isMadeAlike yX2_isMadeAlike ∈ a_G := a_ip3 (q := (yX2_isMadeAlike, _)) (List.mem_of_getElem? (i := 2) rfl)
theorem gE_X2_valueBeside : Cond.selects yX2_valueBeside.cls yX2_valueBeside yX2_valueBeside ∈ a_G := a_ip3 (q := (yX2_valueBeside, _)) (List.mem_of_getElem? (i := 3) rfl)
theorem gE_X2_forgetComputed : Cond.selects yX2_forgetComputed.cls yX2_forgetComputed yX2_forgetComputed ∈ a_G := a_ip3 (q := (yX2_forgetComputed, _)) (List.mem_of_getElem? (i := 4) rfl)
theorem gE_X11_approve : Cond.selects yX11_approve.cls yX11_approve yX11_approve ∈ a_G := a_in4 (List.mem_of_getElem? (i := 161) rfl) rfl
theorem gE_X11_isStale : Cond.selects yX11_isStale.cls yX11_isStale yX11_isStale ∈ a_G := a_in4 (List.mem_of_getElem? (i := 165) rfl) rfl
theorem gE_X2_hasAllOf : Cond.selects yX2_hasAllOf.cls yX2_hasAllOf yX2_hasAllOf ∈ a_G := a_in4 (List.mem_of_getElem? (i := 169) rfl) rfl
theorem gE_X2_hasAction : Cond.selects yX2_hasAction.cls yX2_hasAction yX2_hasAction ∈ a_G := a_ip3 (q := (yX2_hasAction, _)) (List.mem_of_getElem? (i := 5) rfl)
theorem gE_X11_apply : Cond.selects yX11_apply.cls yX11_apply yX11_apply ∈ a_G := a_in4 (List.mem_of_getElem? (i := 177) rfl) rfl
theorem gE_X0_begin : Cond.selects yX0_begin.cls yX0_begin yX0_begin ∈ a_G := a_in4 (List.mem_of_getElem? (i := 181) rfl) rfl
theorem gE_X11_isLocked : Cond.selects yX11_isLocked.cls yX11_isLocked yX11_isLocked ∈ a_G := a_in4 (List.mem_of_getElem? (i := 186) rfl) rfl
theorem gE_X11_tell : Cond.selects yX11_tell.cls yX11_tell yX11_tell ∈ a_G := a_in4 (List.mem_of_getElem? (i := 196) rfl) rfl
theorem gE_X11_needStatement : Cond.selects yX11_needStatement.cls yX11_needStatement yX11_needStatement ∈ a_G := a_ip3 (q := (yX11_needStatement, _)) (List.mem_of_getElem? (i := 6) rfl)
theorem gE_X11_addStatement : Cond.selects yX11_addStatement.cls yX11_addStatement yX11_addStatement ∈ a_G := a_ip3 (q := (yX11_addStatement, _)) (List.mem_of_getElem? (i := 7) rfl)
theorem gE_X11_draft : Cond.selects yX11_draft.cls yX11_draft yX11_draft ∈ a_G := a_in5 (List.mem_of_getElem? (i := 38) rfl) rfl
theorem gE_X11_publish : Cond.selects yX11_publish.cls yX11_publish yX11_publish ∈ a_G := a_in5 (List.mem_of_getElem? (i := 42) rfl) rfl
theorem gE_X1_closeDraft : Cond.selects yX1_closeDraft.cls yX1_closeDraft yX1_closeDraft ∈ a_G := a_in5 (List.mem_of_getElem? (i := 46) rfl) rfl
theorem gE_X11_setLayer : Cond.selects yX11_setLayer.cls yX11_setLayer yX11_setLayer ∈ a_G := a_in5 (List.mem_of_getElem? (i := 50) rfl) rfl
theorem gE_X11_lock : Cond.selects yX11_lock.cls yX11_lock yX11_lock ∈ a_G := a_in5 (List.mem_of_getElem? (i := 54) rfl) rfl
theorem gE_X11_except : Cond.selects yX11_except.cls yX11_except yX11_except ∈ a_G := a_in5 (List.mem_of_getElem? (i := 58) rfl) rfl
theorem gE_X11_policy : Cond.selects yX11_policy.cls yX11_policy yX11_policy ∈ a_G := a_in5 (List.mem_of_getElem? (i := 62) rfl) rfl
theorem gE_X11_proof : Cond.selects yX11_proof.cls yX11_proof yX11_proof ∈ a_G := a_in5 (List.mem_of_getElem? (i := 67) rfl) rfl
theorem gE_X11_key : Cond.selects yX11_key.cls yX11_key yX11_key ∈ a_G := a_in5 (List.mem_of_getElem? (i := 76) rfl) rfl
theorem gE_X5_putKey : Cond.selects yX5_putKey.cls yX5_putKey yX5_putKey ∈ a_G := a_in5 (List.mem_of_getElem? (i := 81) rfl) rfl
theorem gE_X11_unkey : Cond.selects yX11_unkey.cls yX11_unkey yX11_unkey ∈ a_G := a_in5 (List.mem_of_getElem? (i := 85) rfl) rfl
theorem gE_X5_takeKey : Cond.selects yX5_takeKey.cls yX5_takeKey yX5_takeKey ∈ a_G := a_in5 (List.mem_of_getElem? (i := 89) rfl) rfl
theorem gE_X11_upgrade : Cond.selects yX11_upgrade.cls yX11_upgrade yX11_upgrade ∈ a_G := a_in5 (List.mem_of_getElem? (i := 93) rfl) rfl
theorem gE_X4_upgradeType : Cond.selects yX4_upgradeType.cls yX4_upgradeType yX4_upgradeType ∈ a_G := a_in5 (List.mem_of_getElem? (i := 97) rfl) rfl
theorem gE_X4_turnSources : Cond.selects yX4_turnSources.cls yX4_turnSources yX4_turnSources ∈ a_G := a_ip3 (q := (yX4_turnSources, _)) (List.mem_of_getElem? (i := 8) rfl)
theorem gE_X4_turnedSource : Cond.selects yX4_turnedSource.cls yX4_turnedSource yX4_turnedSource ∈ a_G := a_ip3 (q := (yX4_turnedSource, _)) (List.mem_of_getElem? (i := 9) rfl)
theorem gE_X4_typeNumberOf : Cond.selects yX4_typeNumberOf.cls yX4_typeNumberOf yX4_typeNumberOf ∈ a_G := a_in5 (List.mem_of_getElem? (i := 113) rfl) rfl
theorem gE_X3_turn : Cond.selects yX3_turn.cls yX3_turn yX3_turn ∈ a_G := a_in5 (List.mem_of_getElem? (i := 117) rfl) rfl
theorem gE_X11_given : Cond.selects yX11_given.cls yX11_given yX11_given ∈ a_G := a_in5 (List.mem_of_getElem? (i := 122) rfl) rfl
theorem gE_X4_isName : Cond.selects yX4_isName.cls yX4_isName yX4_isName ∈ a_G := a_in5 (List.mem_of_getElem? (i := 126) rfl) rfl
theorem gE_X11_plan : Cond.selects yX11_plan.cls yX11_plan yX11_plan ∈ a_G := a_in5 (List.mem_of_getElem? (i := 132) rfl) rfl
theorem gE_X11_action : Cond.selects yX11_action.cls yX11_action yX11_action ∈ a_G := a_in5 (List.mem_of_getElem? (i := 177) rfl) rfl
theorem gE_X11_rebase : Cond.selects yX11_rebase.cls yX11_rebase yX11_rebase ∈ a_G := a_in5 (List.mem_of_getElem? (i := 181) rfl) rfl
theorem gE_X11_step : Cond.selects yX11_step.cls yX11_step yX11_step ∈ a_G := a_in5 (List.mem_of_getElem? (i := 185) rfl) rfl
theorem gE_X0_isOn : Cond.selects yX0_isOn.cls yX0_isOn yX0_isOn ∈ a_G := a_in5 (List.mem_of_getElem? (i := 189) rfl) rfl
theorem gE_X0_doNext : Cond.selects yX0_doNext.cls yX0_doNext yX0_doNext ∈ a_G := a_in5 (List.mem_of_getElem? (i := 193) rfl) rfl
theorem gE_X0_isAble : Cond.selects yX0_isAble.cls yX0_isAble yX0_isAble ∈ a_G := a_ip3 (q := (yX0_isAble, _)) (List.mem_of_getElem? (i := 10) rfl)
theorem gE_X0_act : Cond.selects yX0_act.cls yX0_act yX0_act ∈ a_G := a_ip3 (q := (yX0_act, _)) (List.mem_of_getElem? (i := 11) rfl)
theorem gE_X0_makeResource : Cond.selects yX0_makeResource.cls yX0_makeResource yX0_makeResource ∈ a_G := a_ip3 (q := (yX0_makeResource, _)) (List.mem_of_getElem? (i := 12) rfl)
theorem gE_X4_addResource : Cond.selects yX4_addResource.cls yX4_addResource yX4_addResource ∈ a_G := a_in5 (List.mem_of_getElem? (i := 212) rfl) rfl
theorem gE_X4_takeComputedValue : Cond.selects yX4_takeComputedValue.cls yX4_takeComputedValue yX4_takeComputedValue ∈ a_G := a_in5 (List.mem_of_getElem? (i := 216) rfl) rfl
theorem gE_X0_writeDifferences : Cond.selects yX0_writeDifferences.cls yX0_writeDifferences yX0_writeDifferences ∈ a_G := a_ip3 (q := (yX0_writeDifferences, _)) (List.mem_of_getElem? (i := 13) rfl)
theorem gE_X3_write : Cond.selects yX3_write.cls yX3_write yX3_write ∈ a_G := a_in6 (List.mem_of_getElem? (i := 20) rfl) rfl
theorem gE_X0_endResource : Cond.selects yX0_endResource.cls yX0_endResource yX0_endResource ∈ a_G := a_ip3 (q := (yX0_endResource, _)) (List.mem_of_getElem? (i := 14) rfl)
theorem gE_X0_goOn : Cond.selects yX0_goOn.cls yX0_goOn yX0_goOn ∈ a_G := a_ip3 (q := (yX0_goOn, _)) (List.mem_of_getElem? (i := 15) rfl)
theorem gE_X0_isLeftOut : Cond.selects yX0_isLeftOut.cls yX0_isLeftOut yX0_isLeftOut ∈ a_G := a_ip4 (q := (yX0_isLeftOut, _)) (List.mem_of_getElem? (i := 0) rfl)
theorem gE_X11_entry : Cond.selects yX11_entry.cls yX11_entry yX11_entry ∈ a_G := a_in6 (List.mem_of_getElem? (i := 38) rfl) rfl
theorem gE_X11_stored : Cond.selects yX11_stored.cls yX11_stored yX11_stored ∈ a_G := a_in6 (List.mem_of_getElem? (i := 42) rfl) rfl
theorem gE_X11_real : Cond.selects yX11_real.cls yX11_real yX11_real ∈ a_G := a_in6 (List.mem_of_getElem? (i := 46) rfl) rfl
theorem gE_X11_change : Cond.selects yX11_change.cls yX11_change yX11_change ∈ a_G := a_in6 (List.mem_of_getElem? (i := 50) rfl) rfl
theorem gE_X11_destroy : Cond.selects yX11_destroy.cls yX11_destroy yX11_destroy ∈ a_G := a_in6 (List.mem_of_getElem? (i := 54) rfl) rfl
theorem gE_X11_make : Cond.selects yX11_make.cls yX11_make yX11_make ∈ a_G := a_in6 (List.mem_of_getElem? (i := 58) rfl) rfl
theorem gE_X11_read : Cond.selects yX11_read.cls yX11_read yX11_read ∈ a_G := a_in6 (List.mem_of_getElem? (i := 63) rfl) rfl
theorem gE_X2_readWorld : Cond.selects yX2_readWorld.cls yX2_readWorld yX2_readWorld ∈ a_G := a_in6 (List.mem_of_getElem? (i := 67) rfl) rfl
theorem gE_X2_followDrift : Cond.selects yX2_followDrift.cls yX2_followDrift yX2_followDrift ∈ a_G := a_ip4 (q := (yX2_followDrift, _)) (List.mem_of_getElem? (i := 1) rfl)
theorem gE_X3_follow : Cond.selects yX3_follow.cls yX3_follow yX3_follow ∈ a_G := a_in6 (List.mem_of_getElem? (i := 75) rfl) rfl
theorem gE_X11_move : Cond.selects yX11_move.cls yX11_move yX11_move ∈ a_G := a_in6 (List.mem_of_getElem? (i := 80) rfl) rfl
theorem gE_X11_take : Cond.selects yX11_take.cls yX11_take yX11_take ∈ a_G := a_in6 (List.mem_of_getElem? (i := 85) rfl) rfl
theorem gE_X4_hasEntry : Cond.selects yX4_hasEntry.cls yX4_hasEntry yX4_hasEntry ∈ a_G := a_in6 (List.mem_of_getElem? (i := 89) rfl) rfl
theorem gE_X4_importResource : Cond.selects yX4_importResource.cls yX4_importResource yX4_importResource ∈ a_G := a_in6 (List.mem_of_getElem? (i := 93) rfl) rfl
theorem gE_X11_serial : Cond.selects yX11_serial.cls yX11_serial yX11_serial ∈ a_G := a_in6 (List.mem_of_getElem? (i := 101) rfl) rfl
theorem gE_X11_resources : Cond.selects yX11_resources.cls yX11_resources yX11_resources ∈ a_G := a_in6 (List.mem_of_getElem? (i := 105) rfl) rfl
theorem gE_X11_tainted : Cond.selects yX11_tainted.cls yX11_tainted yX11_tainted ∈ a_G := a_in6 (List.mem_of_getElem? (i := 117) rfl) rfl
theorem gE_X11_isApplying : Cond.selects yX11_isApplying.cls yX11_isApplying yX11_isApplying ∈ a_G := a_in6 (List.mem_of_getElem? (i := 135) rfl) rfl
