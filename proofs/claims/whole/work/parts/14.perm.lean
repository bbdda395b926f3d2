def a_tags : List aT := [.inr 11, .inr 1, .inl (.object "Layerwright$Statement", 30), .inl (.int, 6), .inl (.int, 10), .inl (.int, 60), .inl (.int, 3), .inl (.int, 3), .inr 10, .inr 7, .inl (.long, 10), .inl (.int, 10), .inr 7, .inl (.long, 10), .inr 7, .inl (.long, 10), .inl (.object "Layerwright$Statement", 30), .inl (.int, 30), .inl (.int, 30), .inr 4, .inl (.object "Layerwright$Type", 3), .inl (.object "Layerwright$Generator", 4), .inl (.int, 60), .inl (.int, 180), .inl (.boolean, 60), .inl (.object "Layerwright$Entry", 64), .inl (.int, 64), .inr 9, .inl (.int, 3), .inr 9, .inl (.int, 3), .inr 9, .inl (.int, 3), .inr 2, .inl (.int, 192), .inl (.int, 128), .inl (.int, 64), .inl (.int, 192), .inr 0, .inl (.boolean, 64), .inl (.int, 64), .inl (.int, 8), .inl (.long, 8), .inl (.object "Layerwright$Plan", 40), .inr 12, .inl (.int, 30), .inl (.int, 30), .inl (.int, 30), .inl (.int, 30), .inl (.int, 30), .inl (.int, 30), .inl (.int, 30), .inl (.boolean, 30), .inl (.int, 3), .inl (.int, 6), .inl (.int, 10), .inl (.int, 60), .inl (.int, 24), .inl (.int, 9), .inl (.boolean, 3), .inl (.boolean, 3), .inl (.int, 3), .inl (.int, 4), .inl (.int, 4), .inl (.int, 32), .inl (.int, 12), .inl (.int, 60), .inl (.int, 180), .inl (.boolean, 60), .inl (.int, 64), .inl (.int, 192), .inl (.boolean, 64), .inl (.int, 64), .inl (.int, 192), .inl (.int, 64), .inl (.int, 40), .inl (.int, 40), .inl (.boolean, 40), .inl (.boolean, 40), .inl (.int, 40), .inl (.int, 5120), .inl (.boolean, 64), .inl (.int, 64), .inl (.boolean, 9), .inl (.boolean, 30), .inl (.int, 30), .inl (.int, 30), .inl (.boolean, 30), .inl (.long, 10), .inl (.long, 10), .inl (.long, 10), .inl (.int, 64), .inl (.int, 128), .inl (.boolean, 30), .inl (.long, 1)]
def aPT (T : List aT) : Prop := a_tags <+: T
theorem aPT.len {T : List aT} (h : aPT T) : 95 ≤ T.length := h.length_le
theorem aPT.next {T T2 : List aT} (h : aPT T) (h2 : T <+: T2) : aPT T2 := h.trans h2
theorem a_pfx {T T2 : List aT} (h : T <+: T2) {i : Nat} {t : aT} (hi : T[i]? = some t) : T2[i]? = some t := by
  obtain ⟨r, rfl⟩ := h
  rw [List.getElem?_append_left (List.getElem?_eq_some_iff.mp hi).1]; exact hi
theorem tg_0 {T : List aT} (h : aPT T) : T[0]? = some (.inr 11) := a_pfx h rfl
theorem tg_1 {T : List aT} (h : aPT T) : T[1]? = some (.inr 1) := a_pfx h rfl
theorem tg_2 {T : List aT} (h : aPT T) : T[2]? = some (.inl (.object "Layerwright$Statement", 30)) := a_pfx h rfl
theorem tg_3 {T : List aT} (h : aPT T) : T[3]? = some (.inl (.int, 6)) := a_pfx h rfl
theorem tg_4 {T : List aT} (h : aPT T) : T[4]? = some (.inl (.int, 10)) := a_pfx h rfl
theorem tg_5 {T : List aT} (h : aPT T) : T[5]? = some (.inl (.int, 60)) := a_pfx h rfl
theorem tg_6 {T : List aT} (h : aPT T) : T[6]? = some (.inl (.int, 3)) := a_pfx h rfl
theorem tg_7 {T : List aT} (h : aPT T) : T[7]? = some (.inl (.int, 3)) := a_pfx h rfl
theorem tg_8 {T : List aT} (h : aPT T) : T[8]? = some (.inr 10) := a_pfx h rfl
theorem tg_9 {T : List aT} (h : aPT T) : T[9]? = some (.inr 7) := a_pfx h rfl
theorem tg_10 {T : List aT} (h : aPT T) : T[10]? = some (.inl (.long, 10)) := a_pfx h rfl
theorem tg_11 {T : List aT} (h : aPT T) : T[11]? = some (.inl (.int, 10)) := a_pfx h rfl
theorem tg_12 {T : List aT} (h : aPT T) : T[12]? = some (.inr 7) := a_pfx h rfl
theorem tg_13 {T : List aT} (h : aPT T) : T[13]? = some (.inl (.long, 10)) := a_pfx h rfl
theorem tg_14 {T : List aT} (h : aPT T) : T[14]? = some (.inr 7) := a_pfx h rfl
theorem tg_15 {T : List aT} (h : aPT T) : T[15]? = some (.inl (.long, 10)) := a_pfx h rfl
theorem tg_16 {T : List aT} (h : aPT T) : T[16]? = some (.inl (.object "Layerwright$Statement", 30)) := a_pfx h rfl
theorem tg_17 {T : List aT} (h : aPT T) : T[17]? = some (.inl (.int, 30)) := a_pfx h rfl
theorem tg_18 {T : List aT} (h : aPT T) : T[18]? = some (.inl (.int, 30)) := a_pfx h rfl
theorem tg_19 {T : List aT} (h : aPT T) : T[19]? = some (.inr 4) := a_pfx h rfl
theorem tg_20 {T : List aT} (h : aPT T) : T[20]? = some (.inl (.object "Layerwright$Type", 3)) := a_pfx h rfl
theorem tg_21 {T : List aT} (h : aPT T) : T[21]? = some (.inl (.object "Layerwright$Generator", 4)) := a_pfx h rfl
theorem tg_22 {T : List aT} (h : aPT T) : T[22]? = some (.inl (.int, 60)) := a_pfx h rfl
theorem tg_23 {T : List aT} (h : aPT T) : T[23]? = some (.inl (.int, 180)) := a_pfx h rfl
theorem tg_24 {T : List aT} (h : aPT T) : T[24]? = some (.inl (.boolean, 60)) := a_pfx h rfl
theorem tg_25 {T : List aT} (h : aPT T) : T[25]? = some (.inl (.object "Layerwright$Entry", 64)) := a_pfx h rfl
theorem tg_26 {T : List aT} (h : aPT T) : T[26]? = some (.inl (.int, 64)) := a_pfx h rfl
theorem tg_27 {T : List aT} (h : aPT T) : T[27]? = some (.inr 9) := a_pfx h rfl
theorem tg_28 {T : List aT} (h : aPT T) : T[28]? = some (.inl (.int, 3)) := a_pfx h rfl
theorem tg_29 {T : List aT} (h : aPT T) : T[29]? = some (.inr 9) := a_pfx h rfl
theorem tg_30 {T : List aT} (h : aPT T) : T[30]? = some (.inl (.int, 3)) := a_pfx h rfl
theorem tg_31 {T : List aT} (h : aPT T) : T[31]? = some (.inr 9) := a_pfx h rfl
theorem tg_32 {T : List aT} (h : aPT T) : T[32]? = some (.inl (.int, 3)) := a_pfx h rfl
theorem tg_33 {T : List aT} (h : aPT T) : T[33]? = some (.inr 2) := a_pfx h rfl
theorem tg_34 {T : List aT} (h : aPT T) : T[34]? = some (.inl (.int, 192)) := a_pfx h rfl
theorem tg_35 {T : List aT} (h : aPT T) : T[35]? = some (.inl (.int, 128)) := a_pfx h rfl
theorem tg_36 {T : List aT} (h : aPT T) : T[36]? = some (.inl (.int, 64)) := a_pfx h rfl
theorem tg_37 {T : List aT} (h : aPT T) : T[37]? = some (.inl (.int, 192)) := a_pfx h rfl
theorem tg_38 {T : List aT} (h : aPT T) : T[38]? = some (.inr 0) := a_pfx h rfl
theorem tg_39 {T : List aT} (h : aPT T) : T[39]? = some (.inl (.boolean, 64)) := a_pfx h rfl
theorem tg_40 {T : List aT} (h : aPT T) : T[40]? = some (.inl (.int, 64)) := a_pfx h rfl
theorem tg_41 {T : List aT} (h : aPT T) : T[41]? = some (.inl (.int, 8)) := a_pfx h rfl
theorem tg_42 {T : List aT} (h : aPT T) : T[42]? = some (.inl (.long, 8)) := a_pfx h rfl
theorem tg_43 {T : List aT} (h : aPT T) : T[43]? = some (.inl (.object "Layerwright$Plan", 40)) := a_pfx h rfl
theorem tg_44 {T : List aT} (h : aPT T) : T[44]? = some (.inr 12) := a_pfx h rfl
theorem tg_45 {T : List aT} (h : aPT T) : T[45]? = some (.inl (.int, 30)) := a_pfx h rfl
theorem tg_46 {T : List aT} (h : aPT T) : T[46]? = some (.inl (.int, 30)) := a_pfx h rfl
theorem tg_47 {T : List aT} (h : aPT T) : T[47]? = some (.inl (.int, 30)) := a_pfx h rfl
theorem tg_48 {T : List aT} (h : aPT T) : T[48]? = some (.inl (.int, 30)) := a_pfx h rfl
theorem tg_49 {T : List aT} (h : aPT T) : T[49]? = some (.inl (.int, 30)) := a_pfx h rfl
theorem tg_50 {T : List aT} (h : aPT T) : T[50]? = some (.inl (.int, 30)) := a_pfx h rfl
theorem tg_51 {T : List aT} (h : aPT T) : T[51]? = some (.inl (.int, 30)) := a_pfx h rfl
theorem tg_52 {T : List aT} (h : aPT T) : T[52]? = some (.inl (.boolean, 30)) := a_pfx h rfl
theorem tg_53 {T : List aT} (h : aPT T) : T[53]? = some (.inl (.int, 3)) := a_pfx h rfl
theorem tg_54 {T : List aT} (h : aPT T) : T[54]? = some (.inl (.int, 6)) := a_pfx h rfl
theorem tg_55 {T : List aT} (h : aPT T) : T[55]? = some (.inl (.int, 10)) := a_pfx h rfl
theorem tg_56 {T : List aT} (h : aPT T) : T[56]? = some (.inl (.int, 60)) := a_pfx h rfl
theorem tg_57 {T : List aT} (h : aPT T) : T[57]? = some (.inl (.int, 24)) := a_pfx h rfl
theorem tg_58 {T : List aT} (h : aPT T) : T[58]? = some (.inl (.int, 9)) := a_pfx h rfl
theorem tg_59 {T : List aT} (h : aPT T) : T[59]? = some (.inl (.boolean, 3)) := a_pfx h rfl
theorem tg_60 {T : List aT} (h : aPT T) : T[60]? = some (.inl (.boolean, 3)) := a_pfx h rfl
theorem tg_61 {T : List aT} (h : aPT T) : T[61]? = some (.inl (.int, 3)) := a_pfx h rfl
theorem tg_62 {T : List aT} (h : aPT T) : T[62]? = some (.inl (.int, 4)) := a_pfx h rfl
theorem tg_63 {T : List aT} (h : aPT T) : T[63]? = some (.inl (.int, 4)) := a_pfx h rfl
theorem tg_64 {T : List aT} (h : aPT T) : T[64]? = some (.inl (.int, 32)) := a_pfx h rfl
theorem tg_65 {T : List aT} (h : aPT T) : T[65]? = some (.inl (.int, 12)) := a_pfx h rfl
theorem tg_66 {T : List aT} (h : aPT T) : T[66]? = some (.inl (.int, 60)) := a_pfx h rfl
theorem tg_67 {T : List aT} (h : aPT T) : T[67]? = some (.inl (.int, 180)) := a_pfx h rfl
theorem tg_68 {T : List aT} (h : aPT T) : T[68]? = some (.inl (.boolean, 60)) := a_pfx h rfl
theorem tg_69 {T : List aT} (h : aPT T) : T[69]? = some (.inl (.int, 64)) := a_pfx h rfl
theorem tg_70 {T : List aT} (h : aPT T) : T[70]? = some (.inl (.int, 192)) := a_pfx h rfl
theorem tg_71 {T : List aT} (h : aPT T) : T[71]? = some (.inl (.boolean, 64)) := a_pfx h rfl
theorem tg_72 {T : List aT} (h : aPT T) : T[72]? = some (.inl (.int, 64)) := a_pfx h rfl
theorem tg_73 {T : List aT} (h : aPT T) : T[73]? = some (.inl (.int, 192)) := a_pfx h rfl
theorem tg_74 {T : List aT} (h : aPT T) : T[74]? = some (.inl (.int, 64)) := a_pfx h rfl
theorem tg_75 {T : List aT} (h : aPT T) : T[75]? = some (.inl (.int, 40)) := a_pfx h rfl
theorem tg_76 {T : List aT} (h : aPT T) : T[76]? = some (.inl (.int, 40)) := a_pfx h rfl
theorem tg_77 {T : List aT} (h : aPT T) : T[77]? = some (.inl (.boolean, 40)) := a_pfx h rfl
theorem tg_78 {T : List aT} (h : aPT T) : T[78]? = some (.inl (.boolean, 40)) := a_pfx h rfl
theorem tg_79 {T : List aT} (h : aPT T) : T[79]? = some (.inl (.int, 40)) := a_pfx h rfl
theorem tg_80 {T : List aT} (h : aPT T) : T[80]? = some (.inl (.int, 5120)) := a_pfx h rfl
theorem tg_81 {T : List aT} (h : aPT T) : T[81]? = some (.inl (.boolean, 64)) := a_pfx h rfl
theorem tg_82 {T : List aT} (h : aPT T) : T[82]? = some (.inl (.int, 64)) := a_pfx h rfl
theorem tg_83 {T : List aT} (h : aPT T) : T[83]? = some (.inl (.boolean, 9)) := a_pfx h rfl
theorem tg_84 {T : List aT} (h : aPT T) : T[84]? = some (.inl (.boolean, 30)) := a_pfx h rfl
theorem tg_85 {T : List aT} (h : aPT T) : T[85]? = some (.inl (.int, 30)) := a_pfx h rfl
theorem tg_86 {T : List aT} (h : aPT T) : T[86]? = some (.inl (.int, 30)) := a_pfx h rfl
theorem tg_87 {T : List aT} (h : aPT T) : T[87]? = some (.inl (.boolean, 30)) := a_pfx h rfl
theorem tg_88 {T : List aT} (h : aPT T) : T[88]? = some (.inl (.long, 10)) := a_pfx h rfl
theorem tg_89 {T : List aT} (h : aPT T) : T[89]? = some (.inl (.long, 10)) := a_pfx h rfl
theorem tg_90 {T : List aT} (h : aPT T) : T[90]? = some (.inl (.long, 10)) := a_pfx h rfl
theorem tg_91 {T : List aT} (h : aPT T) : T[91]? = some (.inl (.int, 64)) := a_pfx h rfl
theorem tg_92 {T : List aT} (h : aPT T) : T[92]? = some (.inl (.int, 128)) := a_pfx h rfl
theorem tg_93 {T : List aT} (h : aPT T) : T[93]? = some (.inl (.boolean, 30)) := a_pfx h rfl
theorem tg_94 {T : List aT} (h : aPT T) : T[94]? = some (.inl (.long, 1)) := a_pfx h rfl
def a_refs : List (Nat × Nat × Nat) := [(0, 0, 1), (0, 1, 8), (0, 2, 19), (0, 3, 33), (0, 4, 38), (0, 5, 41), (0, 6, 42), (0, 8, 43), (1, 0, 2), (1, 2, 3), (1, 3, 4), (1, 4, 5), (1, 5, 6), (1, 7, 7), (8, 0, 1), (8, 1, 9), (8, 4, 11), (8, 5, 12), (8, 6, 14), (8, 7, 16), (8, 8, 17), (8, 9, 18), (9, 0, 10), (12, 0, 13), (14, 0, 15), (19, 0, 20), (19, 1, 21), (19, 3, 22), (19, 4, 23), (19, 5, 24), (19, 7, 25), (19, 9, 26), (20, 0, 27), (20, 1, 29), (20, 2, 31), (27, 0, 28), (29, 0, 30), (31, 0, 32), (33, 0, 34), (33, 1, 35), (33, 2, 8), (33, 3, 19), (33, 4, 36), (33, 6, 37), (38, 1, 19), (38, 2, 33), (38, 6, 39), (38, 7, 40), (44, 1, 45), (44, 2, 46), (44, 3, 47), (44, 4, 48), (44, 5, 49), (44, 6, 50), (44, 7, 51), (44, 8, 52), (44, 9, 53), (44, 10, 54), (44, 11, 55), (44, 12, 56), (44, 15, 57), (44, 16, 58), (44, 17, 59), (44, 18, 60), (44, 19, 61), (44, 21, 62), (44, 22, 63), (44, 23, 64), (44, 24, 65), (44, 26, 66), (44, 27, 67), (44, 28, 68), (44, 29, 69), (44, 30, 70), (44, 31, 71), (44, 32, 72), (44, 33, 73), (44, 34, 74), (44, 37, 75), (44, 38, 76), (44, 39, 77), (44, 40, 78), (44, 41, 79), (44, 42, 80), (44, 46, 81), (44, 47, 82), (44, 48, 83), (44, 49, 84), (44, 50, 85), (44, 51, 86), (44, 52, 87), (44, 54, 88), (44, 55, 89), (44, 56, 90), (44, 58, 91), (44, 60, 92), (44, 62, 93)]
def aPR (R : aR) : Prop := ∀ q ∈ a_refs, R q.1 q.2.1 = some q.2.2
theorem pr_0_0 {R : aR} (h : aPR R) : R 0 0 = some 1 := h (0, 0, 1) (List.mem_of_getElem? (i := 0) rfl)
theorem pr_0_1 {R : aR} (h : aPR R) : R 0 1 = some 8 := h (0, 1, 8) (List.mem_of_getElem? (i := 1) rfl)
theorem pr_0_2 {R : aR} (h : aPR R) : R 0 2 = some 19 := h (0, 2, 19) (List.mem_of_getElem? (i := 2) rfl)
theorem pr_0_3 {R : aR} (h : aPR R) : R 0 3 = some 33 := h (0, 3, 33) (List.mem_of_getElem? (i := 3) rfl)
theorem pr_0_4 {R : aR} (h : aPR R) : R 0 4 = some 38 := h (0, 4, 38) (List.mem_of_getElem? (i := 4) rfl)
theorem pr_0_5 {R : aR} (h : aPR R) : R 0 5 = some 41 := h (0, 5, 41) (List.mem_of_getElem? (i := 5) rfl)
theorem pr_0_6 {R : aR} (h : aPR R) : R 0 6 = some 42 := h (0, 6, 42) (List.mem_of_getElem? (i := 6) rfl)
theorem pr_0_8 {R : aR} (h : aPR R) : R 0 8 = some 43 := h (0, 8, 43) (List.mem_of_getElem? (i := 7) rfl)
theorem pr_1_0 {R : aR} (h : aPR R) : R 1 0 = some 2 := h (1, 0, 2) (List.mem_of_getElem? (i := 8) rfl)
theorem pr_1_2 {R : aR} (h : aPR R) : R 1 2 = some 3 := h (1, 2, 3) (List.mem_of_getElem? (i := 9) rfl)
theorem pr_1_3 {R : aR} (h : aPR R) : R 1 3 = some 4 := h (1, 3, 4) (List.mem_of_getElem? (i := 10) rfl)
theorem pr_1_4 {R : aR} (h : aPR R) : R 1 4 = some 5 := h (1, 4, 5) (List.mem_of_getElem? (i := 11) rfl)
theorem pr_1_5 {R : aR} (h : aPR R) : R 1 5 = some 6 := h (1, 5, 6) (List.mem_of_getElem? (i := 12) rfl)
theorem pr_1_7 {R : aR} (h : aPR R) : R 1 7 = some 7 := h (1, 7, 7) (List.mem_of_getElem? (i := 13) rfl)
theorem pr_8_0 {R : aR} (h : aPR R) : R 8 0 = some 1 := h (8, 0, 1) (List.mem_of_getElem? (i := 14) rfl)
theorem pr_8_1 {R : aR} (h : aPR R) : R 8 1 = some 9 := h (8, 1, 9) (List.mem_of_getElem? (i := 15) rfl)
theorem pr_8_4 {R : aR} (h : aPR R) : R 8 4 = some 11 := h (8, 4, 11) (List.mem_of_getElem? (i := 16) rfl)
theorem pr_8_5 {R : aR} (h : aPR R) : R 8 5 = some 12 := h (8, 5, 12) (List.mem_of_getElem? (i := 17) rfl)
theorem pr_8_6 {R : aR} (h : aPR R) : R 8 6 = some 14 := h (8, 6, 14) (List.mem_of_getElem? (i := 18) rfl)
theorem pr_8_7 {R : aR} (h : aPR R) : R 8 7 = some 16 := h (8, 7, 16) (List.mem_of_getElem? (i := 19) rfl)
theorem pr_8_8 {R : aR} (h : aPR R) : R 8 8 = some 17 := h (8, 8, 17) (List.mem_of_getElem? (i := 20) rfl)
theorem pr_8_9 {R : aR} (h : aPR R) : R 8 9 = some 18 := h (8, 9, 18) (List.mem_of_getElem? (i := 21) rfl)
theorem pr_9_0 {R : aR} (h : aPR R) : R 9 0 = some 10 := h (9, 0, 10) (List.mem_of_getElem? (i := 22) rfl)
theorem pr_12_0 {R : aR} (h : aPR R) : R 12 0 = some 13 := h (12, 0, 13) (List.mem_of_getElem? (i := 23) rfl)
theorem pr_14_0 {R : aR} (h : aPR R) : R 14 0 = some 15 := h (14, 0, 15) (List.mem_of_getElem? (i := 24) rfl)
theorem pr_19_0 {R : aR} (h : aPR R) : R 19 0 = some 20 := h (19, 0, 20) (List.mem_of_getElem? (i := 25) rfl)
theorem pr_19_1 {R : aR} (h : aPR R) : R 19 1 = some 21 := h (19, 1, 21) (List.mem_of_getElem? (i := 26) rfl)
theorem pr_19_3 {R : aR} (h : aPR R) : R 19 3 = some 22 := h (19, 3, 22) (List.mem_of_getElem? (i := 27) rfl)
theorem pr_19_4 {R : aR} (h : aPR R) : R 19 4 = some 23 := h (19, 4, 23) (List.mem_of_getElem? (i := 28) rfl)
theorem pr_19_5 {R : aR} (h : aPR R) : R 19 5 = some 24 := h (19, 5, 24) (List.mem_of_getElem? (i := 29) rfl)
theorem pr_19_7 {R : aR} (h : aPR R) : R 19 7 = some 25 := h (19, 7, 25) (List.mem_of_getElem? (i := 30) rfl)
theorem pr_19_9 {R : aR} (h : aPR R) : R 19 9 = some 26 := h (19, 9, 26) (List.mem_of_getElem? (i := 31) rfl)
theorem pr_20_0 {R : aR} (h : aPR R) : R 20 0 = some 27 := h (20, 0, 27) (List.mem_of_getElem? (i := 32) rfl)
theorem pr_20_1 {R : aR} (h : aPR R) : R 20 1 = some 29 := h (20, 1, 29) (List.mem_of_getElem? (i := 33) rfl)
theorem pr_20_2 {R : aR} (h : aPR R) : R 20 2 = some 31 := h (20, 2, 31) (List.mem_of_getElem? (i := 34) rfl)
theorem pr_27_0 {R : aR} (h : aPR R) : R 27 0 = some 28 := h (27, 0, 28) (List.mem_of_getElem? (i := 35) rfl)
theorem pr_29_0 {R : aR} (h : aPR R) : R 29 0 = some 30 := h (29, 0, 30) (List.mem_of_getElem? (i := 36) rfl)
theorem pr_31_0 {R : aR} (h : aPR R) : R 31 0 = some 32 := h (31, 0, 32) (List.mem_of_getElem? (i := 37) rfl)
theorem pr_33_0 {R : aR} (h : aPR R) : R 33 0 = some 34 := h (33, 0, 34) (List.mem_of_getElem? (i := 38) rfl)
theorem pr_33_1 {R : aR} (h : aPR R) : R 33 1 = some 35 := h (33, 1, 35) (List.mem_of_getElem? (i := 39) rfl)
theorem pr_33_2 {R : aR} (h : aPR R) : R 33 2 = some 8 := h (33, 2, 8) (List.mem_of_getElem? (i := 40) rfl)
theorem pr_33_3 {R : aR} (h : aPR R) : R 33 3 = some 19 := h (33, 3, 19) (List.mem_of_getElem? (i := 41) rfl)
theorem pr_33_4 {R : aR} (h : aPR R) : R 33 4 = some 36 := h (33, 4, 36) (List.mem_of_getElem? (i := 42) rfl)
theorem pr_33_6 {R : aR} (h : aPR R) : R 33 6 = some 37 := h (33, 6, 37) (List.mem_of_getElem? (i := 43) rfl)
theorem pr_38_1 {R : aR} (h : aPR R) : R 38 1 = some 19 := h (38, 1, 19) (List.mem_of_getElem? (i := 44) rfl)
theorem pr_38_2 {R : aR} (h : aPR R) : R 38 2 = some 33 := h (38, 2, 33) (List.mem_of_getElem? (i := 45) rfl)
theorem pr_38_6 {R : aR} (h : aPR R) : R 38 6 = some 39 := h (38, 6, 39) (List.mem_of_getElem? (i := 46) rfl)
theorem pr_38_7 {R : aR} (h : aPR R) : R 38 7 = some 40 := h (38, 7, 40) (List.mem_of_getElem? (i := 47) rfl)
theorem pr_44_1 {R : aR} (h : aPR R) : R 44 1 = some 45 := h (44, 1, 45) (List.mem_of_getElem? (i := 48) rfl)
theorem pr_44_2 {R : aR} (h : aPR R) : R 44 2 = some 46 := h (44, 2, 46) (List.mem_of_getElem? (i := 49) rfl)
theorem pr_44_3 {R : aR} (h : aPR R) : R 44 3 = some 47 := h (44, 3, 47) (List.mem_of_getElem? (i := 50) rfl)
theorem pr_44_4 {R : aR} (h : aPR R) : R 44 4 = some 48 := h (44, 4, 48) (List.mem_of_getElem? (i := 51) rfl)
theorem pr_44_5 {R : aR} (h : aPR R) : R 44 5 = some 49 := h (44, 5, 49) (List.mem_of_getElem? (i := 52) rfl)
theorem pr_44_6 {R : aR} (h : aPR R) : R 44 6 = some 50 := h (44, 6, 50) (List.mem_of_getElem? (i := 53) rfl)
theorem pr_44_7 {R : aR} (h : aPR R) : R 44 7 = some 51 := h (44, 7, 51) (List.mem_of_getElem? (i := 54) rfl)
theorem pr_44_8 {R : aR} (h : aPR R) : R 44 8 = some 52 := h (44, 8, 52) (List.mem_of_getElem? (i := 55) rfl)
theorem pr_44_9 {R : aR} (h : aPR R) : R 44 9 = some 53 := h (44, 9, 53) (List.mem_of_getElem? (i := 56) rfl)
theorem pr_44_10 {R : aR} (h : aPR R) : R 44 10 = some 54 := h (44, 10, 54) (List.mem_of_getElem? (i := 57) rfl)
theorem pr_44_11 {R : aR} (h : aPR R) : R 44 11 = some 55 := h (44, 11, 55) (List.mem_of_getElem? (i := 58) rfl)
theorem pr_44_12 {R : aR} (h : aPR R) : R 44 12 = some 56 := h (44, 12, 56) (List.mem_of_getElem? (i := 59) rfl)
theorem pr_44_15 {R : aR} (h : aPR R) : R 44 15 = some 57 := h (44, 15, 57) (List.mem_of_getElem? (i := 60) rfl)
theorem pr_44_16 {R : aR} (h : aPR R) : R 44 16 = some 58 := h (44, 16, 58) (List.mem_of_getElem? (i := 61) rfl)
theorem pr_44_17 {R : aR} (h : aPR R) : R 44 17 = some 59 := h (44, 17, 59) (List.mem_of_getElem? (i := 62) rfl)
theorem pr_44_18 {R : aR} (h : aPR R) : R 44 18 = some 60 := h (44, 18, 60) (List.mem_of_getElem? (i := 63) rfl)
theorem pr_44_19 {R : aR} (h : aPR R) : R 44 19 = some 61 := h (44, 19, 61) (List.mem_of_getElem? (i := 64) rfl)
theorem pr_44_21 {R : aR} (h : aPR R) : R 44 21 = some 62 := h (44, 21, 62) (List.mem_of_getElem? (i := 65) rfl)
theorem pr_44_22 {R : aR} (h : aPR R) : R 44 22 = some 63 := h (44, 22, 63) (List.mem_of_getElem? (i := 66) rfl)
theorem pr_44_23 {R : aR} (h : aPR R) : R 44 23 = some 64 := h (44, 23, 64) (List.mem_of_getElem? (i := 67) rfl)
theorem pr_44_24 {R : aR} (h : aPR R) : R 44 24 = some 65 := h (44, 24, 65) (List.mem_of_getElem? (i := 68) rfl)
theorem pr_44_26 {R : aR} (h : aPR R) : R 44 26 = some 66 := h (44, 26, 66) (List.mem_of_getElem? (i := 69) rfl)
theorem pr_44_27 {R : aR} (h : aPR R) : R 44 27 = some 67 := h (44, 27, 67) (List.mem_of_getElem? (i := 70) rfl)
theorem pr_44_28 {R : aR} (h : aPR R) : R 44 28 = some 68 := h (44, 28, 68) (List.mem_of_getElem? (i := 71) rfl)
theorem pr_44_29 {R : aR} (h : aPR R) : R 44 29 = some 69 := h (44, 29, 69) (List.mem_of_getElem? (i := 72) rfl)
theorem pr_44_30 {R : aR} (h : aPR R) : R 44 30 = some 70 := h (44, 30, 70) (List.mem_of_getElem? (i := 73) rfl)
theorem pr_44_31 {R : aR} (h : aPR R) : R 44 31 = some 71 := h (44, 31, 71) (List.mem_of_getElem? (i := 74) rfl)
theorem pr_44_32 {R : aR} (h : aPR R) : R 44 32 = some 72 := h (44, 32, 72) (List.mem_of_getElem? (i := 75) rfl)
theorem pr_44_33 {R : aR} (h : aPR R) : R 44 33 = some 73 := h (44, 33, 73) (List.mem_of_getElem? (i := 76) rfl)
theorem pr_44_34 {R : aR} (h : aPR R) : R 44 34 = some 74 := h (44, 34, 74) (List.mem_of_getElem? (i := 77) rfl)
theorem pr_44_37 {R : aR} (h : aPR R) : R 44 37 = some 75 := h (44, 37, 75) (List.mem_of_getElem? (i := 78) rfl)
theorem pr_44_38 {R : aR} (h : aPR R) : R 44 38 = some 76 := h (44, 38, 76) (List.mem_of_getElem? (i := 79) rfl)
theorem pr_44_39 {R : aR} (h : aPR R) : R 44 39 = some 77 := h (44, 39, 77) (List.mem_of_getElem? (i := 80) rfl)
theorem pr_44_40 {R : aR} (h : aPR R) : R 44 40 = some 78 := h (44, 40, 78) (List.mem_of_getElem? (i := 81) rfl)
theorem pr_44_41 {R : aR} (h : aPR R) : R 44 41 = some 79 := h (44, 41, 79) (List.mem_of_getElem? (i := 82) rfl)
theorem pr_44_42 {R : aR} (h : aPR R) : R 44 42 = some 80 := h (44, 42, 80) (List.mem_of_getElem? (i := 83) rfl)
theorem pr_44_46 {R : aR} (h : aPR R) : R 44 46 = some 81 := h (44, 46, 81) (List.mem_of_getElem? (i := 84) rfl)
theorem pr_44_47 {R : aR} (h : aPR R) : R 44 47 = some 82 := h (44, 47, 82) (List.mem_of_getElem? (i := 85) rfl)
theorem pr_44_48 {R : aR} (h : aPR R) : R 44 48 = some 83 := h (44, 48, 83) (List.mem_of_getElem? (i := 86) rfl)
theorem pr_44_49 {R : aR} (h : aPR R) : R 44 49 = some 84 := h (44, 49, 84) (List.mem_of_getElem? (i := 87) rfl)
theorem pr_44_50 {R : aR} (h : aPR R) : R 44 50 = some 85 := h (44, 50, 85) (List.mem_of_getElem? (i := 88) rfl)
theorem pr_44_51 {R : aR} (h : aPR R) : R 44 51 = some 86 := h (44, 51, 86) (List.mem_of_getElem? (i := 89) rfl)
theorem pr_44_52 {R : aR} (h : aPR R) : R 44 52 = some 87 := h (44, 52, 87) (List.mem_of_getElem? (i := 90) rfl)
theorem pr_44_54 {R : aR} (h : aPR R) : R 44 54 = some 88 := h (44, 54, 88) (List.mem_of_getElem? (i := 91) rfl)
theorem pr_44_55 {R : aR} (h : aPR R) : R 44 55 = some 89 := h (44, 55, 89) (List.mem_of_getElem? (i := 92) rfl)
theorem pr_44_56 {R : aR} (h : aPR R) : R 44 56 = some 90 := h (44, 56, 90) (List.mem_of_getElem? (i := 93) rfl)
theorem pr_44_58 {R : aR} (h : aPR R) : R 44 58 = some 91 := h (44, 58, 91) (List.mem_of_getElem? (i := 94) rfl)
theorem pr_44_60 {R : aR} (h : aPR R) : R 44 60 = some 92 := h (44, 60, 92) (List.mem_of_getElem? (i := 95) rfl)
theorem pr_44_62 {R : aR} (h : aPR R) : R 44 62 = some 93 := h (44, 62, 93) (List.mem_of_getElem? (i := 96) rfl)
theorem aPR.put {R : aR} (h : aPR R) {o k : Nat} {v : Option Nat} (hn : ∀ q ∈ a_refs, ¬ (q.1 = o ∧ q.2.1 = k)) : aPR (a_u R o k v) := fun q hq => by rw [a_u_ne (hn q hq)]; exact h q hq
theorem a_refs_lt : ∀ q ∈ a_refs, q.1 < 95 := by decide +kernel
theorem aPR.putD {R : aR} (h : aPR R) {o k : Nat} {v : Option Nat} (ho : 95 ≤ o) : aPR (a_u R o k v) := h.put fun q hq e => by have := a_refs_lt q hq; omega
