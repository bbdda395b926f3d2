def a_tags : List aT := [.inr 11, .inr 1, .inl (.object "Layerwright$Statement", 30), .inl (.int, 6), .inl (.int, 10), .inl (.int, 60), .inl (.int, 3), .inl (.int, 3), .inr 10, .inr 7, .inl (.long, 10), .inl (.int, 10), .inr 7, .inl (.long, 10), .inr 7, .inl (.long, 10), .inl (.object "Layerwright$Statement", 30), .inl (.int, 30), .inl (.int, 30), .inr 4, .inl (.object "Layerwright$Type", 3), .inl (.object "Layerwright$Generator", 4), .inl (.int, 60), .inl (.int, 180), .inl (.boolean, 60), .inl (.object "Layerwright$Entry", 64), .inl (.int, 64), .inr 9, .inl (.int, 3), .inr 9, .inl (.int, 3), .inr 9, .inl (.int, 3), .inr 2, .inl (.int, 192), .inl (.int, 128), .inl (.int, 64), .inl (.int, 192), .inr 0, .inl (.boolean, 64), .inl (.int, 64), .inl (.int, 8), .inl (.long, 8), .inl (.object "Layerwright$Plan", 40)]
def aPT (T : List aT) : Prop := a_tags <+: T
theorem aPT.len {T : List aT} (h : aPT T) : 44 ≤ T.length := h.length_le
theorem aPT.next {T T2 : List aT} (h : aPT T) (h2 : T <+: T2) : aPT T2 := h.trans h2
theorem a_pfx {T T2 : List aT} (h : T <+: T2) {i : Nat} {t : aT} (hi : T[i]? = some t) : T2[i]? = some t := by
  obtain ⟨r, rfl⟩ := h
  rw [List.getElem?_append_left (List.getElem?_eq_some_iff.mp hi).1]; exact hi
theorem tg_0 {T : List aT} (h : aPT T) : T[0]? = some (.inr 11) := a_pfx h rfl
theorem tg_1 {T : List aT} (h : aPT T) : T[1]? = some (.inr 1) := a_pfx h rfl
theorem tg_2 {T : List aT} (h : aPT T) : T[2]? = some (.inl (.object "Layerwright$Statement", 30)) := a_pfx h rfl
theorem tg_3 {T : List aT} (h : aPT T) : T[3]? = some (.inl (.int, 6)) := a_pfx h rfl
theorem tg_4 {T : List aT} (h : aPT T) : T[4]? = some (.inl (.int, 10)) := a_pfx h rfl
theorem tg_5 {T : List aT} (h : aPT T) : T[5]? = some (.inl (.int, 60)) := a_pfx h rfl
theorem tg_6 {T : List aT} (h : aPT T) : T[6]? = some (.inl (.int, 3)) := a_pfx h rfl
theorem tg_7 {T : List aT} (h : aPT T) : T[7]? = some (.inl (.int, 3)) := a_pfx h rfl
theorem tg_8 {T : List aT} (h : aPT T) : T[8]? = some (.inr 10) := a_pfx h rfl
theorem tg_9 {T : List aT} (h : aPT T) : T[9]? = some (.inr 7) := a_pfx h rfl
theorem tg_10 {T : List aT} (h : aPT T) : T[10]? = some (.inl (.long, 10)) := a_pfx h rfl
theorem tg_11 {T : List aT} (h : aPT T) : T[11]? = some (.inl (.int, 10)) := a_pfx h rfl
theorem tg_12 {T : List aT} (h : aPT T) : T[12]? = some (.inr 7) := a_pfx h rfl
theorem tg_13 {T : List aT} (h : aPT T) : T[13]? = some (.inl (.long, 10)) := a_pfx h rfl
theorem tg_14 {T : List aT} (h : aPT T) : T[14]? = some (.inr 7) := a_pfx h rfl
theorem tg_15 {T : List aT} (h : aPT T) : T[15]? = some (.inl (.long, 10)) := a_pfx h rfl
theorem tg_16 {T : List aT} (h : aPT T) : T[16]? = some (.inl (.object "Layerwright$Statement", 30)) := a_pfx h rfl
theorem tg_17 {T : List aT} (h : aPT T) : T[17]? = some (.inl (.int, 30)) := a_pfx h rfl
theorem tg_18 {T : List aT} (h : aPT T) : T[18]? = some (.inl (.int, 30)) := a_pfx h rfl
theorem tg_19 {T : List aT} (h : aPT T) : T[19]? = some (.inr 4) := a_pfx h rfl
theorem tg_20 {T : List aT} (h : aPT T) : T[20]? = some (.inl (.object "Layerwright$Type", 3)) := a_pfx h rfl
theorem tg_21 {T : List aT} (h : aPT T) : T[21]? = some (.inl (.object "Layerwright$Generator", 4)) := a_pfx h rfl
theorem tg_22 {T : List aT} (h : aPT T) : T[22]? = some (.inl (.int, 60)) := a_pfx h rfl
theorem tg_23 {T : List aT} (h : aPT T) : T[23]? = some (.inl (.int, 180)) := a_pfx h rfl
theorem tg_24 {T : List aT} (h : aPT T) : T[24]? = some (.inl (.boolean, 60)) := a_pfx h rfl
theorem tg_25 {T : List aT} (h : aPT T) : T[25]? = some (.inl (.object "Layerwright$Entry", 64)) := a_pfx h rfl
theorem tg_26 {T : List aT} (h : aPT T) : T[26]? = some (.inl (.int, 64)) := a_pfx h rfl
theorem tg_27 {T : List aT} (h : aPT T) : T[27]? = some (.inr 9) := a_pfx h rfl
theorem tg_28 {T : List aT} (h : aPT T) : T[28]? = some (.inl (.int, 3)) := a_pfx h rfl
theorem tg_29 {T : List aT} (h : aPT T) : T[29]? = some (.inr 9) := a_pfx h rfl
theorem tg_30 {T : List aT} (h : aPT T) : T[30]? = some (.inl (.int, 3)) := a_pfx h rfl
theorem tg_31 {T : List aT} (h : aPT T) : T[31]? = some (.inr 9) := a_pfx h rfl
theorem tg_32 {T : List aT} (h : aPT T) : T[32]? = some (.inl (.int, 3)) := a_pfx h rfl
theorem tg_33 {T : List aT} (h : aPT T) : T[33]? = some (.inr 2) := a_pfx h rfl
theorem tg_34 {T : List aT} (h : aPT T) : T[34]? = some (.inl (.int, 192)) := a_pfx h rfl
theorem tg_35 {T : List aT} (h : aPT T) : T[35]? = some (.inl (.int, 128)) := a_pfx h rfl
theorem tg_36 {T : List aT} (h : aPT T) : T[36]? = some (.inl (.int, 64)) := a_pfx h rfl
theorem tg_37 {T : List aT} (h : aPT T) : T[37]? = some (.inl (.int, 192)) := a_pfx h rfl
theorem tg_38 {T : List aT} (h : aPT T) : T[38]? = some (.inr 0) := a_pfx h rfl
theorem tg_39 {T : List aT} (h : aPT T) : T[39]? = some (.inl (.boolean, 64)) := a_pfx h rfl
theorem tg_40 {T : List aT} (h : aPT T) : T[40]? = some (.inl (.int, 64)) := a_pfx h rfl
theorem tg_41 {T : List aT} (h : aPT T) : T[41]? = some (.inl (.int, 8)) := a_pfx h rfl
theorem tg_42 {T : List aT} (h : aPT T) : T[42]? = some (.inl (.long, 8)) := a_pfx h rfl
theorem tg_43 {T : List aT} (h : aPT T) : T[43]? = some (.inl (.object "Layerwright$Plan", 40)) := a_pfx h rfl
def a_refs : List (Nat × Nat × Nat) := [(0, 0, 1), (0, 1, 8), (0, 2, 19), (0, 3, 33), (0, 4, 38), (0, 5, 41), (0, 6, 42), (0, 8, 43), (1, 0, 2), (1, 2, 3), (1, 3, 4), (1, 4, 5), (1, 5, 6), (1, 7, 7), (8, 0, 1), (8, 1, 9), (8, 4, 11), (8, 5, 12), (8, 6, 14), (8, 7, 16), (8, 8, 17), (8, 9, 18), (9, 0, 10), (12, 0, 13), (14, 0, 15), (19, 0, 20), (19, 1, 21), (19, 3, 22), (19, 4, 23), (19, 5, 24), (19, 7, 25), (19, 9, 26), (20, 0, 27), (20, 1, 29), (20, 2, 31), (27, 0, 28), (29, 0, 30), (31, 0, 32), (33, 0, 34), (33, 1, 35), (33, 2, 8), (33, 3, 19), (33, 4, 36), (33, 6, 37), (38, 1, 19), (38, 2, 33), (38, 6, 39), (38, 7, 40)]
def aPR (R : aR) : Prop := ∀ q ∈ a_refs, R q.1 q.2.1 = some q.2.2
theorem pr_0_0 {R : aR} (h : aPR R) : R 0 0 = some 1 := h (0, 0, 1) (List.mem_of_getElem? (i := 0) rfl)
theorem pr_0_1 {R : aR} (h : aPR R) : R 0 1 = some 8 := h (0, 1, 8) (List.mem_of_getElem? (i := 1) rfl)
theorem pr_0_2 {R : aR} (h : aPR R) : R 0 2 = some 19 := h (0, 2, 19) (List.mem_of_getElem? (i := 2) rfl)
theorem pr_0_3 {R : aR} (h : aPR R) : R 0 3 = some 33 := h (0, 3, 33) (List.mem_of_getElem? (i := 3) rfl)
theorem pr_0_4 {R : aR} (h : aPR R) : R 0 4 = some 38 := h (0, 4, 38) (List.mem_of_getElem? (i := 4) rfl)
theorem pr_0_5 {R : aR} (h : aPR R) : R 0 5 = some 41 := h (0, 5, 41) (List.mem_of_getElem? (i := 5) rfl)
theorem pr_0_6 {R : aR} (h : aPR R) : R 0 6 = some 42 := h (0, 6, 42) (List.mem_of_getElem? (i := 6) rfl)
theorem pr_0_8 {R : aR} (h : aPR R) : R 0 8 = some 43 := h (0, 8, 43) (List.mem_of_getElem? (i := 7) rfl)
theorem pr_1_0 {R : aR} (h : aPR R) : R 1 0 = some 2 := h (1, 0, 2) (List.mem_of_getElem? (i := 8) rfl)
theorem pr_1_2 {R : aR} (h : aPR R) : R 1 2 = some 3 := h (1, 2, 3) (List.mem_of_getElem? (i := 9) rfl)
theorem pr_1_3 {R : aR} (h : aPR R) : R 1 3 = some 4 := h (1, 3, 4) (List.mem_of_getElem? (i := 10) rfl)
theorem pr_1_4 {R : aR} (h : aPR R) : R 1 4 = some 5 := h (1, 4, 5) (List.mem_of_getElem? (i := 11) rfl)
theorem pr_1_5 {R : aR} (h : aPR R) : R 1 5 = some 6 := h (1, 5, 6) (List.mem_of_getElem? (i := 12) rfl)
theorem pr_1_7 {R : aR} (h : aPR R) : R 1 7 = some 7 := h (1, 7, 7) (List.mem_of_getElem? (i := 13) rfl)
theorem pr_8_0 {R : aR} (h : aPR R) : R 8 0 = some 1 := h (8, 0, 1) (List.mem_of_getElem? (i := 14) rfl)
theorem pr_8_1 {R : aR} (h : aPR R) : R 8 1 = some 9 := h (8, 1, 9) (List.mem_of_getElem? (i := 15) rfl)
theorem pr_8_4 {R : aR} (h : aPR R) : R 8 4 = some 11 := h (8, 4, 11) (List.mem_of_getElem? (i := 16) rfl)
theorem pr_8_5 {R : aR} (h : aPR R) : R 8 5 = some 12 := h (8, 5, 12) (List.mem_of_getElem? (i := 17) rfl)
theorem pr_8_6 {R : aR} (h : aPR R) : R 8 6 = some 14 := h (8, 6, 14) (List.mem_of_getElem? (i := 18) rfl)
theorem pr_8_7 {R : aR} (h : aPR R) : R 8 7 = some 16 := h (8, 7, 16) (List.mem_of_getElem? (i := 19) rfl)
theorem pr_8_8 {R : aR} (h : aPR R) : R 8 8 = some 17 := h (8, 8, 17) (List.mem_of_getElem? (i := 20) rfl)
theorem pr_8_9 {R : aR} (h : aPR R) : R 8 9 = some 18 := h (8, 9, 18) (List.mem_of_getElem? (i := 21) rfl)
theorem pr_9_0 {R : aR} (h : aPR R) : R 9 0 = some 10 := h (9, 0, 10) (List.mem_of_getElem? (i := 22) rfl)
theorem pr_12_0 {R : aR} (h : aPR R) : R 12 0 = some 13 := h (12, 0, 13) (List.mem_of_getElem? (i := 23) rfl)
theorem pr_14_0 {R : aR} (h : aPR R) : R 14 0 = some 15 := h (14, 0, 15) (List.mem_of_getElem? (i := 24) rfl)
theorem pr_19_0 {R : aR} (h : aPR R) : R 19 0 = some 20 := h (19, 0, 20) (List.mem_of_getElem? (i := 25) rfl)
theorem pr_19_1 {R : aR} (h : aPR R) : R 19 1 = some 21 := h (19, 1, 21) (List.mem_of_getElem? (i := 26) rfl)
theorem pr_19_3 {R : aR} (h : aPR R) : R 19 3 = some 22 := h (19, 3, 22) (List.mem_of_getElem? (i := 27) rfl)
theorem pr_19_4 {R : aR} (h : aPR R) : R 19 4 = some 23 := h (19, 4, 23) (List.mem_of_getElem? (i := 28) rfl)
theorem pr_19_5 {R : aR} (h : aPR R) : R 19 5 = some 24 := h (19, 5, 24) (List.mem_of_getElem? (i := 29) rfl)
theorem pr_19_7 {R : aR} (h : aPR R) : R 19 7 = some 25 := h (19, 7, 25) (List.mem_of_getElem? (i := 30) rfl)
theorem pr_19_9 {R : aR} (h : aPR R) : R 19 9 = some 26 := h (19, 9, 26) (List.mem_of_getElem? (i := 31) rfl)
theorem pr_20_0 {R : aR} (h : aPR R) : R 20 0 = some 27 := h (20, 0, 27) (List.mem_of_getElem? (i := 32) rfl)
theorem pr_20_1 {R : aR} (h : aPR R) : R 20 1 = some 29 := h (20, 1, 29) (List.mem_of_getElem? (i := 33) rfl)
theorem pr_20_2 {R : aR} (h : aPR R) : R 20 2 = some 31 := h (20, 2, 31) (List.mem_of_getElem? (i := 34) rfl)
theorem pr_27_0 {R : aR} (h : aPR R) : R 27 0 = some 28 := h (27, 0, 28) (List.mem_of_getElem? (i := 35) rfl)
theorem pr_29_0 {R : aR} (h : aPR R) : R 29 0 = some 30 := h (29, 0, 30) (List.mem_of_getElem? (i := 36) rfl)
theorem pr_31_0 {R : aR} (h : aPR R) : R 31 0 = some 32 := h (31, 0, 32) (List.mem_of_getElem? (i := 37) rfl)
theorem pr_33_0 {R : aR} (h : aPR R) : R 33 0 = some 34 := h (33, 0, 34) (List.mem_of_getElem? (i := 38) rfl)
theorem pr_33_1 {R : aR} (h : aPR R) : R 33 1 = some 35 := h (33, 1, 35) (List.mem_of_getElem? (i := 39) rfl)
theorem pr_33_2 {R : aR} (h : aPR R) : R 33 2 = some 8 := h (33, 2, 8) (List.mem_of_getElem? (i := 40) rfl)
theorem pr_33_3 {R : aR} (h : aPR R) : R 33 3 = some 19 := h (33, 3, 19) (List.mem_of_getElem? (i := 41) rfl)
theorem pr_33_4 {R : aR} (h : aPR R) : R 33 4 = some 36 := h (33, 4, 36) (List.mem_of_getElem? (i := 42) rfl)
theorem pr_33_6 {R : aR} (h : aPR R) : R 33 6 = some 37 := h (33, 6, 37) (List.mem_of_getElem? (i := 43) rfl)
theorem pr_38_1 {R : aR} (h : aPR R) : R 38 1 = some 19 := h (38, 1, 19) (List.mem_of_getElem? (i := 44) rfl)
theorem pr_38_2 {R : aR} (h : aPR R) : R 38 2 = some 33 := h (38, 2, 33) (List.mem_of_getElem? (i := 45) rfl)
theorem pr_38_6 {R : aR} (h : aPR R) : R 38 6 = some 39 := h (38, 6, 39) (List.mem_of_getElem? (i := 46) rfl)
theorem pr_38_7 {R : aR} (h : aPR R) : R 38 7 = some 40 := h (38, 7, 40) (List.mem_of_getElem? (i := 47) rfl)
theorem aPR.put {R : aR} (h : aPR R) {o k : Nat} {v : Option Nat} (hn : ∀ q ∈ a_refs, ¬ (q.1 = o ∧ q.2.1 = k)) : aPR (a_u R o k v) := fun q hq => by rw [a_u_ne (hn q hq)]; exact h q hq
theorem a_refs_lt : ∀ q ∈ a_refs, q.1 < 44 := by decide +kernel
theorem aPR.putD {R : aR} (h : aPR R) {o k : Nat} {v : Option Nat} (ho : 44 ≤ o) : aPR (a_u R o k v) := h.put fun q hq e => by have := a_refs_lt q hq; omega
