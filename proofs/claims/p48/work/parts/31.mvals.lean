abbrev sVal (I : aI) (J : aJ) (f : Nat) : Int32 := if I 44 57 = 0 then (if sCount (J 88 f) = 1 then nI (sLeast (J 88 f)) else -1) else -2
abbrev sSum (x : Int64) : Int32 := if x = 0 then 0 else 10000 * nI (sCount x) + 100 * nI (sLeast x) + (nI (sGreat x) + (-1))
abbrev SolP (I I2 : aI) (J J2 : aJ) (n : Nat) : Prop := ∃ K P S, J2 = a_ur (a_ur (a_ur J 90 K) 89 P) 88 S ∧ SolR I I2 n P S
theorem SW.th {I : aI} {n : Nat} {v : Int32} (h : SW I n) : SW (a_u I 44 61 v) n := SW_cg (a_u_ne (by decide)) (a_u_row (by decide)) (a_u_row (by decide)) (a_u_row (by decide)) (a_u_row (by decide)) (a_u_row (by decide)) (a_u_row (by decide)) (a_u_row (by decide)) (a_u_row (by decide)) h
