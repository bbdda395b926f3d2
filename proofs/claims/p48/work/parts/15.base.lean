def bI (b : Bool) : Int32 := if b then 1 else 0
theorem bI_01 (b : Bool) : bI b = 0 ∨ bI b = 1 := by cases b <;> simp [bI]
theorem bI_t : bI true = 1 := rfl
theorem bI_f : bI false = 0 := rfl
theorem bI_e0 {b : Bool} : bI b = 0 ↔ b = false := by cases b <;> simp [bI]
theorem bI_n0 {b : Bool} : (¬ bI b = 0) ↔ b = true := by cases b <;> simp [bI]
theorem a_le {a b : Nat} (h : Nat.ble a b = true := by rfl) : a ≤ b := Nat.le_of_ble_eq_true h
/-- the callee changes nothing and answers v -/
def aPure (v : Option Value) (T : List aT) (I : aI) (J : aJ) (R : aR) : aP := fun o T2 I2 J2 R2 => o = .inl v ∧ T2 = T ∧ I2 = I ∧ J2 = J ∧ R2 = R
theorem aPure_i {x z : Int32} {T : List aT} {I : aI} {J : aJ} {R : aR} (h : x = z) : aPure (some (.int z)) T I J R (.inl (some (.int x))) T I J R := ⟨by rw [h], rfl, rfl, rfl, rfl⟩
theorem aPure_l {x z : Int64} {T : List aT} {I : aI} {J : aJ} {R : aR} (h : x = z) : aPure (some (.long z)) T I J R (.inl (some (.long x))) T I J R := ⟨by rw [h], rfl, rfl, rfl, rfl⟩
theorem aPure_a {x z : Value} {T : List aT} {I : aI} {J : aJ} {R : aR} (h : x = z) : aPure (some z) T I J R (.inl (some x)) T I J R := ⟨by rw [h], rfl, rfl, rfl, rfl⟩
theorem aPure_v {T : List aT} {I : aI} {J : aJ} {R : aR} : aPure none T I J R (.inl none) T I J R := ⟨rfl, rfl, rfl, rfl, rfl⟩
theorem aPure_x {v : Option Value} {T0 : List aT} {X : aX} {c s pc : Nat} {L : List (Option Value)} {T : List aT} {I : aI} {J : aJ} {R : aR} : ∀ (E : String) (T2 : List aT) (I2 : aI) (J2 : aJ) (R2 : aR), T0 <+: T2 → aPure v T I J R (.inr E) T2 I2 J2 R2 → AE X c s pc L E T2 I2 J2 R2 := fun _ _ _ _ _ _ h => nomatch h.1
theorem aPure_k {v : Option Value} {T0 : List aT} {X : aX} {c s pc : Nat} {L : List (Option Value)} {st : List Value} {T : List aT} {I : aI} {J : aJ} {R : aR} (k : AW X c s pc L (v.toList ++ st) T I J R) : ∀ (v2 : Option Value) (T2 : List aT) (I2 : aI) (J2 : aJ) (R2 : aR), T0 <+: T2 → aPure v T I J R (.inl v2) T2 I2 J2 R2 → AW X c s pc L (v2.toList ++ st) T2 I2 J2 R2 := by
  rintro v2 T2 I2 J2 R2 - ⟨h, rfl, rfl, rfl, rfl⟩
  cases h
  exact k
section AWK
variable {y : MethodName} {cc : ByteArray} {nL : Nat} {ret : Option FieldType} {fr lo kc ks : Nat} {hh : List (Nat × Nat × Nat × Nat)} {X : aX} {cells slots pc : Nat} {L : List (Option Value)} {st : List Value} {T : List aT} {I : aI} {J : aJ} {R : aR}
theorem aw_iaload_k (hC : aC y cc nL ret fr lo kc ks hh X) {a n j : Nat} {i : Int32} (hd : decode cc pc = .ok (.iaload, 1)) (hT : T[a]? = some (.inl (.int, n))) (hj : i.toNatClampNeg = j) (hin : vp_in i n) (k : AW X cells slots (pc + 1) L (.int (I a j) :: st) T I J R) : AW X cells slots pc L (.int i :: .ref a :: st) T I J R := by
  subst hj; exact aw_iaload hC hd hT hin k
theorem aw_baload_k (hC : aC y cc nL ret fr lo kc ks hh X) {a n j : Nat} {i : Int32} (hd : decode cc pc = .ok (.baload, 1)) (hT : T[a]? = some (.inl (.boolean, n))) (hj : i.toNatClampNeg = j) (hin : vp_in i n) (k : AW X cells slots (pc + 1) L (.int (I a j) :: st) T I J R) : AW X cells slots pc L (.int i :: .ref a :: st) T I J R := by
  subst hj; exact aw_baload hC hd hT hin k
theorem aw_laload_k (hC : aC y cc nL ret fr lo kc ks hh X) {a n j : Nat} {i : Int32} (hd : decode cc pc = .ok (.laload, 1)) (hT : T[a]? = some (.inl (.long, n))) (hj : i.toNatClampNeg = j) (hin : vp_in i n) (k : AW X cells slots (pc + 1) L (.long (J a j) :: st) T I J R) : AW X cells slots pc L (.int i :: .ref a :: st) T I J R := by
  subst hj; exact aw_laload hC hd hT hin k
theorem aw_aaloadR_k (hC : aC y cc nL ret fr lo kc ks hh X) {a n j q0 : Nat} {i : Int32} {C : String} (hd : decode cc pc = .ok (.aaload, 1)) (hT : T[a]? = some (.inl (.object C, n))) (hj : i.toNatClampNeg = j) (hin : vp_in i n) (hR : R a j = some q0) (k : AW X cells slots (pc + 1) L (.ref q0 :: st) T I J R) : AW X cells slots pc L (.int i :: .ref a :: st) T I J R := by
  subst hj; exact aw_aaloadR hC hd hT hin hR k
theorem aw_aaloadN_k (hC : aC y cc nL ret fr lo kc ks hh X) {a n j : Nat} {i : Int32} {C : String} (hd : decode cc pc = .ok (.aaload, 1)) (hT : T[a]? = some (.inl (.object C, n))) (hj : i.toNatClampNeg = j) (hin : vp_in i n) (hR : R a j = none) (k : AW X cells slots (pc + 1) L (.null :: st) T I J R) : AW X cells slots pc L (.int i :: .ref a :: st) T I J R := by
  subst hj; exact aw_aaloadN hC hd hT hin hR k
theorem aw_iastore_k (hC : aC y cc nL ret fr lo kc ks hh X) {a n j : Nat} {i x : Int32} (hd : decode cc pc = .ok (.iastore, 1)) (hT : T[a]? = some (.inl (.int, n))) (hj : i.toNatClampNeg = j) (hin : vp_in i n) (k : AW X cells slots (pc + 1) L st T (a_u I a j x) J R) : AW X cells slots pc L (.int x :: .int i :: .ref a :: st) T I J R := by
  subst hj; exact aw_iastore hC hd hT hin k
theorem vp_nar01 {x : Int32} (h : x = 0 ∨ x = 1) : vp_nar .boolean x = x := by rcases h with rfl | rfl <;> rfl
theorem aw_bastore_k (hC : aC y cc nL ret fr lo kc ks hh X) {a n j : Nat} {i x : Int32} (hd : decode cc pc = .ok (.bastore, 1)) (hT : T[a]? = some (.inl (.boolean, n))) (hj : i.toNatClampNeg = j) (hin : vp_in i n) (hx : x = 0 ∨ x = 1) (k : AW X cells slots (pc + 1) L st T (a_u I a j x) J R) : AW X cells slots pc L (.int x :: .int i :: .ref a :: st) T I J R := by
  subst hj; refine aw_bastore hC hd hT hin ?_; rw [vp_nar01 hx]; exact k
theorem aw_lastore_k (hC : aC y cc nL ret fr lo kc ks hh X) {a n j : Nat} {i : Int32} {x : Int64} (hd : decode cc pc = .ok (.lastore, 1)) (hT : T[a]? = some (.inl (.long, n))) (hj : i.toNatClampNeg = j) (hin : vp_in i n) (k : AW X cells slots (pc + 1) L st T I (a_u J a j x) R) : AW X cells slots pc L (.long x :: .int i :: .ref a :: st) T I J R := by
  subst hj; exact aw_lastore hC hd hT hin k
theorem aw_aastoreR_k (hC : aC y cc nL ret fr lo kc ks hh X) {a n j q0 ci N : Nat} {i : Int32} {C : String} {Tb : u_T} (hd : decode cc pc = .ok (.aastore, 1)) (hT : T[a]? = some (.inl (.object C, n))) (hj : i.toNatClampNeg = j) (hin : vp_in i n) (hq : T[q0]? = some (.inr ci)) (hcl : vwCl[ci]? = some (C, Tb, N)) (k : AW X cells slots (pc + 1) L st T I J (a_u R a j (some q0))) : AW X cells slots pc L (.ref q0 :: .int i :: .ref a :: st) T I J R := by
  subst hj; exact aw_aastoreR hC hq hcl hd hT hin k
theorem aw_aastoreN_k (hC : aC y cc nL ret fr lo kc ks hh X) {a n j : Nat} {i : Int32} {C : String} (hd : decode cc pc = .ok (.aastore, 1)) (hT : T[a]? = some (.inl (.object C, n))) (hj : i.toNatClampNeg = j) (hin : vp_in i n) (k : AW X cells slots (pc + 1) L st T I J (a_u R a j none)) : AW X cells slots pc L (.null :: .int i :: .ref a :: st) T I J R := by
  subst hj; exact aw_aastoreN hC hd hT hin k
end AWK
/-- downwards: a counting loop -/
theorem a_down {P : Nat → Prop} (N : Nat) (step : ∀ k, k ≤ N → (k < N → P (k + 1)) → P k) : ∀ k, k ≤ N → P k := by
  have h : ∀ m k, k + m = N → P k := by
    intro m
    induction m with
    | zero => intro k hk; exact step k (by omega) (fun h => absurd h (by omega))
    | succ m ih => intro k hk; exact step k (by omega) (fun _ => ih (k + 1) (by omega))
  exact fun k hk => h (N - k) k (by omega)
theorem nI_inc (k : Nat) : nI k + Int32.ofInt 1 = nI (k + 1) := nI_1 k
theorem nI_dec (k : Nat) : nI (k + 1) + Int32.ofInt (-1) = nI k := pk_m1 k
theorem bI_yes {p : Prop} [Decidable p] (h : p) : (1 : Int32) = bI (decide p) := by simp [bI, h]
theorem bI_no {p : Prop} [Decidable p] (h : ¬ p) : (0 : Int32) = bI (decide p) := by simp [bI, h]
theorem bI_d0 {p : Prop} [Decidable p] : bI (decide p) = 0 ↔ ¬ p := by simp [bI_e0]
theorem bI_dn {p : Prop} [Decidable p] : (¬ bI (decide p) = 0) ↔ p := by simp [bI_n0]
theorem i_lt (a b : Int32) : a < b ↔ a.toInt < b.toInt := Int32.lt_iff_toInt_lt
theorem i_le (a b : Int32) : a ≤ b ↔ a.toInt ≤ b.toInt := Int32.le_iff_toInt_le
theorem i_eq (a b : Int32) : a = b ↔ a.toInt = b.toInt := Int32.toInt_inj.symm
theorem i_nl (n : Nat) (h : n < 2147483648) : (nI n).toInt = n := nI_toInt h
theorem gMin_c : Cond.code Lib.Math.min.name Lib.Math.min.code 2 (some .int) ∈ a_G := gC_J9_min_7cf53
theorem aw_min {y : MethodName} {cc : ByteArray} {nL : Nat} {ret : Option FieldType} {fr lo kc ks : Nat} {hh : List (Nat × Nat × Nat × Nat)} {X : aX} {cells slots pc : Nat} {L : List (Option Value)} {st : List Value} {T : List aT} {I : aI} {J : aJ} {R : aR} (hC : aC y cc nL ret fr lo kc ks hh X) {idx : Nat} {x z : Int32} (hd : decode cc pc = .ok (.invokestatic idx, 3)) (w1 : Cond.methodLink y.cls idx yJ9_min_7cf53 ∈ a_G)
    (hfr : 1 ≤ fr) (hlo : 21 ≤ lo) (hcat : (st.map fun v => v.category).sum ≤ 8) (hc : cells ≤ kc) (hs : slots ≤ ks) (k : AW X cells slots (pc + 3) L (.int (if z < x then z else x) :: st) T I J R) : AW X cells slots pc L (.int z :: .int x :: st) T I J R := by
  obtain ⟨p, l, e, Rm, s, m, args, below, meth, c, Q, A, D, ad0, T0⟩ := X
  obtain ⟨⟨hx, hb, hml, hown, hts⟩, hr, hlocks, hname, hl9, hf1, hf2, hf3, hf4, htab, hA, hN, hZ⟩ := hC
  intro tys ad ws H locs ls h1 h2 h3 h4 h5 h6 hK hP hD hS hl
  have hcat9 : ((st.map (a_cv ad)).map fun v => v.category).sum ≤ 8 := by
    rw [List.map_map]; simpa [Function.comp_def, a_cat] using hcat
  exact va_mmin hx hb (hml.trans (hl.1.trans hml).symm) hown (hts _ w1) (hts _ gS_J9_min_7cf53) (hts _ gN_J9) (hts _ gMin_c) (by rw [hf1]; exact hfr) (by rw [hf2]; omega) (by rw [hf3]; exact hc) (by rw [hf4]; exact hs) hd (k tys ad ws H locs ls h1 h2 h3 (a_okS_cons a_okv_int (a_okS_tl (a_okS_tl h4))) h5 h6 hK hP hD hS hl)

theorem sw_cases (v : Int32) : v = 0 ∨ v = 1 ∨ v = 2 ∨ v = 3 ∨ v = 4 ∨ v = 5 ∨ v = 6 ∨ v = 7 ∨ v = 8 ∨ v = 9 ∨ v = 10 ∨ v = 11 ∨ v = 12 ∨ (v.toInt < 0 ∨ 12 < v.toInt) := by
  simp only [i_eq, Int32.reduceToInt]; omega
theorem aPure_e {x z : Int32} {T : List aT} {I I2 : aI} {J J2 : aJ} {R R2 : aR} (h : x = z) (hI : I = I2) (hJ : J = J2) (hR : R = R2) : aPure (some (.int z)) T I2 J2 R2 (.inl (some (.int x))) T I J R := ⟨by rw [h], rfl, hI, hJ, hR⟩
theorem aPure_ev {T : List aT} {I I2 : aI} {J J2 : aJ} {R R2 : aR} (hI : I = I2) (hJ : J = J2) (hR : R = R2) : aPure none T I2 J2 R2 (.inl none) T I J R := ⟨rfl, rfl, hI, hJ, hR⟩
