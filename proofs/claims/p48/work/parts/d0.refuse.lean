/-! WHAT THERE IS NOT IS REFUSED, and nothing changes -/
theorem ri_neg {x : Int32} {N : Nat} (hx : ¬ 0 ≤ x) : ¬ (0 ≤ x ∧ x < nI N) := fun z => hx z.1
theorem ri_e {n N : Nat} (h : N = n) : ¬ (0 ≤ nI n ∧ nI n < nI N) := fun z => absurd z.2 (by rw [h]; exact Int32.lt_irrefl)
theorem ri_t {N : Nat} (h : N < 1000) : (nI N).toInt = N := by rw [nI]; exact Int32.toInt_ofNat_of_lt (by omega)
theorem ri_big {N : Nat} (h : N < 1000) : ¬ ((0 : Int32) ≤ 2147483647 ∧ (2147483647 : Int32) < nI N) := fun z => by
  have q := z.2
  rw [i_lt, ri_t h, show ((2147483647 : Int32).toInt) = 2147483647 from rfl] at q
  omega
theorem ri_ge {a N : Nat} (h : N ≤ a) (ha : a < 1000) : ¬ (0 ≤ nI a ∧ nI a < nI N) := fun z => by
  have q := z.2
  rw [i_lt, ri_t ha, ri_t (N := N) (by omega)] at q
  omega
theorem ri_gt {a N : Nat} (h : N < a) (ha : a < 1000) : ¬ (0 ≤ nI a ∧ nI a ≤ nI N) := fun z => by
  have q := z.2
  rw [i_le, ri_t ha, ri_t (N := N) (by omega)] at q
  omega
theorem ri_bigl {N : Nat} (h : N < 1000) : ¬ ((0 : Int32) ≤ 2147483647 ∧ (2147483647 : Int32) ≤ nI N) := fun z => by
  have q := z.2
  rw [i_le, ri_t h, show ((2147483647 : Int32).toInt) = 2147483647 from rfl] at q
  omega
theorem ri_in {N : Nat} (h0 : N ≠ 0) (h : N < 1000) : (0 : Int32) ≤ 0 ∧ (0 : Int32) < nI N := ⟨by decide, by
  rw [i_lt, ri_t h, show ((0 : Int32).toInt) = 0 from rfl]; omega⟩
theorem ri_le {N : Nat} (h : N < 1000) : (0 : Int32) ≤ 0 ∧ (0 : Int32) ≤ nI N := ⟨by decide, by
  rw [i_le, ri_t h, show ((0 : Int32).toInt) = 0 from rfl]; omega⟩
theorem ri_n0 {N : Nat} (h0 : N ≠ 0) (h : N < 1000) : ¬ nI N = 0 := fun z => by
  have q := congrArg Int32.toInt z
  rw [ri_t h, show ((0 : Int32).toInt) = 0 from rfl] at q
  omega
/-- how many there can be -/
theorem GX.bds {T : List aT} {I : aI} {J : aJ} {R : aR} {m : aI} (h : GX T I J R m) : iN m 44 0 ≤ 30 ∧ iN m 44 14 ≤ 8 ∧ iN m 44 20 ≤ 4 ∧ iN m 44 25 ≤ 60 ∧ iN m 44 36 ≤ 40 ∧ iN m 63 0 ≤ 8 ∧ iN m 79 0 ≤ 128 := by
  obtain ⟨sq, gq, eq, pq, h9⟩ := h.g9
  refine ⟨h9.bk.1.1, h9.po.2.1, h9.es.1.1.g4, h9.ces.rs.r60, h9.pl.2.1, ?_, ?_⟩
  · have q := (h9.es.1.1.ks 0 (by decide)).2; omega
  · have q := (h9.pl.2.2.2.1.1 0 (by decide)).2; omega
section RF
variable {T : List aT} {I : aI} {J : aJ} {R : aR} {m : aI}
theorem r_publish {x : Int32} (h : GX T I J R m) (c : ¬ (0 ≤ x ∧ x ≤ 2)) : MX11_publish 3 200 [.ref 0, .int x] T I J R (EX (pt (-71) m)) := x_publish_exI h (fun q => c q.1) (fun q => c q.1)
theorem r_remove {x : Int32} (h : GX T I J R m) (c : ¬ (0 ≤ x ∧ x < nI (iN m 44 0))) : MX11_remove 3 200 [.ref 0, .int x] T I J R (EX (pt (-71) m)) := x_remove_exI h (fun q => c q.1)
theorem r_policy {x y z : Int32} (h : GX T I J R m) (c : ¬ (0 ≤ x ∧ x ≤ 9)) : MX11_policy 3 200 [.ref 0, .int x, .int y, .int z] T I J R (EX (pt (-71) m)) := x_policy_exI h (fun q => c q.1) (fun q => c q.1) (fun q => c q.1)
theorem r_policyA {x y z : Int32} (h : GX T I J R m) (a : 0 ≤ x ∧ x ≤ 9) (c : ¬ ((0 ≤ y ∧ y ≤ 63) ∧ (y ≤ z ∧ z ≤ 63))) : MX11_policy 3 200 [.ref 0, .int x, .int y, .int z] T I J R (EX (pt (-72) m)) := x_policy_exA h (fun q => c q.2.1) (fun q => c q.2.1) (fun q => q a)
theorem r_types {x y z w : Int32} (h : GX T I J R m) (c : ¬ (0 ≤ x ∧ x ≤ 2)) : MX11_setType 3 200 [.ref 0, .int x, .int y, .int z, .int w, .int 0, .int 0] T I J R (EV (pt (-71) m)) := x_setType_exI h (Or.inl rfl) (Or.inl rfl) (fun q => c q.1) (fun q => c q.1) (fun q => c q.1)
theorem r_typesA {x y z w : Int32} (h : GX T I J R m) (a : 0 ≤ x ∧ x ≤ 2) (c : ¬ ((0 ≤ y ∧ y ≤ 7) ∧ (0 ≤ z ∧ z ≤ 7) ∧ (0 ≤ w ∧ w ≤ 7))) : MX11_setType 3 200 [.ref 0, .int x, .int y, .int z, .int w, .int 0, .int 0] T I J R (EV (pt (-72) m)) := x_setType_exA h (Or.inl rfl) (Or.inl rfl) (fun q => c q.2.1) (fun q => c q.2.1) (fun q => q a)
theorem r_generator {x : Int32} (h : GX T I J R m) (c : ¬ (0 ≤ x ∧ x ≤ 2)) : MX11_generator 3 200 [.ref 0, .int x] T I J R (EX (pt (-71) m)) := x_generator_exI h (fun q => c q.1) (fun q => c q.1)
theorem r_key {x y z : Int32} (h : GX T I J R m) (c : ¬ (0 ≤ x ∧ x < nI (iN m 44 20))) : MX11_key 3 200 [.ref 0, .int x, .int y, .int z] T I J R (EX (pt (-71) m)) := x_key_exI h (fun q => c q.1) (fun q => c q.1) (fun q => c q.1)
theorem r_key2 {x y z : Int32} (h : GX T I J R m) (c : ¬ (0 ≤ y ∧ y ≤ nI (iN m 63 x.toNatClampNeg))) : MX11_key 3 200 [.ref 0, .int x, .int y, .int z] T I J R (EX (pt (-71) m)) := x_key_exI h (fun q => c q.2.1) (fun q => c q.2.1) (fun q => c q.2.1)
theorem r_key3 {x y z : Int32} (h : GX T I J R m) (a : 0 ≤ x ∧ x < nI (iN m 44 20)) (b : 0 ≤ y ∧ y ≤ nI (iN m 63 x.toNatClampNeg)) (c : ¬ (0 ≤ z ∧ z ≤ 15)) : MX11_key 3 200 [.ref 0, .int x, .int y, .int z] T I J R (EX (pt (-72) m)) := x_key_exA h (fun q => c q.2.2.1) (fun q => c q.2.2.1) (fun q => q ⟨a, b⟩)
theorem r_unkey {x y : Int32} (h : GX T I J R m) (c : ¬ (0 ≤ x ∧ x < nI (iN m 44 20))) : MX11_unkey 3 200 [.ref 0, .int x, .int y] T I J R (EX (pt (-71) m)) := x_unkey_exI h (fun q => c q.1)
theorem r_unkey2 {x y : Int32} (h : GX T I J R m) (c : ¬ (0 ≤ y ∧ y < nI (iN m 63 x.toNatClampNeg))) : MX11_unkey 3 200 [.ref 0, .int x, .int y] T I J R (EX (pt (-71) m)) := x_unkey_exI h (fun q => c q.2)
theorem r_bind {x y z : Int32} (h : GX T I J R m) (c : ¬ (0 ≤ x ∧ x < nI (iN m 44 20))) : MX11_bind 3 200 [.ref 0, .int x, .int y, .int z] T I J R (EX (pt (-71) m)) := x_bind_exI h (fun q => c q.1.1) (fun q => c q.1.1)
theorem r_bind2 {x y z : Int32} (h : GX T I J R m) (c : ¬ (0 ≤ y ∧ y ≤ 2)) : MX11_bind 3 200 [.ref 0, .int x, .int y, .int z] T I J R (EX (pt (-71) m)) := x_bind_exI h (fun q => c q.1.2.1) (fun q => c q.1.2.1)
theorem r_bind3 {x y z : Int32} (h : GX T I J R m) (c : ¬ (-1 ≤ z ∧ z ≤ nI (10 + 3 * x.toNatClampNeg - 1))) : MX11_bind 3 200 [.ref 0, .int x, .int y, .int z] T I J R (EX (pt (-71) m)) := x_bind_exI h (fun q => c q.1.2.2) (fun q => c q.1.2.2)
theorem r_upgrade {x : Int32} (h : GX T I J R m) (c : ¬ (0 ≤ x ∧ x ≤ 2)) : MX11_upgrade 3 200 [.ref 0, .int x] T I J R (EX (pt (-71) m)) := x_upgrade_exI h (fun q => c q.1) (fun q => c q.1)
theorem r_given {x y : Int32} (h : GX T I J R m) (c : ¬ (0 ≤ x ∧ x < nI (16 * iN m 44 20))) : MX11_given 3 200 [.ref 0, .int x, .int y] T I J R (EX (pt (-71) m)) := x_given_exI h (fun q => c q.1)
theorem r_given2 {x y : Int32} (h : GX T I J R m) (c : ¬ (0 ≤ y ∧ y ≤ 2)) : MX11_given 3 200 [.ref 0, .int x, .int y] T I J R (EX (pt (-71) m)) := x_given_exI h (fun q => c q.2)
theorem r_action {x y : Int32} (h : GX T I J R m) (c : ¬ (0 ≤ x ∧ x < nI (iN m 44 36))) : MX11_action 3 200 [.ref 0, .int x, .int y] T I J R (EX (pt (-71) m)) := x_action_exI h (fun q => c q.1)
theorem r_action2 {x y : Int32} (h : GX T I J R m) (c : ¬ (0 ≤ y ∧ y < nI (iN m 79 x.toNatClampNeg))) : MX11_action 3 200 [.ref 0, .int x, .int y] T I J R (EX (pt (-71) m)) := x_action_exI h (fun q => c q.2)
theorem r_approve {x y : Int32} (h : GX T I J R m) (c : ¬ (0 ≤ x ∧ x < nI (iN m 44 36))) : MX11_approve 3 200 [.ref 0, .int x, .int y] T I J R (EB (pt (-71) m)) := x_approve_exI h (fun q => c q.1.1) (fun q => c q.1.1)
theorem r_approve2 {x y : Int32} (h : GX T I J R m) (c : ¬ (0 ≤ y ∧ y ≤ 2)) : MX11_approve 3 200 [.ref 0, .int x, .int y] T I J R (EB (pt (-71) m)) := x_approve_exI h (fun q => c q.1.2) (fun q => c q.1.2)
theorem r_stored {x y : Int32} (h : GX T I J R m) (c : ¬ (0 ≤ x ∧ x < nI (16 * iN m 44 20))) : MX11_stored 3 200 [.ref 0, .int x, .int y] T I J R (EX (pt (-71) m)) := x_stored_exI h (fun q => c q.1)
theorem r_real {x y : Int32} (h : GX T I J R m) (c : ¬ (0 ≤ x ∧ x < nI (iN m 44 25))) : MX11_real 3 200 [.ref 0, .int x, .int y] T I J R (EX (pt (-71) m)) := x_real_exI h (fun q => c q.1)
theorem r_real2 {x y : Int32} (h : GX T I J R m) (c : ¬ (0 ≤ y ∧ y ≤ 2)) : MX11_real 3 200 [.ref 0, .int x, .int y] T I J R (EX (pt (-71) m)) := x_real_exI h (fun q => c q.2)
theorem r_change {x y z : Int32} (h : GX T I J R m) (c : ¬ (0 ≤ x ∧ x < nI (iN m 44 25))) : MX11_change 3 200 [.ref 0, .int x, .int y, .int z] T I J R (EX (pt (-71) m)) := x_change_exI h (fun q => c q.1.1) (fun q => c q.1.1) (fun q => c q.1.1)
theorem r_change2 {x y z : Int32} (h : GX T I J R m) (c : ¬ (0 ≤ y ∧ y ≤ 2)) : MX11_change 3 200 [.ref 0, .int x, .int y, .int z] T I J R (EX (pt (-71) m)) := x_change_exI h (fun q => c q.1.2) (fun q => c q.1.2) (fun q => c q.1.2)
theorem r_change3 {x y z : Int32} (h : GX T I J R m) (a : 0 ≤ x ∧ x < nI (iN m 44 25)) (b : 0 ≤ y ∧ y ≤ 2) (c : ¬ (0 ≤ z ∧ z ≤ 255)) : MX11_change 3 200 [.ref 0, .int x, .int y, .int z] T I J R (EX (pt (-72) m)) := x_change_exA h (fun q => c q.2.1) (fun q => c q.2.1) (fun q => q ⟨a, b⟩)
theorem r_make {x : Int32} (h : GX T I J R m) (c : ¬ (0 ≤ x ∧ x ≤ 2)) : MX11_make 3 200 [.ref 0, .int x] T I J R (EX (pt (-71) m)) := x_make_exI h (fun q => c q.1) (fun q => c q.1)
theorem r_move {x y : Int32} (h : GX T I J R m) (c : ¬ (0 ≤ x ∧ x < nI (16 * iN m 44 20))) : MX11_move 3 200 [.ref 0, .int x, .int y] T I J R (EX (pt (-71) m)) := x_move_exI h (fun q => c q.1.1) (fun q => c q.1.1)
theorem r_move2 {x y : Int32} (h : GX T I J R m) (c : ¬ (0 ≤ y ∧ y < nI (16 * iN m 44 20))) : MX11_move 3 200 [.ref 0, .int x, .int y] T I J R (EX (pt (-71) m)) := x_move_exI h (fun q => c q.1.2) (fun q => c q.1.2)
theorem r_take {x y : Int32} (h : GX T I J R m) (c : ¬ (0 ≤ x ∧ x < nI (16 * iN m 44 20))) : MX11_take 3 200 [.ref 0, .int x, .int y] T I J R (EX (pt (-71) m)) := x_take_exI h (fun q => c q.1.1) (fun q => c q.1.1)
theorem r_take2 {x y : Int32} (h : GX T I J R m) (c : ¬ (0 ≤ y ∧ y < nI (iN m 44 25))) : MX11_take 3 200 [.ref 0, .int x, .int y] T I J R (EX (pt (-71) m)) := x_take_exI h (fun q => c q.1.2) (fun q => c q.1.2)
end RF
