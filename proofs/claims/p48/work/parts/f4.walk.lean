/-! THE DRAWN TURNS, walked -/
theorem nlt {a b : Nat} (ha : a < 100000000) (hb : b < 100000000) : nI a < nI b ↔ a < b := by
  rw [i_lt, nI, Int32.toInt_ofNat_of_lt (by omega), nI, Int32.toInt_ofNat_of_lt (by omega)]; omega
theorem nle {a b : Nat} (ha : a < 100000000) (hb : b < 100000000) : nI a ≤ nI b ↔ a ≤ b := by
  rw [i_le, nI, Int32.toInt_ofNat_of_lt (by omega), nI, Int32.toInt_ofNat_of_lt (by omega)]; omega
theorem neqN {a b : Nat} (ha : a < 100000000) (hb : b < 100000000) : nI a = nI b ↔ a = b := ⟨fun z => by
  have z2 := congrArg Int32.toInt z
  rw [nI, Int32.toInt_ofNat_of_lt (by omega), nI, Int32.toInt_ofNat_of_lt (by omega)] at z2; omega, fun z => by rw [z]⟩
/-- what a telling leaves -/
def TF (m m1 : aI) (k : Nat) : Prop := iN m1 44 0 = k + 1 ∧ DS m1 (k + 1) ∧ m1 52 k = 0 ∧ m1 49 k ≠ -1 ∧ (∀ o, 45 ≤ o → o ≤ 52 → ∀ s, s < k → m1 o s = m o s) ∧ m1 44 14 = m 44 14 ∧ m1 44 20 = m 44 20 ∧ m1 44 36 = m 44 36 ∧ m1 44 13 = m 44 13
/-- what holds at the beginning of a turn -/
def LIv (m : aI) (k p : Nat) : Prop := iN m 44 0 = k ∧ DS m k ∧ NoC m ∧ iN m 44 14 = 0 ∧ iN m 44 20 = 2 ∧ iN m 44 36 = p ∧ p ≤ k ∧ k ≤ iN m 44 13 ∧ iN m 44 13 ≤ 4 * k
set_option maxRecDepth 100000 in
theorem lw_x {sb N : Nat} {xs : Nat → Int32} {X : aX} (hC : YC yL_law cL_law 12 15 634 622020 7235710 sb N xs X) {c s : Nat} {k p Xn : Nat} (hXn : Xn < 16777216) {T : List aT} {I : aI} {J : aJ} {R : aR} (kk : ∀ Xn, Xn < 16777216 → YW sb X c s 131 [none, some (.ref 0), some (.int (nI k)), some (.int (nI p)), some (.int (nI k)), some (.int (nI Xn)), some (.int (nI (Xn % 8))), none, none, none, none, none] [] T I J R) : YW sb X c s 122 [none, some (.ref 0), some (.int (nI k)), some (.int (nI p)), some (.int (nI k)), none, none, none, none, none, none, none] [.int (nI Xn)] T I J R := by
  refine lx_istore (L2 := [none, some (.ref 0), some (.int (nI k)), some (.int (nI p)), some (.int (nI k)), some (.int (nI Xn)), none, none, none, none, none, none]) hC dL_law_122 (by decide) (by decide) rfl ?_
  refine lx_iload hC dL_law_124 rfl ?_
  refine lx_bipush (v := 8) hC dL_law_126 (by decide) ?_
  refine lx_irem hC dL_law_128 (by decide) ?_
  rw [show ((nI Xn) - (nI Xn) / 8 * 8 : Int32) = nI (Xn % 8) from pk_rem (a := Xn) (d := 8) (by omega) (by decide) (by decide)]
  refine lx_istore (L2 := [none, some (.ref 0), some (.int (nI k)), some (.int (nI p)), some (.int (nI k)), some (.int (nI Xn)), some (.int (nI (Xn % 8))), none, none, none, none, none]) hC dL_law_129 (by decide) (by decide) rfl ?_
  exact kk Xn hXn
set_option maxRecDepth 100000 in
theorem lw_head {sb N : Nat} {xs : Nat → Int32} {X : aX} (hC : YC yL_law cL_law 12 15 634 622020 7235710 sb N xs X) (hN : N ≤ 260) {c s : Nat} {k p : Nat} (hk : k < 26) {T : List aT} {I : aI} {J : aJ} {R : aR} (kk : ∀ Xn, Xn < 16777216 → YW sb X c s 131 [none, some (.ref 0), some (.int (nI k)), some (.int (nI p)), some (.int (nI k)), some (.int (nI Xn)), some (.int (nI (Xn % 8))), none, none, none, none, none] [] T I J R) : YW sb X c s 92 [none, some (.ref 0), some (.int (nI k)), some (.int (nI p)), some (.int (nI k)), none, none, none, none, none, none, none] [] T I J R := by
  refine lx_iload hC dL_law_92 rfl ?_
  refine lx_bipush (v := 26) hC dL_law_94 (by decide) ?_
  refine lx_icmp_ge (tgt := 651) hC dL_law_96 (by decide) (fun z9 => absurd z9 (fun z => by have := (nle (a := 26) (b := k) (by decide) (by omega)).mp z; omega)) (fun _ => ?_)
  refine lx_slen (v := nI N) hC dL_law_99 dL_law_100 rfl ?_
  by_cases hN0 : N = 0
  · refine lx_if_ne (tgt := 112) hC dL_law_101 (by decide) (fun z9 => absurd (by rw [hN0]; rfl) z9) (fun _ => ?_)
    refine lx_bipush (v := 59) hC dL_law_104 (by decide) ?_
    refine lx_iload hC dL_law_106 rfl ?_
    refine lx_imul hC dL_law_108 ?_
    rw [show (59 * (nI k) : Int32) = nI (59 * k) from pk_mul 59 k]
    refine lx_goto (tgt := 122) hC dL_law_109 (by decide) ?_
    exact lw_x hC (by omega) kk
  · refine lx_if_ne (tgt := 112) hC dL_law_101 (by decide) (fun _ => ?_) (fun z9 => absurd z9 (ri_n0 hN0 (by omega)))
    have eM : (nI k - nI k / Int32.ofNat N * Int32.ofNat N : Int32) = nI (k % N) := pk_rem (a := k) (d := N) (by omega) (by omega) (by omega)
    refine lx_sldm hC dL_law_112 dL_law_113 dL_law_115 dL_law_116 dL_law_117 dL_law_118 rfl (ri_n0 hN0 (by omega)) (by rw [eM]; exact vp_in_nI (Nat.mod_lt _ (by omega)) (by omega)) ?_
    refine lx_bipush (v := 8) hC dL_law_119 (by decide) ?_
    refine lx_iushr hC dL_law_121 ?_
    obtain ⟨Xn, hXn, eX⟩ := ush8 (xs (nI k - nI k / Int32.ofNat N * Int32.ofNat N).toNatClampNeg)
    rw [eX]
    exact lw_x hC hXn kk
set_option maxRecDepth 100000 in
theorem lw_kind {sb N : Nat} {xs : Nat → Int32} {X : aX} (hC : YC yL_law cL_law 12 15 634 622020 7235710 sb N xs X) {c s : Nat} {k p Xn : Nat} (hX9 : Xn < 16777216) {T : List aT} {I : aI} {J : aJ} {R : aR} (kk : ∀ (K : Nat) (a b : Int32), K ≤ 7 → Tel K a b → (K = 5 ∨ K = 6 → a.toNatClampNeg ≤ 3) → YW sb X c s 214 [none, some (.ref 0), some (.int (nI k)), some (.int (nI p)), some (.int (nI k)), some (.int (nI Xn)), some (.int (nI K)), some (.int a), some (.int b), none, none, none] [] T I J R) : YW sb X c s 131 [none, some (.ref 0), some (.int (nI k)), some (.int (nI p)), some (.int (nI k)), some (.int (nI Xn)), some (.int (nI (Xn % 8))), none, none, none, none, none] [] T I J R := by
  have h8 : Xn % 8 < 8 := Nat.mod_lt _ (by decide)
  rcases (show Xn % 8 = 0 ∨ Xn % 8 = 1 ∨ Xn % 8 = 2 ∨ Xn % 8 = 3 ∨ Xn % 8 = 4 ∨ Xn % 8 = 5 ∨ Xn % 8 = 6 ∨ Xn % 8 = 7 by omega) with eK | eK | eK | eK | eK | eK | eK | eK
  · rw [eK]
    show YW sb X c s 131 [none, some (.ref 0), some (.int (nI k)), some (.int (nI p)), some (.int (nI k)), some (.int (nI Xn)), some (.int 0), none, none, none, none, none] [] T I J R
    refine lx_iload hC dL_law_131 rfl ?_
    refine lx_iconst (v := 5) hC dL_law_133 (by decide) ?_
    refine lx_icmp_eq (tgt := 144) hC dL_law_134 (by decide) (fun z9 => absurd z9 (by decide)) (fun _ => ?_)
    refine lx_iload hC dL_law_137 rfl ?_
    refine lx_bipush (v := 6) hC dL_law_139 (by decide) ?_
    refine lx_icmp_ne (tgt := 154) hC dL_law_141 (by decide) (fun _ => ?_) (fun z9 => absurd z9 (by decide))
    refine lx_iload hC dL_law_154 rfl ?_
    refine lx_bipush (v := 8) hC dL_law_156 (by decide) ?_
    refine lx_idiv hC dL_law_158 (by decide) ?_
    rw [show ((nI Xn) / 8 : Int32) = nI (Xn / 8) from pk_div (a := Xn) (d := 8) (by omega) (by decide) (by decide)]
    refine lx_bipush (v := 64) hC dL_law_159 (by decide) ?_
    refine lx_irem hC dL_law_161 (by decide) ?_
    rw [show ((nI (Xn / 8)) - (nI (Xn / 8)) / 64 * 64 : Int32) = nI ((Xn / 8) % 64) from pk_rem (a := (Xn / 8)) (d := 64) (by omega) (by decide) (by decide)]
    refine lx_istore (L2 := [none, some (.ref 0), some (.int (nI k)), some (.int (nI p)), some (.int (nI k)), some (.int (nI Xn)), some (.int 0), some (.int (nI ((Xn / 8) % 64))), none, none, none, none]) hC dL_law_162 (by decide) (by decide) rfl ?_
    refine lx_iload hC dL_law_164 rfl ?_
    refine lx_iconst (v := 1) hC dL_law_166 (by decide) ?_
    refine lx_icmp_ne (tgt := 175) hC dL_law_167 (by decide) (fun _ => ?_) (fun z9 => absurd z9 (by decide))
    refine lx_iload hC dL_law_175 rfl ?_
    refine lx_iconst (v := 2) hC dL_law_177 (by decide) ?_
    refine lx_icmp_ne (tgt := 192) hC dL_law_178 (by decide) (fun _ => ?_) (fun z9 => absurd z9 (by decide))
    refine lx_iload hC dL_law_192 rfl ?_
    refine lx_iconst (v := 5) hC dL_law_194 (by decide) ?_
    refine lx_icmp_ne (tgt := 211) hC dL_law_195 (by decide) (fun _ => ?_) (fun z9 => absurd z9 (by decide))
    refine lx_iconst (v := 0) hC dL_law_211 (by decide) ?_
    refine lx_istore (L2 := [none, some (.ref 0), some (.int (nI k)), some (.int (nI p)), some (.int (nI k)), some (.int (nI Xn)), some (.int 0), some (.int (nI ((Xn / 8) % 64))), some (.int 0), none, none, none]) hC dL_law_212 (by decide) (by decide) rfl ?_
    exact kk 0 (nI ((Xn / 8) % 64)) 0 (by decide) (tel_v (by decide) (by omega)) (fun z => absurd z (by decide))
  · rw [eK]
    show YW sb X c s 131 [none, some (.ref 0), some (.int (nI k)), some (.int (nI p)), some (.int (nI k)), some (.int (nI Xn)), some (.int 1), none, none, none, none, none] [] T I J R
    refine lx_iload hC dL_law_131 rfl ?_
    refine lx_iconst (v := 5) hC dL_law_133 (by decide) ?_
    refine lx_icmp_eq (tgt := 144) hC dL_law_134 (by decide) (fun z9 => absurd z9 (by decide)) (fun _ => ?_)
    refine lx_iload hC dL_law_137 rfl ?_
    refine lx_bipush (v := 6) hC dL_law_139 (by decide) ?_
    refine lx_icmp_ne (tgt := 154) hC dL_law_141 (by decide) (fun _ => ?_) (fun z9 => absurd z9 (by decide))
    refine lx_iload hC dL_law_154 rfl ?_
    refine lx_bipush (v := 8) hC dL_law_156 (by decide) ?_
    refine lx_idiv hC dL_law_158 (by decide) ?_
    rw [show ((nI Xn) / 8 : Int32) = nI (Xn / 8) from pk_div (a := Xn) (d := 8) (by omega) (by decide) (by decide)]
    refine lx_bipush (v := 64) hC dL_law_159 (by decide) ?_
    refine lx_irem hC dL_law_161 (by decide) ?_
    rw [show ((nI (Xn / 8)) - (nI (Xn / 8)) / 64 * 64 : Int32) = nI ((Xn / 8) % 64) from pk_rem (a := (Xn / 8)) (d := 64) (by omega) (by decide) (by decide)]
    refine lx_istore (L2 := [none, some (.ref 0), some (.int (nI k)), some (.int (nI p)), some (.int (nI k)), some (.int (nI Xn)), some (.int 1), some (.int (nI ((Xn / 8) % 64))), none, none, none, none]) hC dL_law_162 (by decide) (by decide) rfl ?_
    refine lx_iload hC dL_law_164 rfl ?_
    refine lx_iconst (v := 1) hC dL_law_166 (by decide) ?_
    refine lx_icmp_ne (tgt := 175) hC dL_law_167 (by decide) (fun z9 => absurd z9 (by decide)) (fun _ => ?_)
    refine lx_bipush (v := 63) hC dL_law_170 (by decide) ?_
    refine lx_goto (tgt := 212) hC dL_law_172 (by decide) ?_
    refine lx_istore (L2 := [none, some (.ref 0), some (.int (nI k)), some (.int (nI p)), some (.int (nI k)), some (.int (nI Xn)), some (.int 1), some (.int (nI ((Xn / 8) % 64))), some (.int 63), none, none, none]) hC dL_law_212 (by decide) (by decide) rfl ?_
    exact kk 1 (nI ((Xn / 8) % 64)) 63 (by decide) (tel_1 (by omega)) (fun z => absurd z (by decide))
  · rw [eK]
    show YW sb X c s 131 [none, some (.ref 0), some (.int (nI k)), some (.int (nI p)), some (.int (nI k)), some (.int (nI Xn)), some (.int 2), none, none, none, none, none] [] T I J R
    refine lx_iload hC dL_law_131 rfl ?_
    refine lx_iconst (v := 5) hC dL_law_133 (by decide) ?_
    refine lx_icmp_eq (tgt := 144) hC dL_law_134 (by decide) (fun z9 => absurd z9 (by decide)) (fun _ => ?_)
    refine lx_iload hC dL_law_137 rfl ?_
    refine lx_bipush (v := 6) hC dL_law_139 (by decide) ?_
    refine lx_icmp_ne (tgt := 154) hC dL_law_141 (by decide) (fun _ => ?_) (fun z9 => absurd z9 (by decide))
    refine lx_iload hC dL_law_154 rfl ?_
    refine lx_bipush (v := 8) hC dL_law_156 (by decide) ?_
    refine lx_idiv hC dL_law_158 (by decide) ?_
    rw [show ((nI Xn) / 8 : Int32) = nI (Xn / 8) from pk_div (a := Xn) (d := 8) (by omega) (by decide) (by decide)]
    refine lx_bipush (v := 64) hC dL_law_159 (by decide) ?_
    refine lx_irem hC dL_law_161 (by decide) ?_
    rw [show ((nI (Xn / 8)) - (nI (Xn / 8)) / 64 * 64 : Int32) = nI ((Xn / 8) % 64) from pk_rem (a := (Xn / 8)) (d := 64) (by omega) (by decide) (by decide)]
    refine lx_istore (L2 := [none, some (.ref 0), some (.int (nI k)), some (.int (nI p)), some (.int (nI k)), some (.int (nI Xn)), some (.int 2), some (.int (nI ((Xn / 8) % 64))), none, none, none, none]) hC dL_law_162 (by decide) (by decide) rfl ?_
    refine lx_iload hC dL_law_164 rfl ?_
    refine lx_iconst (v := 1) hC dL_law_166 (by decide) ?_
    refine lx_icmp_ne (tgt := 175) hC dL_law_167 (by decide) (fun _ => ?_) (fun z9 => absurd z9 (by decide))
    refine lx_iload hC dL_law_175 rfl ?_
    refine lx_iconst (v := 2) hC dL_law_177 (by decide) ?_
    refine lx_icmp_ne (tgt := 192) hC dL_law_178 (by decide) (fun z9 => absurd z9 (by decide)) (fun _ => ?_)
    refine lx_iload hC dL_law_181 rfl ?_
    refine lx_bipush (v := 64) hC dL_law_183 (by decide) ?_
    refine lx_idiv hC dL_law_185 (by decide) ?_
    rw [show ((nI Xn) / 64 : Int32) = nI (Xn / 64) from pk_div (a := Xn) (d := 64) (by omega) (by decide) (by decide)]
    refine lx_bipush (v := 64) hC dL_law_186 (by decide) ?_
    refine lx_irem hC dL_law_188 (by decide) ?_
    rw [show ((nI (Xn / 64)) - (nI (Xn / 64)) / 64 * 64 : Int32) = nI ((Xn / 64) % 64) from pk_rem (a := (Xn / 64)) (d := 64) (by omega) (by decide) (by decide)]
    refine lx_goto (tgt := 212) hC dL_law_189 (by decide) ?_
    refine lx_istore (L2 := [none, some (.ref 0), some (.int (nI k)), some (.int (nI p)), some (.int (nI k)), some (.int (nI Xn)), some (.int 2), some (.int (nI ((Xn / 8) % 64))), some (.int (nI ((Xn / 64) % 64))), none, none, none]) hC dL_law_212 (by decide) (by decide) rfl ?_
    exact kk 2 (nI ((Xn / 8) % 64)) (nI ((Xn / 64) % 64)) (by decide) (tel_2 (by omega) (by omega)) (fun z => absurd z (by decide))
  · rw [eK]
    show YW sb X c s 131 [none, some (.ref 0), some (.int (nI k)), some (.int (nI p)), some (.int (nI k)), some (.int (nI Xn)), some (.int 3), none, none, none, none, none] [] T I J R
    refine lx_iload hC dL_law_131 rfl ?_
    refine lx_iconst (v := 5) hC dL_law_133 (by decide) ?_
    refine lx_icmp_eq (tgt := 144) hC dL_law_134 (by decide) (fun z9 => absurd z9 (by decide)) (fun _ => ?_)
    refine lx_iload hC dL_law_137 rfl ?_
    refine lx_bipush (v := 6) hC dL_law_139 (by decide) ?_
    refine lx_icmp_ne (tgt := 154) hC dL_law_141 (by decide) (fun _ => ?_) (fun z9 => absurd z9 (by decide))
    refine lx_iload hC dL_law_154 rfl ?_
    refine lx_bipush (v := 8) hC dL_law_156 (by decide) ?_
    refine lx_idiv hC dL_law_158 (by decide) ?_
    rw [show ((nI Xn) / 8 : Int32) = nI (Xn / 8) from pk_div (a := Xn) (d := 8) (by omega) (by decide) (by decide)]
    refine lx_bipush (v := 64) hC dL_law_159 (by decide) ?_
    refine lx_irem hC dL_law_161 (by decide) ?_
    rw [show ((nI (Xn / 8)) - (nI (Xn / 8)) / 64 * 64 : Int32) = nI ((Xn / 8) % 64) from pk_rem (a := (Xn / 8)) (d := 64) (by omega) (by decide) (by decide)]
    refine lx_istore (L2 := [none, some (.ref 0), some (.int (nI k)), some (.int (nI p)), some (.int (nI k)), some (.int (nI Xn)), some (.int 3), some (.int (nI ((Xn / 8) % 64))), none, none, none, none]) hC dL_law_162 (by decide) (by decide) rfl ?_
    refine lx_iload hC dL_law_164 rfl ?_
    refine lx_iconst (v := 1) hC dL_law_166 (by decide) ?_
    refine lx_icmp_ne (tgt := 175) hC dL_law_167 (by decide) (fun _ => ?_) (fun z9 => absurd z9 (by decide))
    refine lx_iload hC dL_law_175 rfl ?_
    refine lx_iconst (v := 2) hC dL_law_177 (by decide) ?_
    refine lx_icmp_ne (tgt := 192) hC dL_law_178 (by decide) (fun _ => ?_) (fun z9 => absurd z9 (by decide))
    refine lx_iload hC dL_law_192 rfl ?_
    refine lx_iconst (v := 5) hC dL_law_194 (by decide) ?_
    refine lx_icmp_ne (tgt := 211) hC dL_law_195 (by decide) (fun _ => ?_) (fun z9 => absurd z9 (by decide))
    refine lx_iconst (v := 0) hC dL_law_211 (by decide) ?_
    refine lx_istore (L2 := [none, some (.ref 0), some (.int (nI k)), some (.int (nI p)), some (.int (nI k)), some (.int (nI Xn)), some (.int 3), some (.int (nI ((Xn / 8) % 64))), some (.int 0), none, none, none]) hC dL_law_212 (by decide) (by decide) rfl ?_
    exact kk 3 (nI ((Xn / 8) % 64)) 0 (by decide) (tel_v (by decide) (by omega)) (fun z => absurd z (by decide))
  · rw [eK]
    show YW sb X c s 131 [none, some (.ref 0), some (.int (nI k)), some (.int (nI p)), some (.int (nI k)), some (.int (nI Xn)), some (.int 4), none, none, none, none, none] [] T I J R
    refine lx_iload hC dL_law_131 rfl ?_
    refine lx_iconst (v := 5) hC dL_law_133 (by decide) ?_
    refine lx_icmp_eq (tgt := 144) hC dL_law_134 (by decide) (fun z9 => absurd z9 (by decide)) (fun _ => ?_)
    refine lx_iload hC dL_law_137 rfl ?_
    refine lx_bipush (v := 6) hC dL_law_139 (by decide) ?_
    refine lx_icmp_ne (tgt := 154) hC dL_law_141 (by decide) (fun _ => ?_) (fun z9 => absurd z9 (by decide))
    refine lx_iload hC dL_law_154 rfl ?_
    refine lx_bipush (v := 8) hC dL_law_156 (by decide) ?_
    refine lx_idiv hC dL_law_158 (by decide) ?_
    rw [show ((nI Xn) / 8 : Int32) = nI (Xn / 8) from pk_div (a := Xn) (d := 8) (by omega) (by decide) (by decide)]
    refine lx_bipush (v := 64) hC dL_law_159 (by decide) ?_
    refine lx_irem hC dL_law_161 (by decide) ?_
    rw [show ((nI (Xn / 8)) - (nI (Xn / 8)) / 64 * 64 : Int32) = nI ((Xn / 8) % 64) from pk_rem (a := (Xn / 8)) (d := 64) (by omega) (by decide) (by decide)]
    refine lx_istore (L2 := [none, some (.ref 0), some (.int (nI k)), some (.int (nI p)), some (.int (nI k)), some (.int (nI Xn)), some (.int 4), some (.int (nI ((Xn / 8) % 64))), none, none, none, none]) hC dL_law_162 (by decide) (by decide) rfl ?_
    refine lx_iload hC dL_law_164 rfl ?_
    refine lx_iconst (v := 1) hC dL_law_166 (by decide) ?_
    refine lx_icmp_ne (tgt := 175) hC dL_law_167 (by decide) (fun _ => ?_) (fun z9 => absurd z9 (by decide))
    refine lx_iload hC dL_law_175 rfl ?_
    refine lx_iconst (v := 2) hC dL_law_177 (by decide) ?_
    refine lx_icmp_ne (tgt := 192) hC dL_law_178 (by decide) (fun _ => ?_) (fun z9 => absurd z9 (by decide))
    refine lx_iload hC dL_law_192 rfl ?_
    refine lx_iconst (v := 5) hC dL_law_194 (by decide) ?_
    refine lx_icmp_ne (tgt := 211) hC dL_law_195 (by decide) (fun _ => ?_) (fun z9 => absurd z9 (by decide))
    refine lx_iconst (v := 0) hC dL_law_211 (by decide) ?_
    refine lx_istore (L2 := [none, some (.ref 0), some (.int (nI k)), some (.int (nI p)), some (.int (nI k)), some (.int (nI Xn)), some (.int 4), some (.int (nI ((Xn / 8) % 64))), some (.int 0), none, none, none]) hC dL_law_212 (by decide) (by decide) rfl ?_
    exact kk 4 (nI ((Xn / 8) % 64)) 0 (by decide) (tel_v (by decide) (by omega)) (fun z => absurd z (by decide))
  · rw [eK]
    show YW sb X c s 131 [none, some (.ref 0), some (.int (nI k)), some (.int (nI p)), some (.int (nI k)), some (.int (nI Xn)), some (.int 5), none, none, none, none, none] [] T I J R
    refine lx_iload hC dL_law_131 rfl ?_
    refine lx_iconst (v := 5) hC dL_law_133 (by decide) ?_
    refine lx_icmp_eq (tgt := 144) hC dL_law_134 (by decide) (fun _ => ?_) (fun z9 => absurd z9 (by decide))
    refine lx_iload hC dL_law_144 rfl ?_
    refine lx_bipush (v := 8) hC dL_law_146 (by decide) ?_
    refine lx_idiv hC dL_law_148 (by decide) ?_
    rw [show ((nI Xn) / 8 : Int32) = nI (Xn / 8) from pk_div (a := Xn) (d := 8) (by omega) (by decide) (by decide)]
    refine lx_iconst (v := 4) hC dL_law_149 (by decide) ?_
    refine lx_irem hC dL_law_150 (by decide) ?_
    rw [show ((nI (Xn / 8)) - (nI (Xn / 8)) / 4 * 4 : Int32) = nI ((Xn / 8) % 4) from pk_rem (a := (Xn / 8)) (d := 4) (by omega) (by decide) (by decide)]
    refine lx_goto (tgt := 162) hC dL_law_151 (by decide) ?_
    refine lx_istore (L2 := [none, some (.ref 0), some (.int (nI k)), some (.int (nI p)), some (.int (nI k)), some (.int (nI Xn)), some (.int 5), some (.int (nI ((Xn / 8) % 4))), none, none, none, none]) hC dL_law_162 (by decide) (by decide) rfl ?_
    refine lx_iload hC dL_law_164 rfl ?_
    refine lx_iconst (v := 1) hC dL_law_166 (by decide) ?_
    refine lx_icmp_ne (tgt := 175) hC dL_law_167 (by decide) (fun _ => ?_) (fun z9 => absurd z9 (by decide))
    refine lx_iload hC dL_law_175 rfl ?_
    refine lx_iconst (v := 2) hC dL_law_177 (by decide) ?_
    refine lx_icmp_ne (tgt := 192) hC dL_law_178 (by decide) (fun _ => ?_) (fun z9 => absurd z9 (by decide))
    refine lx_iload hC dL_law_192 rfl ?_
    refine lx_iconst (v := 5) hC dL_law_194 (by decide) ?_
    refine lx_icmp_ne (tgt := 211) hC dL_law_195 (by decide) (fun z9 => absurd z9 (by decide)) (fun _ => ?_)
    refine lx_iload hC dL_law_198 rfl ?_
    refine lx_bipush (v := 64) hC dL_law_200 (by decide) ?_
    refine lx_idiv hC dL_law_202 (by decide) ?_
    rw [show ((nI Xn) / 64 : Int32) = nI (Xn / 64) from pk_div (a := Xn) (d := 64) (by omega) (by decide) (by decide)]
    refine lx_bipush (v := 9) hC dL_law_203 (by decide) ?_
    refine lx_irem hC dL_law_205 (by decide) ?_
    rw [show ((nI (Xn / 64)) - (nI (Xn / 64)) / 9 * 9 : Int32) = nI ((Xn / 64) % 9) from pk_rem (a := (Xn / 64)) (d := 9) (by omega) (by decide) (by decide)]
    refine lx_iconst (v := 4) hC dL_law_206 (by decide) ?_
    refine lx_isub hC dL_law_207 ?_
    refine lx_goto (tgt := 212) hC dL_law_208 (by decide) ?_
    refine lx_istore (L2 := [none, some (.ref 0), some (.int (nI k)), some (.int (nI p)), some (.int (nI k)), some (.int (nI Xn)), some (.int 5), some (.int (nI ((Xn / 8) % 4))), some (.int ((nI ((Xn / 64) % 9)) - 4)), none, none, none]) hC dL_law_212 (by decide) (by decide) rfl ?_
    exact kk 5 (nI ((Xn / 8) % 4)) ((nI ((Xn / 64) % 9)) - 4) (by decide) (tel_5 (by omega) (by omega)) (fun _ => by rw [nI_clamp (by omega)]; omega)
  · rw [eK]
    show YW sb X c s 131 [none, some (.ref 0), some (.int (nI k)), some (.int (nI p)), some (.int (nI k)), some (.int (nI Xn)), some (.int 6), none, none, none, none, none] [] T I J R
    refine lx_iload hC dL_law_131 rfl ?_
    refine lx_iconst (v := 5) hC dL_law_133 (by decide) ?_
    refine lx_icmp_eq (tgt := 144) hC dL_law_134 (by decide) (fun z9 => absurd z9 (by decide)) (fun _ => ?_)
    refine lx_iload hC dL_law_137 rfl ?_
    refine lx_bipush (v := 6) hC dL_law_139 (by decide) ?_
    refine lx_icmp_ne (tgt := 154) hC dL_law_141 (by decide) (fun z9 => absurd z9 (by decide)) (fun _ => ?_)
    refine lx_iload hC dL_law_144 rfl ?_
    refine lx_bipush (v := 8) hC dL_law_146 (by decide) ?_
    refine lx_idiv hC dL_law_148 (by decide) ?_
    rw [show ((nI Xn) / 8 : Int32) = nI (Xn / 8) from pk_div (a := Xn) (d := 8) (by omega) (by decide) (by decide)]
    refine lx_iconst (v := 4) hC dL_law_149 (by decide) ?_
    refine lx_irem hC dL_law_150 (by decide) ?_
    rw [show ((nI (Xn / 8)) - (nI (Xn / 8)) / 4 * 4 : Int32) = nI ((Xn / 8) % 4) from pk_rem (a := (Xn / 8)) (d := 4) (by omega) (by decide) (by decide)]
    refine lx_goto (tgt := 162) hC dL_law_151 (by decide) ?_
    refine lx_istore (L2 := [none, some (.ref 0), some (.int (nI k)), some (.int (nI p)), some (.int (nI k)), some (.int (nI Xn)), some (.int 6), some (.int (nI ((Xn / 8) % 4))), none, none, none, none]) hC dL_law_162 (by decide) (by decide) rfl ?_
    refine lx_iload hC dL_law_164 rfl ?_
    refine lx_iconst (v := 1) hC dL_law_166 (by decide) ?_
    refine lx_icmp_ne (tgt := 175) hC dL_law_167 (by decide) (fun _ => ?_) (fun z9 => absurd z9 (by decide))
    refine lx_iload hC dL_law_175 rfl ?_
    refine lx_iconst (v := 2) hC dL_law_177 (by decide) ?_
    refine lx_icmp_ne (tgt := 192) hC dL_law_178 (by decide) (fun _ => ?_) (fun z9 => absurd z9 (by decide))
    refine lx_iload hC dL_law_192 rfl ?_
    refine lx_iconst (v := 5) hC dL_law_194 (by decide) ?_
    refine lx_icmp_ne (tgt := 211) hC dL_law_195 (by decide) (fun _ => ?_) (fun z9 => absurd z9 (by decide))
    refine lx_iconst (v := 0) hC dL_law_211 (by decide) ?_
    refine lx_istore (L2 := [none, some (.ref 0), some (.int (nI k)), some (.int (nI p)), some (.int (nI k)), some (.int (nI Xn)), some (.int 6), some (.int (nI ((Xn / 8) % 4))), some (.int 0), none, none, none]) hC dL_law_212 (by decide) (by decide) rfl ?_
    exact kk 6 (nI ((Xn / 8) % 4)) 0 (by decide) (tel_6 (by omega)) (fun _ => by rw [nI_clamp (by omega)]; omega)
  · rw [eK]
    show YW sb X c s 131 [none, some (.ref 0), some (.int (nI k)), some (.int (nI p)), some (.int (nI k)), some (.int (nI Xn)), some (.int 7), none, none, none, none, none] [] T I J R
    refine lx_iload hC dL_law_131 rfl ?_
    refine lx_iconst (v := 5) hC dL_law_133 (by decide) ?_
    refine lx_icmp_eq (tgt := 144) hC dL_law_134 (by decide) (fun z9 => absurd z9 (by decide)) (fun _ => ?_)
    refine lx_iload hC dL_law_137 rfl ?_
    refine lx_bipush (v := 6) hC dL_law_139 (by decide) ?_
    refine lx_icmp_ne (tgt := 154) hC dL_law_141 (by decide) (fun _ => ?_) (fun z9 => absurd z9 (by decide))
    refine lx_iload hC dL_law_154 rfl ?_
    refine lx_bipush (v := 8) hC dL_law_156 (by decide) ?_
    refine lx_idiv hC dL_law_158 (by decide) ?_
    rw [show ((nI Xn) / 8 : Int32) = nI (Xn / 8) from pk_div (a := Xn) (d := 8) (by omega) (by decide) (by decide)]
    refine lx_bipush (v := 64) hC dL_law_159 (by decide) ?_
    refine lx_irem hC dL_law_161 (by decide) ?_
    rw [show ((nI (Xn / 8)) - (nI (Xn / 8)) / 64 * 64 : Int32) = nI ((Xn / 8) % 64) from pk_rem (a := (Xn / 8)) (d := 64) (by omega) (by decide) (by decide)]
    refine lx_istore (L2 := [none, some (.ref 0), some (.int (nI k)), some (.int (nI p)), some (.int (nI k)), some (.int (nI Xn)), some (.int 7), some (.int (nI ((Xn / 8) % 64))), none, none, none, none]) hC dL_law_162 (by decide) (by decide) rfl ?_
    refine lx_iload hC dL_law_164 rfl ?_
    refine lx_iconst (v := 1) hC dL_law_166 (by decide) ?_
    refine lx_icmp_ne (tgt := 175) hC dL_law_167 (by decide) (fun _ => ?_) (fun z9 => absurd z9 (by decide))
    refine lx_iload hC dL_law_175 rfl ?_
    refine lx_iconst (v := 2) hC dL_law_177 (by decide) ?_
    refine lx_icmp_ne (tgt := 192) hC dL_law_178 (by decide) (fun _ => ?_) (fun z9 => absurd z9 (by decide))
    refine lx_iload hC dL_law_192 rfl ?_
    refine lx_iconst (v := 5) hC dL_law_194 (by decide) ?_
    refine lx_icmp_ne (tgt := 211) hC dL_law_195 (by decide) (fun _ => ?_) (fun z9 => absurd z9 (by decide))
    refine lx_iconst (v := 0) hC dL_law_211 (by decide) ?_
    refine lx_istore (L2 := [none, some (.ref 0), some (.int (nI k)), some (.int (nI p)), some (.int (nI k)), some (.int (nI Xn)), some (.int 7), some (.int (nI ((Xn / 8) % 64))), some (.int 0), none, none, none]) hC dL_law_212 (by decide) (by decide) rfl ?_
    exact kk 7 (nI ((Xn / 8) % 64)) 0 (by decide) (tel_v (by decide) (by omega)) (fun z => absurd z (by decide))
set_option maxRecDepth 100000 in
theorem lw_tell {sb N : Nat} {xs : Nat → Int32} {X : aX} (hC : YC yL_law cL_law 12 15 634 622020 7235710 sb N xs X) {c s : Nat} (hc : c + 1300 ≤ 622020) (hs : s + 90000 ≤ 7235710) {k p Xn K : Nat} {a b : Int32} {m : aI} (hk : k < 26) (hX9 : Xn < 16777216) (hI : LIv m k p) (hK : K ≤ 7) (hTel : Tel K a b) (ha : K = 5 ∨ K = 6 → a.toNatClampNeg ≤ 3) {T : List aT} {I : aI} {J : aJ} {R : aR} (h0 : GX T I J R m) (kk : ∀ {T I J R m1 P S9 M w}, GX T I J R m1 → TF m m1 k → SvM m1 P S9 M → w = cfA M P (k + 1) → YW sb X (c + 6) (s + 400) 254 [none, some (.ref 0), some (.int (nI (k + 1))), some (.int (nI p)), some (.int (nI k)), some (.int (nI Xn)), some (.int (nI K)), some (.int a), some (.int b), some (.int w), some (.int 0), none] [] T I J R) : YW sb X c s 214 [none, some (.ref 0), some (.int (nI k)), some (.int (nI p)), some (.int (nI k)), some (.int (nI Xn)), some (.int (nI K)), some (.int a), some (.int b), none, none, none] [] T I J R := by
  refine lx_aload_n hC dL_law_214 rfl ?_
  refine lx_iconst (v := 0) hC dL_law_215 (by decide) ?_
  refine lx_iload hC dL_law_216 rfl ?_
  refine lx_bipush (v := 6) hC dL_law_218 (by decide) ?_
  refine lx_irem hC dL_law_220 (by decide) ?_
  rw [show ((nI Xn) - (nI Xn) / 6 * 6 : Int32) = nI (Xn % 6) from pk_rem (a := Xn) (d := 6) (by omega) (by decide) (by decide)]
  refine lx_iload hC dL_law_221 rfl ?_
  refine lx_iload hC dL_law_223 rfl ?_
  refine lx_iconst (v := 3) hC dL_law_225 (by decide) ?_
  refine lx_idiv hC dL_law_226 (by decide) ?_
  rw [show ((nI Xn) / 3 : Int32) = nI (Xn / 3) from pk_div (a := Xn) (d := 3) (by omega) (by decide) (by decide)]
  refine lx_iconst (v := 4) hC dL_law_227 (by decide) ?_
  refine lx_irem hC dL_law_228 (by decide) ?_
  rw [show ((nI (Xn / 3)) - (nI (Xn / 3)) / 4 * 4 : Int32) = nI ((Xn / 3) % 4) from pk_rem (a := (Xn / 3)) (d := 4) (by omega) (by decide) (by decide)]
  refine lx_iload hC dL_law_229 rfl ?_
  refine lx_iload hC dL_law_231 rfl ?_
  have b9 := h0.bds
  have hd13 := h0.d13
  obtain ⟨i1, i2, i3, i4, i5, i6, i7, i8, i9⟩ := hI
  have q0 := put_4 (m := m) (k := k) (x := nI (Xn % 6)) (y := -1) (its := nI K) (f := nI (Xn / 3 % 4)) (a := a) (b := b)
  have q1 := put_ag (m := m) (k := k) (x := nI (Xn % 6)) (y := -1) (its := nI K) (f := nI (Xn / 3 % 4)) (a := a) (b := b)
  have q2 := put_ds (m := m) (k := k) (F := Xn / 3 % 4) (K := K) (x := nI (Xn % 6)) (a := a) (b := b) (X := Xn % 6) i2 (by omega) hK ha rfl (by omega)
  have hT : TF m (mPut m k (nI (Xn % 6)) (-1) (nI K) (nI (Xn / 3 % 4)) a b) k := ⟨by unfold iN; rw [q0.1]; exact nI_clamp (by omega), q2, by rw [q1.2.1]; exact h0.z52 k (by omega) (by omega), by rw [q1.2.2]; exact fun z => absurd (congrArg Int32.toInt z) (by rw [nI, Int32.toInt_ofNat_of_lt (by omega)]; exact fun z => by rw [show ((-1 : Int32).toInt) = -1 from rfl] at z; omega), q1.1, q0.2 14 (by decide) (by decide), q0.2 20 (by decide) (by decide), q0.2 36 (by decide) (by decide), q0.2 13 (by decide) (by decide)⟩
  have et : MX11_tell 3 200 [.ref 0, .int (nI (Xn % 6)), .int (nI K), .int (nI (Xn / 3 % 4)), .int a, .int b] T I J R (EX (pt (nI k) (mPut m k (nI (Xn % 6)) (-1) (nI K) (nI (Xn / 3 % 4)) a b))) := e_tell h0 ⟨nI_rng (b := 5) (by omega) (by decide), by rw [i1]; exact hTel _ _ (by omega) (by omega)⟩ (by rw [i1]) (by rw [i1]) (by show (mPut m k _ _ _ _ _ _ 44 13).toNatClampNeg ≤ 30000; rw [q0.2 13 (by decide) (by decide)]; exact h0.dy)
  generalize mPut m k (nI (Xn % 6)) (-1) (nI K) (nI (Xn / 3 % 4)) a b = m1 at hT et
  refine kx_157 hC rfl (m_L_act_0 h0 et) dL_law_233 rfl a_le a_le a_le (by omega) (by omega) rfl lek_x (lek_p (fun T I J R h0 => ?_))
  show YW sb X (c + 3) (s + 200) 236 [none, some (.ref 0), some (.int (nI k)), some (.int (nI p)), some (.int (nI k)), some (.int (nI Xn)), some (.int (nI K)), some (.int a), some (.int b), none, none, none] [.int (nI k)] T I J R
  refine lx_iload_n hC dL_law_236 rfl ?_
  refine lx_icmp_eq (tgt := 242) hC dL_law_237 (by decide) (fun _ => ?_) (fun z9 => absurd rfl z9)
  refine lx_iinc (v := nI (k + 1)) (L2 := [none, some (.ref 0), some (.int (nI (k + 1))), some (.int (nI p)), some (.int (nI k)), some (.int (nI Xn)), some (.int (nI K)), some (.int a), some (.int b), none, none, none]) hC dL_law_242 rfl (nI_inc _) (by decide) (by decide) rfl ?_
  refine lx_aload_n hC dL_law_245 rfl ?_
  refine kx_171 hC rfl (c_conflict h0) dL_law_246 (GX.t0 h0) rfl a_le a_le a_le (by omega) (by omega) rfl lek_x (lek_k (fun w m2 T I J R hF h0 => ?_))
  obtain ⟨e2, P, S9, M, hSv, hw⟩ := hF
  rw [e2] at h0
  rw [hT.1] at hw
  show YW sb X (c + 6) (s + 400) 249 [none, some (.ref 0), some (.int (nI (k + 1))), some (.int (nI p)), some (.int (nI k)), some (.int (nI Xn)), some (.int (nI K)), some (.int a), some (.int b), none, none, none] [.int w] T I J R
  refine lx_istore (L2 := [none, some (.ref 0), some (.int (nI (k + 1))), some (.int (nI p)), some (.int (nI k)), some (.int (nI Xn)), some (.int (nI K)), some (.int a), some (.int b), some (.int w), none, none]) hC dL_law_249 (by decide) (by decide) rfl ?_
  refine lx_iconst (v := 0) hC dL_law_251 (by decide) ?_
  refine lx_istore (L2 := [none, some (.ref 0), some (.int (nI (k + 1))), some (.int (nI p)), some (.int (nI k)), some (.int (nI Xn)), some (.int (nI K)), some (.int a), some (.int b), some (.int w), some (.int 0), none]) hC dL_law_252 (by decide) (by decide) rfl ?_
  exact kk h0 hT hSv hw
set_option maxRecDepth 100000 in
theorem lw_f0 {sb N : Nat} {xs : Nat → Int32} {X : aX} (hC : YC yL_law cL_law 12 15 634 622020 7235710 sb N xs X) {c s : Nat} (hc : c + 1300 ≤ 622020) (hs : s + 90000 ≤ 7235710) {t p k Xn K n : Nat} {a b : Int32} {m M : aI} {P S9 : Nat → Int64} (hSv : SvM m P S9 M) (hDs : DS m n) (hn30 : n ≤ 30) (hD : DSol m n P S9 M) (hc0 : M 44 57 = 0) (kk : ∀ {T I J R}, GX T I J R m → YW sb X (c + 150) (s + 10000) 348 [none, some (.ref 0), some (.int (nI t)), some (.int (nI p)), some (.int (nI k)), some (.int (nI Xn)), some (.int (nI K)), some (.int a), some (.int b), some (.int 0), some (.int (nI 10)), none] [] T I J R) : ∀ r f, f + r = 10 → ∀ {T I J R}, GX T I J R m → YW sb X (c + 15 * f) (s + 1000 * f) 254 [none, some (.ref 0), some (.int (nI t)), some (.int (nI p)), some (.int (nI k)), some (.int (nI Xn)), some (.int (nI K)), some (.int a), some (.int b), some (.int 0), some (.int (nI f)), none] [] T I J R := by
  intro r
  induction r with
  | zero =>
    intro f hf T I J R h0
    have e : f = 10 := by omega
    subst e
    refine lx_iload hC dL_law_254 rfl ?_
    refine lx_bipush (v := 10) hC dL_law_256 (by decide) ?_
    refine lx_icmp_ge (tgt := 348) hC dL_law_258 (by decide) (fun _ => ?_) (fun z9 => absurd (by decide) z9)
    exact kk h0
  | succ r ih =>
    intro f hf T I J R h0
    have hf9 : 0 ≤ nI f ∧ nI f ≤ 9 := nI_rng (b := 9) (by omega) (by decide)
    have ef : (nI f).toNatClampNeg = f := nI_clamp (by omega)
    have hset : sSum (P (nI f).toNatClampNeg) = sSum (P f) := by rw [ef]
    have hval : sVl (M 44 57) S9 (nI f).toNatClampNeg = sVl (M 44 57) S9 f := by rw [ef]
    obtain ⟨x1, hx1⟩ : ∃ x1, sSum (P f) = x1 := ⟨_, rfl⟩
    obtain ⟨v1, hv1⟩ : ∃ v1, sVl (M 44 57) S9 f = v1 := ⟨_, rfl⟩
    rw [hx1] at hset
    rw [hv1] at hval
    have nx : x1 ≠ -71 ∧ x1 ≠ -72 ∧ x1 ≠ -73 := by rw [← hx1]; exact sSum_nx _
    have nv : v1 ≠ -71 ∧ v1 ≠ -72 ∧ v1 ≠ -73 := by rw [← hv1]; exact sVl_nx _ _ _
    refine lx_iload hC dL_law_254 rfl ?_
    refine lx_bipush (v := 10) hC dL_law_256 (by decide) ?_
    refine lx_icmp_ge (tgt := 348) hC dL_law_258 (by decide) (fun z9 => absurd z9 (fun z => by have := (nle (a := 10) (b := f) (by decide) (by omega)).mp z; omega)) (fun _ => ?_)
    refine lx_aload_n hC dL_law_261 rfl ?_
    refine lx_iload hC dL_law_262 rfl ?_
    refine kx_43 hC rfl (AMet.ek (e_set h0 hSv hf9 hset) nx) dL_law_264 (GX.t0 h0) rfl a_le a_le a_le (by omega) (by omega) rfl lek_x (lek_p (fun T I J R h0 => ?_))
    show YW sb X (c + 15 * f + 3) (s + 1000 * f + 200) 267 [none, some (.ref 0), some (.int (nI t)), some (.int (nI p)), some (.int (nI k)), some (.int (nI Xn)), some (.int (nI K)), some (.int a), some (.int b), some (.int 0), some (.int (nI f)), none] [.int x1] T I J R
    refine lx_aload_n hC dL_law_267 rfl ?_
    refine lx_iload hC dL_law_268 rfl ?_
    refine kx_46 hC rfl (AMet.ek (e_setAnew h0 hSv hf9 hset) nx) dL_law_270 (GX.t0 h0) rfl a_le a_le a_le (by omega) (by omega) rfl lek_x (lek_p (fun T I J R h0 => ?_))
    show YW sb X (c + 15 * f + 6) (s + 1000 * f + 400) 273 [none, some (.ref 0), some (.int (nI t)), some (.int (nI p)), some (.int (nI k)), some (.int (nI Xn)), some (.int (nI K)), some (.int a), some (.int b), some (.int 0), some (.int (nI f)), none] [.int x1, .int x1] T I J R
    refine lx_icmp_ne (tgt := 340) hC dL_law_273 (by decide) (fun z9 => absurd rfl z9) (fun _ => ?_)
    refine lx_iload hC dL_law_276 rfl ?_
    refine lx_if_eq (tgt := 285) hC dL_law_278 (by decide) (fun _ => ?_) (fun z9 => absurd z9 (by decide))
    refine lx_iconst (v := 0) hC dL_law_285 (by decide) ?_
    refine lx_aload_n hC dL_law_286 rfl ?_
    refine lx_iload hC dL_law_287 rfl ?_
    refine kx_40 hC rfl (AMet.ek (e_value h0 hSv hf9 hval) nv) dL_law_289 (GX.t0 h0) rfl a_le a_le a_le (by omega) (by omega) rfl lek_x (lek_p (fun T I J R h0 => ?_))
    show YW sb X (c + 15 * f + 9) (s + 1000 * f + 600) 292 [none, some (.ref 0), some (.int (nI t)), some (.int (nI p)), some (.int (nI k)), some (.int (nI Xn)), some (.int (nI K)), some (.int a), some (.int b), some (.int 0), some (.int (nI f)), none] [.int v1, .int 0] T I J R
    refine lx_bipush (v := (-2)) hC dL_law_292 (by decide) ?_
    refine lx_icmp_ne (tgt := 301) hC dL_law_294 (by decide) (fun _ => ?_) (fun z9 => absurd z9 (fun z => absurd hc0 (sVl_iff.mp (hv1.trans z))))
    refine lx_iconst (v := 0) hC dL_law_301 (by decide) ?_
    refine lx_icmp_ne (tgt := 340) hC dL_law_302 (by decide) (fun z9 => absurd z9 (by decide)) (fun _ => ?_)
    refine lx_iload hC dL_law_305 rfl ?_
    refine lx_if_ne (tgt := 319) hC dL_law_307 (by decide) (fun z9 => absurd z9 (by decide)) (fun _ => ?_)
    refine lx_aload_n hC dL_law_310 rfl ?_
    refine lx_iload hC dL_law_311 rfl ?_
    refine kx_43 hC rfl (AMet.ek (e_set h0 hSv hf9 hset) nx) dL_law_313 (GX.t0 h0) rfl a_le a_le a_le (by omega) (by omega) rfl lek_x (lek_p (fun T I J R h0 => ?_))
    show YW sb X (c + 15 * f + 12) (s + 1000 * f + 800) 316 [none, some (.ref 0), some (.int (nI t)), some (.int (nI p)), some (.int (nI k)), some (.int (nI Xn)), some (.int (nI K)), some (.int a), some (.int b), some (.int 0), some (.int (nI f)), none] [.int x1] T I J R
    refine lx_if_eq (tgt := 340) hC dL_law_316 (by decide) (fun z9 => absurd z9 (fun z => absurd (hx1.trans z) (sSum_n0 (DSol.ne hD hc0 (by omega))))) (fun _ => ?_)
    refine lx_iload hC dL_law_319 rfl ?_
    refine lx_iconst (v := 3) hC dL_law_321 (by decide) ?_
    by_cases h3 : f ≤ 3
    · refine lx_icmp_le (tgt := 342) hC dL_law_322 (by decide) (fun _ => ?_) (fun z9 => absurd ((nle (a := f) (b := 3) (by omega) (by decide)).mpr h3) z9)
      refine lx_iinc (v := nI (f + 1)) (L2 := [none, some (.ref 0), some (.int (nI t)), some (.int (nI p)), some (.int (nI k)), some (.int (nI Xn)), some (.int (nI K)), some (.int a), some (.int b), some (.int 0), some (.int (nI (f + 1))), none]) hC dL_law_342 rfl (nI_inc _) (by decide) (by decide) rfl ?_
      refine lx_goto (tgt := 254) hC dL_law_345 (by decide) ?_
      exact lx_widen (by omega) (by omega) (ih (f + 1) (by omega) h0)
    · refine lx_icmp_le (tgt := 342) hC dL_law_322 (by decide) (fun z9 => absurd ((nle (a := f) (b := 3) (by omega) (by decide)).mp z9) h3) (fun _ => ?_)
      refine lx_iload hC dL_law_325 rfl ?_
      refine lx_if_ne (tgt := 342) hC dL_law_327 (by decide) (fun z9 => absurd z9 (by decide)) (fun _ => ?_)
      refine lx_aload_n hC dL_law_330 rfl ?_
      refine lx_iload hC dL_law_331 rfl ?_
      refine kx_40 hC rfl (AMet.ek (e_value h0 hSv hf9 hval) nv) dL_law_333 (GX.t0 h0) rfl a_le a_le a_le (by omega) (by omega) rfl lek_x (lek_p (fun T I J R h0 => ?_))
      show YW sb X (c + 15 * f + 15) (s + 1000 * f + 1000) 336 [none, some (.ref 0), some (.int (nI t)), some (.int (nI p)), some (.int (nI k)), some (.int (nI Xn)), some (.int (nI K)), some (.int a), some (.int b), some (.int 0), some (.int (nI f)), none] [.int v1] T I J R
      refine lx_iconst (v := (-1)) hC dL_law_336 (by decide) ?_
      refine lx_icmp_eq (tgt := 342) hC dL_law_337 (by decide) (fun _ => ?_) (fun z9 => absurd (hv1.symm.trans (DSol.val hDs hn30 hD hc0 (by omega) (by omega))) z9)
      refine lx_iinc (v := nI (f + 1)) (L2 := [none, some (.ref 0), some (.int (nI t)), some (.int (nI p)), some (.int (nI k)), some (.int (nI Xn)), some (.int (nI K)), some (.int a), some (.int b), some (.int 0), some (.int (nI (f + 1))), none]) hC dL_law_342 rfl (nI_inc _) (by decide) (by decide) rfl ?_
      refine lx_goto (tgt := 254) hC dL_law_345 (by decide) ?_
      exact lx_widen (by omega) (by omega) (ih (f + 1) (by omega) h0)
set_option maxRecDepth 100000 in
theorem lw_f1 {sb N : Nat} {xs : Nat → Int32} {X : aX} (hC : YC yL_law cL_law 12 15 634 622020 7235710 sb N xs X) {c s : Nat} (hc : c + 1300 ≤ 622020) (hs : s + 90000 ≤ 7235710) {t p k Xn K n : Nat} {a b : Int32} {m M : aI} {P S9 : Nat → Int64} (hSv : SvM m P S9 M) (hDs : DS m n) (hn30 : n ≤ 30) (hD : DSol m n P S9 M) {w : Int32} (hc0 : M 44 57 ≠ 0) (hw0 : ¬ w = 0) (kk : ∀ {T I J R}, GX T I J R m → YW sb X (c + 150) (s + 10000) 348 [none, some (.ref 0), some (.int (nI t)), some (.int (nI p)), some (.int (nI k)), some (.int (nI Xn)), some (.int (nI K)), some (.int a), some (.int b), some (.int w), some (.int (nI 10)), none] [] T I J R) : ∀ r f, f + r = 10 → ∀ {T I J R}, GX T I J R m → YW sb X (c + 15 * f) (s + 1000 * f) 254 [none, some (.ref 0), some (.int (nI t)), some (.int (nI p)), some (.int (nI k)), some (.int (nI Xn)), some (.int (nI K)), some (.int a), some (.int b), some (.int w), some (.int (nI f)), none] [] T I J R := by
  intro r
  induction r with
  | zero =>
    intro f hf T I J R h0
    have e : f = 10 := by omega
    subst e
    refine lx_iload hC dL_law_254 rfl ?_
    refine lx_bipush (v := 10) hC dL_law_256 (by decide) ?_
    refine lx_icmp_ge (tgt := 348) hC dL_law_258 (by decide) (fun _ => ?_) (fun z9 => absurd (by decide) z9)
    exact kk h0
  | succ r ih =>
    intro f hf T I J R h0
    have hf9 : 0 ≤ nI f ∧ nI f ≤ 9 := nI_rng (b := 9) (by omega) (by decide)
    have ef : (nI f).toNatClampNeg = f := nI_clamp (by omega)
    have hset : sSum (P (nI f).toNatClampNeg) = sSum (P f) := by rw [ef]
    have hval : sVl (M 44 57) S9 (nI f).toNatClampNeg = sVl (M 44 57) S9 f := by rw [ef]
    obtain ⟨x1, hx1⟩ : ∃ x1, sSum (P f) = x1 := ⟨_, rfl⟩
    obtain ⟨v1, hv1⟩ : ∃ v1, sVl (M 44 57) S9 f = v1 := ⟨_, rfl⟩
    rw [hx1] at hset
    rw [hv1] at hval
    have nx : x1 ≠ -71 ∧ x1 ≠ -72 ∧ x1 ≠ -73 := by rw [← hx1]; exact sSum_nx _
    have nv : v1 ≠ -71 ∧ v1 ≠ -72 ∧ v1 ≠ -73 := by rw [← hv1]; exact sVl_nx _ _ _
    refine lx_iload hC dL_law_254 rfl ?_
    refine lx_bipush (v := 10) hC dL_law_256 (by decide) ?_
    refine lx_icmp_ge (tgt := 348) hC dL_law_258 (by decide) (fun z9 => absurd z9 (fun z => by have := (nle (a := 10) (b := f) (by decide) (by omega)).mp z; omega)) (fun _ => ?_)
    refine lx_aload_n hC dL_law_261 rfl ?_
    refine lx_iload hC dL_law_262 rfl ?_
    refine kx_43 hC rfl (AMet.ek (e_set h0 hSv hf9 hset) nx) dL_law_264 (GX.t0 h0) rfl a_le a_le a_le (by omega) (by omega) rfl lek_x (lek_p (fun T I J R h0 => ?_))
    show YW sb X (c + 15 * f + 3) (s + 1000 * f + 200) 267 [none, some (.ref 0), some (.int (nI t)), some (.int (nI p)), some (.int (nI k)), some (.int (nI Xn)), some (.int (nI K)), some (.int a), some (.int b), some (.int w), some (.int (nI f)), none] [.int x1] T I J R
    refine lx_aload_n hC dL_law_267 rfl ?_
    refine lx_iload hC dL_law_268 rfl ?_
    refine kx_46 hC rfl (AMet.ek (e_setAnew h0 hSv hf9 hset) nx) dL_law_270 (GX.t0 h0) rfl a_le a_le a_le (by omega) (by omega) rfl lek_x (lek_p (fun T I J R h0 => ?_))
    show YW sb X (c + 15 * f + 6) (s + 1000 * f + 400) 273 [none, some (.ref 0), some (.int (nI t)), some (.int (nI p)), some (.int (nI k)), some (.int (nI Xn)), some (.int (nI K)), some (.int a), some (.int b), some (.int w), some (.int (nI f)), none] [.int x1, .int x1] T I J R
    refine lx_icmp_ne (tgt := 340) hC dL_law_273 (by decide) (fun z9 => absurd rfl z9) (fun _ => ?_)
    refine lx_iload hC dL_law_276 rfl ?_
    refine lx_if_eq (tgt := 285) hC dL_law_278 (by decide) (fun z9 => absurd z9 hw0) (fun _ => ?_)
    refine lx_iconst (v := 1) hC dL_law_281 (by decide) ?_
    refine lx_goto (tgt := 286) hC dL_law_282 (by decide) ?_
    refine lx_aload_n hC dL_law_286 rfl ?_
    refine lx_iload hC dL_law_287 rfl ?_
    refine kx_40 hC rfl (AMet.ek (e_value h0 hSv hf9 hval) nv) dL_law_289 (GX.t0 h0) rfl a_le a_le a_le (by omega) (by omega) rfl lek_x (lek_p (fun T I J R h0 => ?_))
    show YW sb X (c + 15 * f + 9) (s + 1000 * f + 600) 292 [none, some (.ref 0), some (.int (nI t)), some (.int (nI p)), some (.int (nI k)), some (.int (nI Xn)), some (.int (nI K)), some (.int a), some (.int b), some (.int w), some (.int (nI f)), none] [.int v1, .int 1] T I J R
    refine lx_bipush (v := (-2)) hC dL_law_292 (by decide) ?_
    refine lx_icmp_ne (tgt := 301) hC dL_law_294 (by decide) (fun z9 => absurd (hv1.symm.trans (sVl_iff.mpr hc0)) z9) (fun _ => ?_)
    refine lx_iconst (v := 1) hC dL_law_297 (by decide) ?_
    refine lx_goto (tgt := 302) hC dL_law_298 (by decide) ?_
    refine lx_icmp_ne (tgt := 340) hC dL_law_302 (by decide) (fun z9 => absurd z9 (by decide)) (fun _ => ?_)
    refine lx_iload hC dL_law_305 rfl ?_
    refine lx_if_ne (tgt := 319) hC dL_law_307 (by decide) (fun _ => ?_) (fun z9 => absurd z9 hw0)
    refine lx_iload hC dL_law_319 rfl ?_
    refine lx_iconst (v := 3) hC dL_law_321 (by decide) ?_
    by_cases h3 : f ≤ 3
    · refine lx_icmp_le (tgt := 342) hC dL_law_322 (by decide) (fun _ => ?_) (fun z9 => absurd ((nle (a := f) (b := 3) (by omega) (by decide)).mpr h3) z9)
      refine lx_iinc (v := nI (f + 1)) (L2 := [none, some (.ref 0), some (.int (nI t)), some (.int (nI p)), some (.int (nI k)), some (.int (nI Xn)), some (.int (nI K)), some (.int a), some (.int b), some (.int w), some (.int (nI (f + 1))), none]) hC dL_law_342 rfl (nI_inc _) (by decide) (by decide) rfl ?_
      refine lx_goto (tgt := 254) hC dL_law_345 (by decide) ?_
      exact lx_widen (by omega) (by omega) (ih (f + 1) (by omega) h0)
    · refine lx_icmp_le (tgt := 342) hC dL_law_322 (by decide) (fun z9 => absurd ((nle (a := f) (b := 3) (by omega) (by decide)).mp z9) h3) (fun _ => ?_)
      refine lx_iload hC dL_law_325 rfl ?_
      refine lx_if_ne (tgt := 342) hC dL_law_327 (by decide) (fun _ => ?_) (fun z9 => absurd z9 hw0)
      refine lx_iinc (v := nI (f + 1)) (L2 := [none, some (.ref 0), some (.int (nI t)), some (.int (nI p)), some (.int (nI k)), some (.int (nI Xn)), some (.int (nI K)), some (.int a), some (.int b), some (.int w), some (.int (nI (f + 1))), none]) hC dL_law_342 rfl (nI_inc _) (by decide) (by decide) rfl ?_
      refine lx_goto (tgt := 254) hC dL_law_345 (by decide) ?_
      exact lx_widen (by omega) (by omega) (ih (f + 1) (by omega) h0)
set_option maxRecDepth 100000 in
theorem lw_std {sb N : Nat} {xs : Nat → Int32} {X : aX} (hC : YC yL_law cL_law 12 15 634 622020 7235710 sb N xs X) {c s : Nat} (hc : c + 1300 ≤ 622020) (hs : s + 90000 ≤ 7235710) {k p Xn K : Nat} {a b w f9 : Int32} {m m1 M : aI} {P S9 : Nat → Int64} (hk : k < 26) (hX9 : Xn < 16777216) (hT : TF m m1 k) (hSv : SvM m1 P S9 M) (hD : DSol m1 (k + 1) P S9 M) {T : List aT} {I : aI} {J : aJ} {R : aR} (h0 : GX T I J R m1) (kk : ∀ {T I J R m2}, GX T I J R m2 → Kp m1 m2 → m2 44 36 = m1 44 36 → m2 44 13 = m1 44 13 → YW sb X (c + 9) (s + 600) 398 [none, some (.ref 0), some (.int (nI (k + 1))), some (.int (nI p)), some (.int (nI k)), some (.int (nI Xn)), some (.int (nI K)), some (.int a), some (.int b), some (.int w), some (.int f9), none] [] T I J R) : YW sb X c s 348 [none, some (.ref 0), some (.int (nI (k + 1))), some (.int (nI p)), some (.int (nI k)), some (.int (nI Xn)), some (.int (nI K)), some (.int a), some (.int b), some (.int w), some (.int f9), none] [] T I J R := by
  have ek : (nI k).toNatClampNeg = k := nI_clamp (by omega)
  have hst : 0 ≤ nI k ∧ nI k < nI (iN m1 44 0) := ⟨(nI_rng (b := 30) (by omega) (by decide)).1, by rw [hT.1]; exact (nlt (by omega) (by omega)).mpr (by omega)⟩
  obtain ⟨v1, hv1⟩ : ∃ v1, stV M P (nI k).toNatClampNeg = v1 := ⟨_, rfl⟩
  have hv : v1 = 10 ∨ v1 = 0 := by rw [← hv1, ek]; exact DSol.std hD (by omega) hT.2.2.1
  have nv : v1 ≠ -71 ∧ v1 ≠ -72 ∧ v1 ≠ -73 := by rcases hv with e | e <;> rw [e] <;> decide
  refine lx_aload_n hC dL_law_348 rfl ?_
  refine lx_iload_n hC dL_law_349 rfl ?_
  refine lx_iconst (v := 1) hC dL_law_350 (by decide) ?_
  refine lx_isub hC dL_law_351 ?_
  rw [show ((nI (k + 1)) - 1 : Int32) = nI ((k + 1) - 1) from pk_sub (a := (k + 1)) (b := 1) (by omega)]
  rw [show k + 1 - 1 = k by omega]
  show YW sb X c s 352 [none, some (.ref 0), some (.int (nI (k + 1))), some (.int (nI p)), some (.int (nI k)), some (.int (nI Xn)), some (.int (nI K)), some (.int a), some (.int b), some (.int w), some (.int f9), none] [.int (nI k), .ref 0] T I J R
  refine kx_37 hC rfl (AMet.ek (e_standing h0 hSv hst hv1) nv) dL_law_352 (GX.t0 h0) rfl a_le a_le a_le (by omega) (by omega) rfl lek_x (lek_p (fun T I J R h0 => ?_))
  show YW sb X (c + 3) (s + 200) 355 [none, some (.ref 0), some (.int (nI (k + 1))), some (.int (nI p)), some (.int (nI k)), some (.int (nI Xn)), some (.int (nI K)), some (.int a), some (.int b), some (.int w), some (.int f9), none] [.int v1] T I J R
  refine lx_if_lt (tgt := 396) hC dL_law_355 (by decide) (fun z9 => absurd z9 (by rcases hv with e | e <;> rw [e] <;> decide)) (fun _ => ?_)
  refine lx_aload_n hC dL_law_358 rfl ?_
  refine lx_iload_n hC dL_law_359 rfl ?_
  refine lx_iconst (v := 1) hC dL_law_360 (by decide) ?_
  refine lx_isub hC dL_law_361 ?_
  rw [show ((nI (k + 1)) - 1 : Int32) = nI ((k + 1) - 1) from pk_sub (a := (k + 1)) (b := 1) (by omega)]
  rw [show k + 1 - 1 = k by omega]
  show YW sb X (c + 3) (s + 200) 362 [none, some (.ref 0), some (.int (nI (k + 1))), some (.int (nI p)), some (.int (nI k)), some (.int (nI Xn)), some (.int (nI K)), some (.int a), some (.int b), some (.int w), some (.int f9), none] [.int (nI k), .ref 0] T I J R
  refine kx_37 hC rfl (AMet.ek (e_standing h0 hSv hst hv1) nv) dL_law_362 (GX.t0 h0) rfl a_le a_le a_le (by omega) (by omega) rfl lek_x (lek_p (fun T I J R h0 => ?_))
  show YW sb X (c + 6) (s + 400) 365 [none, some (.ref 0), some (.int (nI (k + 1))), some (.int (nI p)), some (.int (nI k)), some (.int (nI Xn)), some (.int (nI K)), some (.int a), some (.int b), some (.int w), some (.int f9), none] [.int v1] T I J R
  refine lx_bipush (v := 10) hC dL_law_365 (by decide) ?_
  refine lx_irem hC dL_law_367 (by decide) ?_
  refine lx_if_ne (tgt := 396) hC dL_law_368 (by decide) (fun z9 => absurd (by rcases hv with e | e <;> rw [e] <;> decide) z9) (fun _ => ?_)
  refine lx_aload_n hC dL_law_371 rfl ?_
  refine lx_bipush (v := 16) hC dL_law_372 (by decide) ?_
  refine lx_iload hC dL_law_374 rfl ?_
  refine lx_iconst (v := 2) hC dL_law_376 (by decide) ?_
  refine lx_irem hC dL_law_377 (by decide) ?_
  rw [show ((nI Xn) - (nI Xn) / 2 * 2 : Int32) = nI (Xn % 2) from pk_rem (a := Xn) (d := 2) (by omega) (by decide) (by decide)]
  refine lx_iconst (v := 0) hC dL_law_378 (by decide) ?_
  refine lx_iload hC dL_law_379 rfl ?_
  refine lx_iconst (v := 5) hC dL_law_381 (by decide) ?_
  refine lx_idiv hC dL_law_382 (by decide) ?_
  rw [show ((nI Xn) / 5 : Int32) = nI (Xn / 5) from pk_div (a := Xn) (d := 5) (by omega) (by decide) (by decide)]
  refine lx_bipush (v := 16) hC dL_law_383 (by decide) ?_
  refine lx_irem hC dL_law_385 (by decide) ?_
  rw [show ((nI (Xn / 5)) - (nI (Xn / 5)) / 16 * 16 : Int32) = nI ((Xn / 5) % 16) from pk_rem (a := (Xn / 5)) (d := 16) (by omega) (by decide) (by decide)]
  refine lx_iconst (v := 0) hC dL_law_386 (by decide) ?_
  refine lx_iconst (v := 0) hC dL_law_387 (by decide) ?_
  refine kx_157 hC rfl (m_L_act_16 h0 (c_key h0)) dL_law_388 rfl a_le a_le a_le (by omega) (by omega) rfl lek_x (lek_k (fun y m2 T I J R hF h0 => ?_))
  show YW sb X (c + 9) (s + 600) 391 [none, some (.ref 0), some (.int (nI (k + 1))), some (.int (nI p)), some (.int (nI k)), some (.int (nI Xn)), some (.int (nI K)), some (.int a), some (.int b), some (.int w), some (.int f9), none] [.int y] T I J R
  refine lx_bipush (v := (-73)) hC dL_law_391 (by decide) ?_
  refine lx_icmp_ge (tgt := 398) hC dL_law_393 (by decide) (fun _ => ?_) (fun z9 => absurd hF.1 z9)
  exact kk h0 ⟨fun o u v => hF.2 o (by omega) (by omega), by rw [hF.2 44 (by decide) (by decide)], by rw [hF.2 44 (by decide) (by decide)], by rw [hF.2 44 (by decide) (by decide)]⟩ (by rw [hF.2 44 (by decide) (by decide)]) (by rw [hF.2 44 (by decide) (by decide)])
set_option maxRecDepth 100000 in
theorem lw_plan {sb N : Nat} {xs : Nat → Int32} {X : aX} (hC : YC yL_law cL_law 12 15 634 622020 7235710 sb N xs X) {c s : Nat} (hc : c + 1300 ≤ 622020) (hs : s + 90000 ≤ 7235710) {k p Xn K : Nat} {a b w f9 : Int32} {m1 : aI} (hk : k < 26) (hX9 : Xn < 16777216) (hp : iN m1 44 36 = p) (hpk : p ≤ k) {T : List aT} {I : aI} {J : aJ} {R : aR} (h0 : GX T I J R m1) (kk : ∀ {T I J R m2 p2 f9 g9}, GX T I J R m2 → Kp m1 m2 → iN m2 44 36 = p2 → p2 ≤ p + 1 → m2 44 13 = m1 44 13 → YW sb X (c + 30) (s + 2000) 551 [none, some (.ref 0), some (.int (nI (k + 1))), some (.int (nI p2)), some (.int (nI k)), some (.int (nI Xn)), some (.int (nI K)), some (.int a), some (.int b), some (.int w), some (.int f9), some (.int g9)] [] T I J R) : YW sb X c s 398 [none, some (.ref 0), some (.int (nI (k + 1))), some (.int (nI p)), some (.int (nI k)), some (.int (nI Xn)), some (.int (nI K)), some (.int a), some (.int b), some (.int w), some (.int f9), none] [] T I J R := by
  have b9 := h0.bds
  have z77 := h0.z77 p (by omega) (by omega)
  have d36 := h0.d13
  refine lx_aload_n hC dL_law_398 rfl ?_
  refine kx_149 hC rfl (c_pending h0) dL_law_399 (GX.t0 h0) rfl a_le a_le a_le (by omega) (by omega) rfl lek_x (lek_k (fun pv m2 T I J R hF h0 => ?_))
  obtain ⟨e2, A, hA, hpv⟩ := hF
  rw [e2] at h0
  show YW sb X (c + 3) (s + 200) 402 [none, some (.ref 0), some (.int (nI (k + 1))), some (.int (nI p)), some (.int (nI k)), some (.int (nI Xn)), some (.int (nI K)), some (.int a), some (.int b), some (.int w), some (.int f9), none] [.int pv] T I J R
  refine lx_istore (L2 := [none, some (.ref 0), some (.int (nI (k + 1))), some (.int (nI p)), some (.int (nI k)), some (.int (nI Xn)), some (.int (nI K)), some (.int a), some (.int b), some (.int w), some (.int pv), none]) hC dL_law_402 (by decide) (by decide) rfl ?_
  refine lx_aload_n hC dL_law_404 rfl ?_
  refine lx_bipush (v := 21) hC dL_law_405 (by decide) ?_
  refine lx_iload hC dL_law_407 rfl ?_
  refine lx_iconst (v := 3) hC dL_law_409 (by decide) ?_
  refine lx_irem hC dL_law_410 (by decide) ?_
  rw [show ((nI Xn) - (nI Xn) / 3 * 3 : Int32) = nI (Xn % 3) from pk_rem (a := Xn) (d := 3) (by omega) (by decide) (by decide)]
  refine lx_iconst (v := 0) hC dL_law_411 (by decide) ?_
  refine lx_iconst (v := 0) hC dL_law_412 (by decide) ?_
  refine lx_iconst (v := 0) hC dL_law_413 (by decide) ?_
  refine lx_iconst (v := 0) hC dL_law_414 (by decide) ?_
  have hx3 : 0 ≤ nI (Xn % 3) ∧ nI (Xn % 3) ≤ 2 := nI_rng (b := 2) (by omega) (by decide)
  have hF0 := Fnd.of hA
  have hlen : ∀ l, A = some l → l.length ≤ 128 := fun l e => h0.len (by rw [← e]; exact hA)
  refine kx_157 hC rfl (m_L_act_21 h0 (c_plan h0 hA hx3 (by omega))) dL_law_415 rfl a_le a_le a_le (by omega) (by omega) rfl lek_x (lek_k (fun gt m2 T I J R hF h0 => ?_))
  show YW sb X (c + 6) (s + 400) 418 [none, some (.ref 0), some (.int (nI (k + 1))), some (.int (nI p)), some (.int (nI k)), some (.int (nI Xn)), some (.int (nI K)), some (.int a), some (.int b), some (.int w), some (.int pv), none] [.int gt] T I J R
  rcases hF with ⟨eA, e3, e4⟩ | ⟨l, eA, e3, e4⟩
  · rw [e4] at h0
    have hp1 : pv = -1 := by rw [hpv, eA]
    rw [hp1, e3]
    show YW sb X (c + 6) (s + 400) 418 [none, some (.ref 0), some (.int (nI (k + 1))), some (.int (nI p)), some (.int (nI k)), some (.int (nI Xn)), some (.int (nI K)), some (.int a), some (.int b), some (.int w), some (.int (-1)), none] [.int (-73)] T I J R
    refine lx_istore (L2 := [none, some (.ref 0), some (.int (nI (k + 1))), some (.int (nI p)), some (.int (nI k)), some (.int (nI Xn)), some (.int (nI K)), some (.int a), some (.int b), some (.int w), some (.int (-1)), some (.int (-73))]) hC dL_law_418 (by decide) (by decide) rfl ?_
    refine lx_iload hC dL_law_420 rfl ?_
    refine lx_iload hC dL_law_422 rfl ?_
    refine lx_if_ge (tgt := 432) hC dL_law_424 (by decide) (fun z9 => absurd z9 (by decide)) (fun _ => ?_)
    refine lx_bipush (v := (-73)) hC dL_law_427 (by decide) ?_
    refine lx_goto (tgt := 433) hC dL_law_429 (by decide) ?_
    refine lx_icmp_ne (tgt := 461) hC dL_law_433 (by decide) (fun z9 => absurd z9 (by decide)) (fun _ => ?_)
    refine lx_iload hC dL_law_436 rfl ?_
    refine lx_if_ge (tgt := 445) hC dL_law_438 (by decide) (fun z9 => absurd z9 (by decide)) (fun _ => ?_)
    refine lx_iconst (v := 1) hC dL_law_441 (by decide) ?_
    refine lx_goto (tgt := 446) hC dL_law_442 (by decide) ?_
    refine lx_aload_n hC dL_law_446 rfl ?_
    refine kx_185 hC rfl (c_differing h0) dL_law_447 (GX.t0 h0) rfl a_le a_le a_le (by omega) (by omega) rfl lek_x (lek_k (fun dv m2 T I J R hF h0 => ?_))
    obtain ⟨e5, hdv⟩ := hF
    rw [e5] at h0
    show YW sb X (c + 9) (s + 600) 450 [none, some (.ref 0), some (.int (nI (k + 1))), some (.int (nI p)), some (.int (nI k)), some (.int (nI Xn)), some (.int (nI K)), some (.int a), some (.int b), some (.int w), some (.int (-1)), some (.int (-73))] [.int dv, .int 1] T I J R
    refine lx_if_ge (tgt := 457) hC dL_law_450 (by decide) (fun z9 => absurd z9 (Int32.not_le.mpr ((hdv A hA).mpr eA))) (fun _ => ?_)
    refine lx_iconst (v := 1) hC dL_law_453 (by decide) ?_
    refine lx_goto (tgt := 458) hC dL_law_454 (by decide) ?_
    refine lx_icmp_eq (tgt := 463) hC dL_law_458 (by decide) (fun _ => ?_) (fun z9 => absurd z9 (by decide))
    refine lx_iload_n hC dL_law_463 rfl ?_
    refine lx_iload hC dL_law_464 rfl ?_
    refine lx_if_ge (tgt := 473) hC dL_law_466 (by decide) (fun z9 => absurd z9 (by decide)) (fun _ => ?_)
    refine lx_iconst (v := 0) hC dL_law_469 (by decide) ?_
    refine lx_goto (tgt := 474) hC dL_law_470 (by decide) ?_
    refine lx_iadd hC dL_law_474 ?_
    rw [show ((nI p) + 0 : Int32) = nI (p + 0) from nI_add p 0]
    refine lx_istore_n (L2 := [none, some (.ref 0), some (.int (nI (k + 1))), some (.int (nI (p + 0))), some (.int (nI k)), some (.int (nI Xn)), some (.int (nI K)), some (.int a), some (.int b), some (.int w), some (.int (-1)), some (.int (-73))]) hC dL_law_475 rfl (by decide) (by decide) rfl ?_
    refine lx_iload hC dL_law_476 rfl ?_
    refine lx_if_le (tgt := 507) hC dL_law_478 (by decide) (fun _ => ?_) (fun z9 => absurd z9 (by decide))
    refine lx_iload hC dL_law_507 rfl ?_
    refine lx_if_le (tgt := 551) hC dL_law_509 (by decide) (fun _ => ?_) (fun z9 => absurd z9 (by decide))
    show YW sb X (c + 9) (s + 600) 551 [none, some (.ref 0), some (.int (nI (k + 1))), some (.int (nI (p + 0))), some (.int (nI k)), some (.int (nI Xn)), some (.int (nI K)), some (.int a), some (.int b), some (.int w), some (.int (-1)), some (.int (-73))] [] T I J R
    refine lx_widen (c2 := c + 30) (s2 := s + 2000) (by omega) (by omega) (kk h0 Kp.rfl' hp (by omega) rfl)
  · rw [e4, hp] at h0
    have hl := hlen l eA
    have hp1 : pv = nI l.length := by rw [hpv, eA]
    rw [hp1, e3, hp]
    have hge : (0 : Int32) ≤ nI l.length := (nI_rng (b := 128) hl (by decide)).1
    have ep : (nI p).toNatClampNeg = p := nI_clamp (by omega)
    have q1 := pl_13 (m := m1) (p := p) (l := l) (x := nI (Xn % 3))
    have q2 := pl_at (m := m1) (p := p) (l := l) (x := nI (Xn % 3))
    have hPl := PlQ.plan (m := m1) (p := p) (l := l) (x := nI (Xn % 3)) h0.gw hA
    have e36 : iN (plB m1 p l (nI (Xn % 3))) 44 36 = p + 1 := by unfold iN; rw [q1.2.2.2]; exact nI_clamp (by omega)
    show YW sb X (c + 6) (s + 400) 418 [none, some (.ref 0), some (.int (nI (k + 1))), some (.int (nI p)), some (.int (nI k)), some (.int (nI Xn)), some (.int (nI K)), some (.int a), some (.int b), some (.int w), some (.int (nI l.length)), none] [.int (nI p)] T I J R
    refine lx_istore (L2 := [none, some (.ref 0), some (.int (nI (k + 1))), some (.int (nI p)), some (.int (nI k)), some (.int (nI Xn)), some (.int (nI K)), some (.int a), some (.int b), some (.int w), some (.int (nI l.length)), some (.int (nI p))]) hC dL_law_418 (by decide) (by decide) rfl ?_
    refine lx_iload hC dL_law_420 rfl ?_
    refine lx_iload hC dL_law_422 rfl ?_
    refine lx_if_ge (tgt := 432) hC dL_law_424 (by decide) (fun _ => ?_) (fun z9 => absurd hge z9)
    refine lx_iload_n hC dL_law_432 rfl ?_
    refine lx_icmp_ne (tgt := 461) hC dL_law_433 (by decide) (fun z9 => absurd rfl z9) (fun _ => ?_)
    refine lx_iload hC dL_law_436 rfl ?_
    refine lx_if_ge (tgt := 445) hC dL_law_438 (by decide) (fun _ => ?_) (fun z9 => absurd hge z9)
    refine lx_iconst (v := 0) hC dL_law_445 (by decide) ?_
    refine lx_aload_n hC dL_law_446 rfl ?_
    refine kx_185 hC rfl (c_differing h0) dL_law_447 (GX.t0 h0) rfl a_le a_le a_le (by omega) (by omega) rfl lek_x (lek_k (fun dv m2 T I J R hF h0 => ?_))
    obtain ⟨e5, hdv⟩ := hF
    rw [e5] at h0
    show YW sb X (c + 9) (s + 600) 450 [none, some (.ref 0), some (.int (nI (k + 1))), some (.int (nI p)), some (.int (nI k)), some (.int (nI Xn)), some (.int (nI K)), some (.int a), some (.int b), some (.int w), some (.int (nI l.length)), some (.int (nI p))] [.int dv, .int 0] T I J R
    refine lx_if_ge (tgt := 457) hC dL_law_450 (by decide) (fun _ => ?_) (fun z9 => absurd (Int32.not_lt.mp (fun z => by have z2 := (hdv A hPl).mp z; rw [eA] at z2; cases z2)) z9)
    refine lx_iconst (v := 0) hC dL_law_457 (by decide) ?_
    refine lx_icmp_eq (tgt := 463) hC dL_law_458 (by decide) (fun _ => ?_) (fun z9 => absurd z9 (by decide))
    refine lx_iload_n hC dL_law_463 rfl ?_
    refine lx_iload hC dL_law_464 rfl ?_
    refine lx_if_ge (tgt := 473) hC dL_law_466 (by decide) (fun _ => ?_) (fun z9 => absurd hge z9)
    refine lx_iconst (v := 1) hC dL_law_473 (by decide) ?_
    refine lx_iadd hC dL_law_474 ?_
    rw [show ((nI p) + 1 : Int32) = nI (p + 1) from nI_add p 1]
    refine lx_istore_n (L2 := [none, some (.ref 0), some (.int (nI (k + 1))), some (.int (nI (p + 1))), some (.int (nI k)), some (.int (nI Xn)), some (.int (nI K)), some (.int a), some (.int b), some (.int w), some (.int (nI l.length)), some (.int (nI p))]) hC dL_law_475 rfl (by decide) (by decide) rfl ?_
    refine lx_iload hC dL_law_476 rfl ?_
    by_cases hl0 : l.length = 0
    · refine lx_if_le (tgt := 507) hC dL_law_478 (by decide) (fun _ => ?_) (fun z9 => absurd (by rw [hl0]; decide) z9)
      refine lx_iload hC dL_law_507 rfl ?_
      refine lx_if_le (tgt := 551) hC dL_law_509 (by decide) (fun _ => ?_) (fun z9 => absurd (by rw [hl0]; decide) z9)
      show YW sb X (c + 9) (s + 600) 551 [none, some (.ref 0), some (.int (nI (k + 1))), some (.int (nI (p + 1))), some (.int (nI k)), some (.int (nI Xn)), some (.int (nI K)), some (.int a), some (.int b), some (.int w), some (.int (nI l.length)), some (.int (nI p))] [] T I J R
      refine lx_widen (c2 := c + 30) (s2 := s + 2000) (by omega) (by omega) (kk h0 Kp.pl e36 (by omega) q1.1)
    · have hn0 : ¬ nI l.length ≤ 0 := fun z => by have := (nle (a := l.length) (b := 0) (by omega) (by decide)).mp z; omega
      refine lx_if_le (tgt := 507) hC dL_law_478 (by decide) (fun z9 => absurd z9 hn0) (fun _ => ?_)
      refine lx_aload_n hC dL_law_481 rfl ?_
      refine lx_iload hC dL_law_482 rfl ?_
      have hpr : 0 ≤ nI p ∧ nI p < nI (iN (plB m1 p l (nI (Xn % 3))) 44 36) := ⟨(nI_rng (b := 40) (by omega) (by decide)).1, by rw [e36]; exact (nlt (by omega) (by omega)).mpr (by omega)⟩
      have hstale : bI (decide (plB m1 p l (nI (Xn % 3)) 76 (nI p).toNatClampNeg ≠ plB m1 p l (nI (Xn % 3)) 44 35) || !hasA (plB m1 p l (nI (Xn % 3))) (nI p).toNatClampNeg A) = 0 := by rw [ep, eA, pl_has hl, q2.2.1, q1.2.1]; simp [bI]
      refine kx_102 hC rfl (AMet.ekb (e_isStale h0 hF0.plan hpr hstale) (by decide)) dL_law_484 (GX.t0 h0) rfl a_le a_le a_le (by omega) (by omega) rfl lek_x (lek_p (fun T I J R h0 => ?_))
      show YW sb X (c + 12) (s + 800) 487 [none, some (.ref 0), some (.int (nI (k + 1))), some (.int (nI (p + 1))), some (.int (nI k)), some (.int (nI Xn)), some (.int (nI K)), some (.int a), some (.int b), some (.int w), some (.int (nI l.length)), some (.int (nI p))] [.int 0] T I J R
      refine lx_if_ne (tgt := 505) hC dL_law_487 (by decide) (fun z9 => absurd z9 (by decide)) (fun _ => ?_)
      refine lx_aload_n hC dL_law_490 rfl ?_
      refine lx_iload hC dL_law_491 rfl ?_
      refine lx_iload hC dL_law_493 rfl ?_
      refine lx_iconst (v := 1) hC dL_law_495 (by decide) ?_
      refine lx_iadd hC dL_law_496 ?_
      rw [show ((nI Xn) + 1 : Int32) = nI (Xn + 1) from nI_add Xn 1]
      refine lx_iconst (v := 3) hC dL_law_497 (by decide) ?_
      refine lx_irem hC dL_law_498 (by decide) ?_
      rw [show ((nI (Xn + 1)) - (nI (Xn + 1)) / 3 * 3 : Int32) = nI ((Xn + 1) % 3) from pk_rem (a := (Xn + 1)) (d := 3) (by omega) (by decide) (by decide)]
      have hne : plB m1 p l (nI (Xn % 3)) 75 (nI p).toNatClampNeg ≠ nI ((Xn + 1) % 3) := by rw [ep, q2.1]; exact fun z => by have := (neqN (by omega) (by omega)).mp z; omega
      have h77 : (if plB m1 p l (nI (Xn % 3)) 77 (nI p).toNatClampNeg = 0 then (1 : Int32) else 0) = 1 := by rw [ep, q2.2.2.2.2.1]; exact if_pos z77.1
      have hap : MX11_approve 3 200 [.ref 0, .int (nI p), .int (nI ((Xn + 1) % 3))] T I J R (EB (pt 1 (a_u (plB m1 p l (nI (Xn % 3))) 77 p 1))) := e_approve h0 (fun z => hne z.2) (fun z => z ⟨hpr, nI_rng (b := 2) (by omega) (by decide)⟩) h77 (by rw [ep]) (by show (a_u (plB m1 p l (nI (Xn % 3))) 77 p 1 44 13).toNatClampNeg ≤ 30000; rw [a_u_ne (fun z => absurd z.1 (by decide))]; exact h0.dy)
      refine kx_98 hC rfl (AMet.ekb hap (by decide)) dL_law_499 (GX.t0 h0) rfl a_le a_le a_le (by omega) (by omega) rfl lek_x (lek_p (fun T I J R h0 => ?_))
      show YW sb X (c + 15) (s + 1000) 502 [none, some (.ref 0), some (.int (nI (k + 1))), some (.int (nI (p + 1))), some (.int (nI k)), some (.int (nI Xn)), some (.int (nI K)), some (.int a), some (.int b), some (.int w), some (.int (nI l.length)), some (.int (nI p))] [.int 1] T I J R
      refine lx_if_ne (tgt := 507) hC dL_law_502 (by decide) (fun _ => ?_) (fun z9 => absurd z9 (by decide))
      refine lx_iload hC dL_law_507 rfl ?_
      refine lx_if_le (tgt := 551) hC dL_law_509 (by decide) (fun z9 => absurd z9 hn0) (fun _ => ?_)
      refine lx_aload_n hC dL_law_512 rfl ?_
      have k4 : Kp m1 (a_u (plB m1 p l (nI (Xn % 3))) 77 p 1) := Kp.trans Kp.pl (Kp.one (by decide))
      have r36 : iN (a_u (plB m1 p l (nI (Xn % 3))) 77 p 1) 44 36 = p + 1 := by unfold iN; rw [a_u_ne (fun z => absurd z.1 (by decide))]; exact e36
      have r13 : (a_u (plB m1 p l (nI (Xn % 3))) 77 p 1) 44 13 = m1 44 13 := by rw [a_u_ne (fun z => absurd z.1 (by decide))]; exact q1.1
      have s78 : plB m1 p l (nI (Xn % 3)) 78 p = 0 := by rw [q2.2.2.2.2.2]; exact z77.2
      have hF4 : Fnd (a_u (plB m1 p l (nI (Xn % 3))) 77 p 1) A := Fnd.one (by decide) hF0.plan
      have has4 : hasA (a_u (plB m1 p l (nI (Xn % 3))) 77 p 1) (nI p).toNatClampNeg A = true := by rw [ep, eA]; exact pl_has2 hl
      have m45 : (a_u (plB m1 p l (nI (Xn % 3))) 77 p 1) 44 45 = m1 44 45 := by rw [a_u_ne (fun z => absurd z.1 (by decide))]; exact q1.2.2.1
      have can4 : ¬ 0 ≤ m1 44 45 → canAp (a_u (plB m1 p l (nI (Xn % 3))) 77 p 1) (nI p).toNatClampNeg := fun z => by
        rw [ep]
        refine ⟨by rw [a_u_self]; decide, by rw [a_u_row (by decide)]; exact s78, by rw [a_u_row (by decide), a_u_ne (fun z => absurd z.1 (by decide)), q2.2.1, q1.2.1], ?_, by rw [m45]; exact Int32.not_le.mp z⟩
        rw [a_u_row (by decide), q2.2.2.1]; exact Int32.not_le.mp hn0
      have h79 : (a_u (plB m1 p l (nI (Xn % 3))) 77 p 1) 79 (nI p).toNatClampNeg = nI l.length := by rw [ep, a_u_row (by decide)]; exact q2.2.2.1
      have hpr4 : 0 ≤ nI p ∧ nI p < nI (iN (a_u (plB m1 p l (nI (Xn % 3))) 77 p 1) 44 36) := by rw [r36]; exact ⟨hpr.1, (nlt (by omega) (by omega)).mpr (by omega)⟩
      generalize a_u (plB m1 p l (nI (Xn % 3))) 77 p 1 = m4 at h0 k4 r36 r13 hF4 has4 m45 can4 h79 hpr4
      obtain ⟨lk, hlk⟩ : ∃ lk, bI (decide (0 ≤ m4 44 45)) = lk := ⟨_, rfl⟩
      refine kx_152 hC rfl (e_isLocked h0 hlk) dL_law_513 (GX.t0 h0) rfl a_le a_le a_le (by omega) (by omega) rfl lek_x (lek_p (fun T I J R h0 => ?_))
      show YW sb X (c + 18) (s + 1200) 516 [none, some (.ref 0), some (.int (nI (k + 1))), some (.int (nI (p + 1))), some (.int (nI k)), some (.int (nI Xn)), some (.int (nI K)), some (.int a), some (.int b), some (.int w), some (.int (nI l.length)), some (.int (nI p))] [.int lk] T I J R
      by_cases hz : 0 ≤ m4 44 45
      · refine lx_if_ne (tgt := 551) hC dL_law_516 (by decide) (fun _ => ?_) (fun z9 => absurd z9 (by rw [← hlk, decide_eq_true hz]; decide))
        show YW sb X (c + 18) (s + 1200) 551 [none, some (.ref 0), some (.int (nI (k + 1))), some (.int (nI (p + 1))), some (.int (nI k)), some (.int (nI Xn)), some (.int (nI K)), some (.int a), some (.int b), some (.int w), some (.int (nI l.length)), some (.int (nI p))] [] T I J R
        refine lx_widen (c2 := c + 30) (s2 := s + 2000) (by omega) (by omega) (kk h0 k4 r36 (by omega) r13)
      · refine lx_if_ne (tgt := 551) hC dL_law_516 (by decide) (fun z9 => absurd (by rw [← hlk, decide_eq_false hz]; decide) z9) (fun _ => ?_)
        refine lx_aload_n hC dL_law_519 rfl ?_
        refine lx_iload hC dL_law_520 rfl ?_
        have dya : dyM (apB m4 (nI p).toNatClampNeg) := by show (apB m4 _ 44 13).toNatClampNeg ≤ 30000; rw [ap_13.1]; exact h0.dy
        have hap9 := e_apply h0 hF4 has4 ⟨hpr4, can4 (by rw [← m45]; exact hz)⟩ h79 rfl dya
        refine kx_109 hC rfl (AMet.ek hap9 (nI_nx (by omega))) dL_law_522 (GX.t0 h0) rfl a_le a_le a_le (by omega) (by omega) rfl lek_x (lek_p (fun T I J R h0 => ?_))
        show YW sb X (c + 21) (s + 1400) 525 [none, some (.ref 0), some (.int (nI (k + 1))), some (.int (nI (p + 1))), some (.int (nI k)), some (.int (nI Xn)), some (.int (nI K)), some (.int a), some (.int b), some (.int w), some (.int (nI l.length)), some (.int (nI p))] [.int (nI l.length)] T I J R
        refine lx_iload hC dL_law_525 rfl ?_
        refine lx_icmp_ne (tgt := 549) hC dL_law_527 (by decide) (fun z9 => absurd rfl z9) (fun _ => ?_)
        refine lx_aload_n hC dL_law_530 rfl ?_
        refine lx_bipush (v := 27) hC dL_law_531 (by decide) ?_
        refine lx_iload hC dL_law_533 rfl ?_
        refine lx_iconst (v := 3) hC dL_law_535 (by decide) ?_
        refine lx_irem hC dL_law_536 (by decide) ?_
        rw [show ((nI Xn) - (nI Xn) / 3 * 3 : Int32) = nI (Xn % 3) from pk_rem (a := Xn) (d := 3) (by omega) (by decide) (by decide)]
        refine lx_iconst (v := 0) hC dL_law_537 (by decide) ?_
        refine lx_iconst (v := 0) hC dL_law_538 (by decide) ?_
        refine lx_iconst (v := 0) hC dL_law_539 (by decide) ?_
        refine lx_iconst (v := 0) hC dL_law_540 (by decide) ?_
        refine kx_157 hC rfl (m_L_act_27 h0 (d_step h0 hx3)) dL_law_541 rfl a_le a_le a_le (by omega) (by omega) rfl lek_x (lek_k (fun y m2 T I J R hF h0 => ?_))
        show YW sb X (c + 24) (s + 1600) 544 [none, some (.ref 0), some (.int (nI (k + 1))), some (.int (nI (p + 1))), some (.int (nI k)), some (.int (nI Xn)), some (.int (nI K)), some (.int a), some (.int b), some (.int w), some (.int (nI l.length)), some (.int (nI p))] [.int y] T I J R
        have h43 : 0 ≤ apB m4 (nI p).toNatClampNeg 44 43 := by rw [ap_13.2.2, ep]; exact hpr.1
        refine lx_bipush (v := 100) hC dL_law_544 (by decide) ?_
        refine lx_icmp_ge (tgt := 551) hC dL_law_546 (by decide) (fun _ => ?_) (fun z9 => absurd (hF.2.1 h43) z9)
        show YW sb X (c + 24) (s + 1600) 551 [none, some (.ref 0), some (.int (nI (k + 1))), some (.int (nI (p + 1))), some (.int (nI k)), some (.int (nI Xn)), some (.int (nI K)), some (.int a), some (.int b), some (.int w), some (.int (nI l.length)), some (.int (nI p))] [] T I J R
        refine lx_widen (c2 := c + 30) (s2 := s + 2000) (by omega) (by omega) (kk h0 (k4.trans (Kp.ap.trans hF.2.2.1)) (by unfold iN at r36 ⊢; rw [hF.2.2.2.1, ap_13.2.1]; exact r36) (by omega) (by rw [hF.2.2.2.2, ap_13.1]; exact r13))
set_option maxRecDepth 100000 in
theorem lw_end {sb N : Nat} {xs : Nat → Int32} {X : aX} (hC : YC yL_law cL_law 12 15 634 622020 7235710 sb N xs X) {c s : Nat} (hc : c + 1300 ≤ 622020) (hs : s + 90000 ≤ 7235710) {k p p2 Xn K : Nat} {a b w f9 g9 : Int32} {m m1 mc : aI} (hk : k < 26) (hX9 : Xn < 16777216) (hI : LIv m k p) (hT : TF m m1 k) (hK : Kp m1 mc) (hp2 : iN mc 44 36 = p2) (hle : p2 ≤ k + 1) (h13 : mc 44 13 = m1 44 13) {T : List aT} {I : aI} {J : aJ} {R : aR} (h0 : GX T I J R mc) (kk : ∀ {T I J R m9}, GX T I J R m9 → LIv m9 (k + 1) p2 → YW sb X (c + 1100) (s + 70000) 92 [none, some (.ref 0), some (.int (nI (k + 1))), some (.int (nI p2)), some (.int (nI (k + 1))), none, none, none, none, none, none, none] [] T I J R) : YW sb X c s 551 [none, some (.ref 0), some (.int (nI (k + 1))), some (.int (nI p2)), some (.int (nI k)), some (.int (nI Xn)), some (.int (nI K)), some (.int a), some (.int b), some (.int w), some (.int f9), some (.int g9)] [] T I J R := by
  obtain ⟨i1, i2, i3, i4, i5, i6, i7, i8, i9⟩ := hI
  obtain ⟨t1, t2, t3, t4, t5, t6, t7, t8, t9⟩ := hT
  refine lx_aload_n hC dL_law_551 rfl ?_
  refine lx_bipush (v := 27) hC dL_law_552 (by decide) ?_
  refine lx_iconst (v := 0) hC dL_law_554 (by decide) ?_
  refine lx_iconst (v := 0) hC dL_law_555 (by decide) ?_
  refine lx_iconst (v := 0) hC dL_law_556 (by decide) ?_
  refine lx_iconst (v := 0) hC dL_law_557 (by decide) ?_
  refine lx_iconst (v := 0) hC dL_law_558 (by decide) ?_
  refine kx_157 hC rfl (m_L_act_27 h0 (d_step h0 (by decide))) dL_law_559 rfl a_le a_le a_le (by omega) (by omega) rfl lek_x (lek_k (fun y m2 T I J R hF h0 => ?_))
  show YW sb X (c + 3) (s + 200) 562 [none, some (.ref 0), some (.int (nI (k + 1))), some (.int (nI p2)), some (.int (nI k)), some (.int (nI Xn)), some (.int (nI K)), some (.int a), some (.int b), some (.int w), some (.int f9), some (.int g9)] [.int y] T I J R
  have k2 := hK.trans hF.2.2.1
  have e36 : iN m2 44 36 = p2 := by unfold iN at hp2 ⊢; rw [hF.2.2.2.1]; exact hp2
  have e13 : iN m2 44 13 = iN m 44 13 := by unfold iN; rw [hF.2.2.2.2, h13, t9]
  refine lx_bipush (v := (-73)) hC dL_law_562 (by decide) ?_
  refine lx_icmp_lt (tgt := 617) hC dL_law_564 (by decide) (fun z9 => absurd z9 (Int32.not_lt.mpr hF.1)) (fun _ => ?_)
  refine lx_aload_n hC dL_law_567 rfl ?_
  refine lx_iconst (v := 1) hC dL_law_568 (by decide) ?_
  refine lx_iload hC dL_law_569 rfl ?_
  refine lx_iconst (v := 4) hC dL_law_571 (by decide) ?_
  refine lx_irem hC dL_law_572 (by decide) ?_
  rw [show ((nI Xn) - (nI Xn) / 4 * 4 : Int32) = nI (Xn % 4) from pk_rem (a := Xn) (d := 4) (by omega) (by decide) (by decide)]
  refine lx_iadd hC dL_law_573 ?_
  rw [show (1 + (nI (Xn % 4)) : Int32) = nI (1 + (Xn % 4)) from nI_add 1 (Xn % 4)]
  have hps := c_pass (d := 1 + Xn % 4) h0 ⟨by omega, by omega⟩ (by omega)
  refine kx_34 hC rfl (AMet.mono hps (EX.ek (fun w9 m9 q => by rw [q.1]; exact nI_nx (by omega)))) dL_law_574 (GX.t0 h0) rfl a_le a_le a_le (by omega) (by omega) rfl lek_x (lek_k (fun dy m3 T I J R hG h0 => ?_))
  show YW sb X (c + 6) (s + 400) 577 [none, some (.ref 0), some (.int (nI (k + 1))), some (.int (nI p2)), some (.int (nI k)), some (.int (nI Xn)), some (.int (nI K)), some (.int a), some (.int b), some (.int w), some (.int f9), some (.int g9)] [.int dy] T I J R
  have k3 := k2.trans hG.2.1
  have f36 : iN m3 44 36 = p2 := by unfold iN at e36 ⊢; rw [hG.2.2.1]; exact e36
  have f13 := hG.2.2.2
  refine lx_iload hC dL_law_577 rfl ?_
  refine lx_icmp_le (tgt := 617) hC dL_law_579 (by decide) (fun z9 => absurd z9 (fun z => by rw [hG.1] at z; have := (nle (by omega) (by omega)).mp z; omega)) (fun _ => ?_)
  refine lx_aload_n hC dL_law_582 rfl ?_
  refine lx_bipush (v := 34) hC dL_law_583 (by decide) ?_
  refine lx_iconst (v := 0) hC dL_law_585 (by decide) ?_
  refine lx_iconst (v := 0) hC dL_law_586 (by decide) ?_
  refine lx_iconst (v := 0) hC dL_law_587 (by decide) ?_
  refine lx_iconst (v := 0) hC dL_law_588 (by decide) ?_
  refine lx_iconst (v := 0) hC dL_law_589 (by decide) ?_
  refine kx_157 hC rfl (m_L_act_34 h0 (d_read h0)) dL_law_590 rfl a_le a_le a_le (by omega) (by omega) rfl lek_x (lek_k (fun rd m4 T I J R hR h0 => ?_))
  show YW sb X (c + 9) (s + 600) 593 [none, some (.ref 0), some (.int (nI (k + 1))), some (.int (nI p2)), some (.int (nI k)), some (.int (nI Xn)), some (.int (nI K)), some (.int a), some (.int b), some (.int w), some (.int f9), some (.int g9)] [.int rd] T I J R
  have k4 := k3.trans hR.2.1
  have g36 : iN m4 44 36 = p2 := by unfold iN at f36 ⊢; rw [hR.2.2.1]; exact f36
  have g13 : iN m4 44 13 = iN m 44 13 + (1 + Xn % 4) := by rw [← e13, ← f13]; unfold iN; rw [hR.2.2.2]
  have j0 : iN m4 44 0 = k + 1 := k4.i0.1.trans t1
  have j14 : iN m4 44 14 = 0 := by rw [k4.i0.2.1]; unfold iN at i4 ⊢; rw [t6]; exact i4
  have j20 : iN m4 44 20 = 2 := by rw [k4.i0.2.2]; unfold iN at i5 ⊢; rw [t7]; exact i5
  have hDS := k4.ds t2
  refine lx_bipush (v := (-73)) hC dL_law_593 (by decide) ?_
  refine lx_icmp_lt (tgt := 617) hC dL_law_595 (by decide) (fun z9 => absurd z9 (Int32.not_lt.mpr hR.1)) (fun _ => ?_)
  refine lx_iload hC dL_law_598 rfl ?_
  refine lx_bipush (v := 6) hC dL_law_600 (by decide) ?_
  refine lx_irem hC dL_law_602 (by decide) ?_
  rw [show ((nI k) - (nI k) / 6 * 6 : Int32) = nI (k % 6) from pk_rem (a := k) (d := 6) (by omega) (by decide) (by decide)]
  have j619 : ∀ {T : List aT} {I : aI} {J : aJ} {R : aR}, GX T I J R m4 → YW sb X (c + 1009) (s + 66600) 619 [none, some (.ref 0), some (.int (nI (k + 1))), some (.int (nI p2)), some (.int (nI k)), some (.int (nI Xn)), some (.int (nI K)), some (.int a), some (.int b), some (.int w), some (.int f9), some (.int g9)] [] T I J R := by
    intro T I J R h0
    refine lx_aload_n hC dL_law_619 rfl ?_
    refine kx_171 hC rfl (c_conflict h0) dL_law_620 (GX.t0 h0) rfl a_le a_le a_le (by omega) (by omega) rfl lek_x (lek_k (fun w1 m5 T I J R hF h0 => ?_))
    obtain ⟨e5, P, S9, M, hSv, hw⟩ := hF
    rw [e5] at h0
    show YW sb X (c + 1012) (s + 66800) 623 [none, some (.ref 0), some (.int (nI (k + 1))), some (.int (nI p2)), some (.int (nI k)), some (.int (nI Xn)), some (.int (nI K)), some (.int a), some (.int b), some (.int w), some (.int f9), some (.int g9)] [.int w1] T I J R
    by_cases hw0 : w1 = 0
    · refine lx_if_eq (tgt := 645) hC dL_law_623 (by decide) (fun _ => ?_) (fun z9 => absurd hw0 z9)
      refine lx_iinc (v := nI (k + 1)) (L2 := [none, some (.ref 0), some (.int (nI (k + 1))), some (.int (nI p2)), some (.int (nI (k + 1))), some (.int (nI Xn)), some (.int (nI K)), some (.int a), some (.int b), some (.int w), some (.int f9), some (.int g9)]) hC dL_law_645 rfl (nI_inc _) (by decide) (by decide) rfl ?_
      refine lx_goto (tgt := 92) hC dL_law_648 (by decide) ?_
      refine lx_forget 5 (L2 := [none, some (.ref 0), some (.int (nI (k + 1))), some (.int (nI p2)), some (.int (nI (k + 1))), none, some (.int (nI K)), some (.int a), some (.int b), some (.int w), some (.int f9), some (.int g9)]) rfl ?_
      refine lx_forget 6 (L2 := [none, some (.ref 0), some (.int (nI (k + 1))), some (.int (nI p2)), some (.int (nI (k + 1))), none, none, some (.int a), some (.int b), some (.int w), some (.int f9), some (.int g9)]) rfl ?_
      refine lx_forget 7 (L2 := [none, some (.ref 0), some (.int (nI (k + 1))), some (.int (nI p2)), some (.int (nI (k + 1))), none, none, none, some (.int b), some (.int w), some (.int f9), some (.int g9)]) rfl ?_
      refine lx_forget 8 (L2 := [none, some (.ref 0), some (.int (nI (k + 1))), some (.int (nI p2)), some (.int (nI (k + 1))), none, none, none, none, some (.int w), some (.int f9), some (.int g9)]) rfl ?_
      refine lx_forget 9 (L2 := [none, some (.ref 0), some (.int (nI (k + 1))), some (.int (nI p2)), some (.int (nI (k + 1))), none, none, none, none, none, some (.int f9), some (.int g9)]) rfl ?_
      refine lx_forget 10 (L2 := [none, some (.ref 0), some (.int (nI (k + 1))), some (.int (nI p2)), some (.int (nI (k + 1))), none, none, none, none, none, none, some (.int g9)]) rfl ?_
      refine lx_forget 11 (L2 := [none, some (.ref 0), some (.int (nI (k + 1))), some (.int (nI p2)), some (.int (nI (k + 1))), none, none, none, none, none, none, none]) rfl ?_
      exact lx_widen (by omega) (by omega) (kk h0 ⟨j0, hDS, ⟨P, S9, M, hSv, cfA_iff.mp (hw.symm.trans hw0)⟩, j14, j20, g36, by omega, by omega, by omega⟩)
    · refine lx_if_eq (tgt := 645) hC dL_law_623 (by decide) (fun z9 => absurd z9 hw0) (fun _ => ?_)
      refine lx_aload_n hC dL_law_626 rfl ?_
      refine lx_iload_n hC dL_law_627 rfl ?_
      refine lx_iconst (v := 1) hC dL_law_628 (by decide) ?_
      refine lx_isub hC dL_law_629 ?_
      rw [show ((nI (k + 1)) - 1 : Int32) = nI ((k + 1) - 1) from pk_sub (a := (k + 1)) (b := 1) (by omega)]
      rw [show k + 1 - 1 = k by omega]
      show YW sb X (c + 1012) (s + 66800) 630 [none, some (.ref 0), some (.int (nI (k + 1))), some (.int (nI p2)), some (.int (nI k)), some (.int (nI Xn)), some (.int (nI K)), some (.int a), some (.int b), some (.int w), some (.int f9), some (.int g9)] [.int (nI k), .ref 0] T I J R
      have ek : (nI k).toNatClampNeg = k := nI_clamp (by omega)
      have hrem := c_remove (x := nI k) h0 ⟨⟨(nI_rng (b := 30) (by omega) (by decide)).1, by rw [j0]; exact (nlt (by omega) (by omega)).mpr (by omega)⟩, by rw [ek, k4.1 49 (by decide) (by decide)]; exact t4, by rw [ek, k4.1 52 (by decide) (by decide)]; exact t3⟩
      refine kx_20 hC rfl (AMet.mono hrem (EX.ek (fun w9 m9 q => by obtain ⟨_, c9, hc9, e9⟩ := q; rw [e9]; exact nI_nx (by omega)))) dL_law_630 (GX.t0 h0) rfl a_le a_le a_le (by omega) (by omega) rfl lek_x (lek_k (fun w2 m6 T I J R hQ h0 => ?_))
      obtain ⟨e6, c9, hc9, e9⟩ := hQ
      rw [ek] at e6
      show YW sb X (c + 1015) (s + 67000) 633 [none, some (.ref 0), some (.int (nI (k + 1))), some (.int (nI p2)), some (.int (nI k)), some (.int (nI Xn)), some (.int (nI K)), some (.int a), some (.int b), some (.int w), some (.int f9), some (.int g9)] [.int w2] T I J R
      refine lx_if_lt (tgt := 643) hC dL_law_633 (by decide) (fun z9 => absurd z9 (by rw [e9]; exact fun z => by have := (nlt (a := c9) (b := 0) (by omega) (by decide)).mp z; omega)) (fun _ => ?_)
      have u0 : iN m6 44 0 = k + 1 := by rw [e6]; unfold iN at j0 ⊢; rw [a_u_ne (fun z => absurd z.1 (by decide))]; exact j0
      have u4 : ∀ j, m6 44 j = m4 44 j := fun j => by rw [e6, a_u_ne (fun z => absurd z.1 (by decide))]
      have ur : ∀ o, o ≠ 52 → m6 o = m4 o := fun o ho => by rw [e6, a_u_row ho]
      have uD : DS m6 (k + 1) := by unfold DS iN at hDS ⊢; rw [ur 45 (by decide), ur 46 (by decide), ur 47 (by decide), ur 49 (by decide), ur 55 (by decide)]; exact hDS
      have hag : ∀ o, 45 ≤ o → o ≤ 52 → ∀ s, s < k → m6 o s = m o s := fun o u v s hs9 => by rw [e6, a_u_ne (fun z => by omega), k4.1 o u (by omega)]; exact t5 o u v s hs9
      have u52 : m6 52 k ≠ 0 := by rw [e6, a_u_self]; decide
      refine lx_aload_n hC dL_law_636 rfl ?_
      refine kx_171 hC rfl (c_conflict h0) dL_law_637 (GX.t0 h0) rfl a_le a_le a_le (by omega) (by omega) rfl lek_x (lek_k (fun w3 m7 T I J R hF h0 => ?_))
      obtain ⟨e7, P2, S2, M2, hSv2, hw2⟩ := hF
      rw [e7] at h0
      show YW sb X (c + 1018) (s + 67200) 640 [none, some (.ref 0), some (.int (nI (k + 1))), some (.int (nI p2)), some (.int (nI k)), some (.int (nI Xn)), some (.int (nI K)), some (.int a), some (.int b), some (.int w), some (.int f9), some (.int g9)] [.int w3] T I J R
      have hM2 := NoC.rem (m1 := m) (m2 := m6) (n := k) (by omega) i2 uD i1 u0 i3 hag u52 hSv2
      refine lx_if_eq (tgt := 645) hC dL_law_640 (by decide) (fun _ => ?_) (fun z9 => absurd (hw2.trans (cfA_iff.mpr hM2)) z9)
      refine lx_iinc (v := nI (k + 1)) (L2 := [none, some (.ref 0), some (.int (nI (k + 1))), some (.int (nI p2)), some (.int (nI (k + 1))), some (.int (nI Xn)), some (.int (nI K)), some (.int a), some (.int b), some (.int w), some (.int f9), some (.int g9)]) hC dL_law_645 rfl (nI_inc _) (by decide) (by decide) rfl ?_
      refine lx_goto (tgt := 92) hC dL_law_648 (by decide) ?_
      refine lx_forget 5 (L2 := [none, some (.ref 0), some (.int (nI (k + 1))), some (.int (nI p2)), some (.int (nI (k + 1))), none, some (.int (nI K)), some (.int a), some (.int b), some (.int w), some (.int f9), some (.int g9)]) rfl ?_
      refine lx_forget 6 (L2 := [none, some (.ref 0), some (.int (nI (k + 1))), some (.int (nI p2)), some (.int (nI (k + 1))), none, none, some (.int a), some (.int b), some (.int w), some (.int f9), some (.int g9)]) rfl ?_
      refine lx_forget 7 (L2 := [none, some (.ref 0), some (.int (nI (k + 1))), some (.int (nI p2)), some (.int (nI (k + 1))), none, none, none, some (.int b), some (.int w), some (.int f9), some (.int g9)]) rfl ?_
      refine lx_forget 8 (L2 := [none, some (.ref 0), some (.int (nI (k + 1))), some (.int (nI p2)), some (.int (nI (k + 1))), none, none, none, none, some (.int w), some (.int f9), some (.int g9)]) rfl ?_
      refine lx_forget 9 (L2 := [none, some (.ref 0), some (.int (nI (k + 1))), some (.int (nI p2)), some (.int (nI (k + 1))), none, none, none, none, none, some (.int f9), some (.int g9)]) rfl ?_
      refine lx_forget 10 (L2 := [none, some (.ref 0), some (.int (nI (k + 1))), some (.int (nI p2)), some (.int (nI (k + 1))), none, none, none, none, none, none, some (.int g9)]) rfl ?_
      refine lx_forget 11 (L2 := [none, some (.ref 0), some (.int (nI (k + 1))), some (.int (nI p2)), some (.int (nI (k + 1))), none, none, none, none, none, none, none]) rfl ?_
      exact lx_widen (by omega) (by omega) (kk h0 ⟨u0, uD, ⟨P2, S2, M2, hSv2, hM2⟩, by unfold iN at j14 ⊢; rw [u4]; exact j14, by unfold iN at j20 ⊢; rw [u4]; exact j20, by unfold iN at g36 ⊢; rw [u4]; exact g36, by omega, by unfold iN at g13 i8 ⊢; rw [u4]; omega, by unfold iN at g13 i9 ⊢; rw [u4]; omega⟩)
  by_cases hk6 : k % 6 = 0
  · refine lx_if_ne (tgt := 619) hC dL_law_603 (by decide) (fun z9 => absurd (by rw [hk6]; rfl) z9) (fun _ => ?_)
    refine lx_aload_n hC dL_law_606 rfl ?_
    refine lx_iload_n hC dL_law_607 rfl ?_
    refine lx_iconst (v := 0) hC dL_law_608 (by decide) ?_
    refine lx_iconst (v := 2) hC dL_law_609 (by decide) ?_
    refine lx_iload_n hC dL_law_610 rfl ?_
    refine kx_162 hC rfl (m_L_refuses h0 (n := k + 1) (q := 0) (g := 2) (p := p2) j0 j14 j20 g36) dL_law_611 rfl a_le a_le a_le (by omega) (by omega) rfl lek_x (lek_p (fun T I J R h0 => ?_))
    show YW sb X (c + 1009) (s + 66600) 614 [none, some (.ref 0), some (.int (nI (k + 1))), some (.int (nI p2)), some (.int (nI k)), some (.int (nI Xn)), some (.int (nI K)), some (.int a), some (.int b), some (.int w), some (.int f9), some (.int g9)] [.int 1] T I J R
    refine lx_if_ne (tgt := 619) hC dL_law_614 (by decide) (fun _ => ?_) (fun z9 => absurd z9 (by decide))
    exact j619 h0
  · refine lx_if_ne (tgt := 619) hC dL_law_603 (by decide) (fun _ => ?_) (fun z9 => absurd z9 (ri_n0 hk6 (by omega)))
    show YW sb X (c + 9) (s + 600) 619 [none, some (.ref 0), some (.int (nI (k + 1))), some (.int (nI p2)), some (.int (nI k)), some (.int (nI Xn)), some (.int (nI K)), some (.int a), some (.int b), some (.int w), some (.int f9), some (.int g9)] [] T I J R
    exact lx_widen (by omega) (by omega) (j619 h0)
