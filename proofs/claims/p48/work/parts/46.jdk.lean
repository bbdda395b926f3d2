theorem nush {a s : Nat} (ha : a < 2147483648) (hs : s < 32) : ((nI a).toUInt32 >>> ((nI s).toUInt32 &&& Int32.toUInt32 31)).toInt32 = nI (a / 2 ^ s) := by
  refine b_ext fun i hi => ?_
  rw [b_ushr s hs]
  show (BitVec.ofNat 32 a).getLsbD (s + i) = (BitVec.ofNat 32 (a / 2 ^ s)).getLsbD i
  rw [BitVec.getLsbD_ofNat, BitVec.getLsbD_ofNat, Nat.testBit_div_two_pow, Nat.add_comm i s]
  by_cases c : s + i < 32
  · simp [c, hi]
  · have : a.testBit (s + i) = false := Nat.testBit_lt_two_pow (Nat.lt_of_lt_of_le ha (by have : 2 ^ 31 ≤ 2 ^ (s + i) := Nat.pow_le_pow_right (by decide) (by omega); exact this))
    simp [this]
/-- how many bits a number has -/
def bl (n : Nat) : Nat := if n = 0 then 0 else n.log2 + 1
theorem bl_of {n L : Nat} (h1 : 2 ^ L ≤ n) (h2 : n < 2 ^ (L + 1)) : bl n = L + 1 := by
  have hn : n ≠ 0 := by have := Nat.two_pow_pos L; omega
  unfold bl; rw [if_neg hn]
  have a := (Nat.le_log2 hn).mpr h1
  have b := (Nat.log2_lt hn).mpr h2
  omega
theorem bl_div {n s i : Nat} (h : n / 2 ^ s = i) (h1 : 1 ≤ i) (h4 : i < 4) : bl n = s + 1 + i / 2 := by
  have p := Nat.two_pow_pos s
  have e := Nat.div_add_mod n (2 ^ s)
  have m := Nat.mod_lt n p
  rw [h] at e
  generalize n % 2 ^ s = r at *
  rcases (show i = 1 ∨ i = 2 ∨ i = 3 by omega) with rfl | rfl | rfl
  · exact bl_of (by omega) (by rw [Nat.pow_succ]; omega)
  · exact bl_of (L := s + 1) (by rw [Nat.pow_succ]; omega) (by rw [Nat.pow_succ, Nat.pow_succ]; omega)
  · exact bl_of (L := s + 1) (by rw [Nat.pow_succ]; omega) (by rw [Nat.pow_succ, Nat.pow_succ]; omega)
abbrev un (x : Int32) : Nat := x.toBitVec.toNat
theorem un_nI {n : Nat} (h : n < 4294967296) : un (nI n) = n := by
  show (BitVec.ofNat 32 n).toNat = n
  rw [BitVec.toNat_ofNat]; exact Nat.mod_eq_of_lt h
theorem nI_un (x : Int32) : x = nI (un x) := Int32.toBitVec_inj.mp (by show _ = BitVec.ofNat 32 _; simp)
theorem un_lt (x : Int32) : un x < 4294967296 := x.toBitVec.isLt
theorem un_neg {x : Int32} (h : x < 0) : 2147483648 ≤ un x := by
  show 2147483648 ≤ x.toBitVec.toNat
  have h2 := (i_lt _ _).mp h
  rw [show (0 : Int32).toInt = 0 from rfl] at h2
  have e : x.toInt = x.toBitVec.toInt := rfl
  rw [e, BitVec.toInt_eq_toNat_cond] at h2
  split at h2 <;> omega
theorem un_pos {x : Int32} (h : ¬ x < 0) : un x < 2147483648 := by
  show x.toBitVec.toNat < 2147483648
  have h2 : ¬ x.toInt < (0 : Int32).toInt := fun q => h ((i_lt _ _).mpr q)
  rw [show (0 : Int32).toInt = 0 from rfl] at h2
  have e : x.toInt = x.toBitVec.toInt := rfl
  rw [e, BitVec.toInt_eq_toNat_cond] at h2
  split at h2 <;> omega
set_option maxRecDepth 100000 in
theorem m_nlzP {T : List aT} {I : aI} {J : aJ} {R : aR} {n : Nat} (h0 : 0 < n) (hn : n < 2147483648) : MJ6_numberOfLeadingZeros_0f7a4 0 0 [.int (nI n)] T I J R (aPure (some (.int (nI (32 - bl n)))) T I J R) := by
  refine a_met (by decide +kernel) a_le (fun X hC hq => ?_)
  show AW X 0 0 0 [some (.int (nI n)), none] [] T I J R
  refine aw_iload_n hC dJ6_numberOfLeadingZeros_0f7a4_0 rfl ?_
  refine aw_if_gt (tgt := 15) hC dJ6_numberOfLeadingZeros_0f7a4_1 (by decide) (fun h1 => ?_) (fun h1 => ?_)
  · show AW X 0 0 15 [some (.int (nI n)), none] [] T I J R
    have h1n : 0 < n := (nI_ltI (a := 0) (b := n) (by omega) (by omega)).mp h1
    refine aw_bipush (v := 31) hC dJ6_numberOfLeadingZeros_0f7a4_15 (by decide) ?_
    refine aw_istore_n (L2 := [some (.int (nI n)), some (.int 31)]) hC dJ6_numberOfLeadingZeros_0f7a4_17 rfl (by decide) rfl ?_
    refine aw_iload_n hC dJ6_numberOfLeadingZeros_0f7a4_18 rfl ?_
    refine aw_ldc_w (v := 65536) hC dJ6_numberOfLeadingZeros_0f7a4_19 gK_J6_264 ?_
    refine aw_icmp_lt (tgt := 33) hC dJ6_numberOfLeadingZeros_0f7a4_22 (by decide) (fun h2 => ?_) (fun h2 => ?_)
    · show AW X 0 0 33 [some (.int (nI n)), some (.int 31)] [] T I J R
      have h2n : n < 65536 := (nI_ltI (a := n) (b := 65536) (by omega) (by omega)).mp h2
      refine aw_iload_n hC dJ6_numberOfLeadingZeros_0f7a4_33 rfl ?_
      refine aw_sipush (v := 256) hC dJ6_numberOfLeadingZeros_0f7a4_34 (by decide) ?_
      refine aw_icmp_lt (tgt := 48) hC dJ6_numberOfLeadingZeros_0f7a4_37 (by decide) (fun h3 => ?_) (fun h3 => ?_)
      · show AW X 0 0 48 [some (.int (nI n)), some (.int 31)] [] T I J R
        have h3n : n < 256 := (nI_ltI (a := n) (b := 256) (by omega) (by omega)).mp h3
        refine aw_iload_n hC dJ6_numberOfLeadingZeros_0f7a4_48 rfl ?_
        refine aw_bipush (v := 16) hC dJ6_numberOfLeadingZeros_0f7a4_49 (by decide) ?_
        refine aw_icmp_lt (tgt := 61) hC dJ6_numberOfLeadingZeros_0f7a4_51 (by decide) (fun h4 => ?_) (fun h4 => ?_)
        · show AW X 0 0 61 [some (.int (nI n)), some (.int 31)] [] T I J R
          have h4n : n < 16 := (nI_ltI (a := n) (b := 16) (by omega) (by omega)).mp h4
          refine aw_iload_n hC dJ6_numberOfLeadingZeros_0f7a4_61 rfl ?_
          refine aw_iconst (v := 4) hC dJ6_numberOfLeadingZeros_0f7a4_62 (by decide) ?_
          refine aw_icmp_lt (tgt := 73) hC dJ6_numberOfLeadingZeros_0f7a4_63 (by decide) (fun h5 => ?_) (fun h5 => ?_)
          · show AW X 0 0 73 [some (.int (nI n)), some (.int 31)] [] T I J R
            have h5n : n < 4 := (nI_ltI (a := n) (b := 4) (by omega) (by omega)).mp h5
            refine aw_iload_n hC dJ6_numberOfLeadingZeros_0f7a4_73 rfl ?_
            refine aw_iload_n hC dJ6_numberOfLeadingZeros_0f7a4_74 rfl ?_
            refine aw_iconst (v := 1) hC dJ6_numberOfLeadingZeros_0f7a4_75 (by decide) ?_
            refine aw_iushr hC dJ6_numberOfLeadingZeros_0f7a4_76 ?_
            rw [show ((nI n).toUInt32 >>> ((1 : Int32).toUInt32 &&& Int32.toUInt32 31)).toInt32 = nI (n / 2) from nush (s := 1) (by omega) (by decide)]
            refine aw_isub hC dJ6_numberOfLeadingZeros_0f7a4_77 ?_
            rw [show 31 - (nI (n / 2)) = nI (31 - (n / 2)) from pk_sub (a := 31) (b := (n / 2)) (by omega)]
            exact aw_ireturn hC hq rfl dJ6_numberOfLeadingZeros_0f7a4_78 a_le a_le (aPure_i (congrArg nI (by have h9 := bl_div (n := n) (s := 0) (i := n / 1) rfl (by omega) (by omega); omega)))
          · show AW X 0 0 66 [some (.int (nI n)), some (.int 31)] [] T I J R
            have h5n : ¬ n < 4 := fun q9 => h5 ((nI_ltI (a := n) (b := 4) (by omega) (by omega)).mpr q9)
            refine aw_iinc (v := 29) (L2 := [some (.int (nI n)), some (.int 29)]) hC dJ6_numberOfLeadingZeros_0f7a4_66 rfl (by decide) (by decide) rfl ?_
            refine aw_iload_n hC dJ6_numberOfLeadingZeros_0f7a4_69 rfl ?_
            refine aw_iconst (v := 2) hC dJ6_numberOfLeadingZeros_0f7a4_70 (by decide) ?_
            refine aw_iushr hC dJ6_numberOfLeadingZeros_0f7a4_71 ?_
            rw [show ((nI n).toUInt32 >>> ((2 : Int32).toUInt32 &&& Int32.toUInt32 31)).toInt32 = nI (n / 4) from nush (s := 2) (by omega) (by decide)]
            refine aw_istore_n (L2 := [some (.int (nI (n / 4))), some (.int 29)]) hC dJ6_numberOfLeadingZeros_0f7a4_72 rfl (by decide) rfl ?_
            refine aw_iload_n hC dJ6_numberOfLeadingZeros_0f7a4_73 rfl ?_
            refine aw_iload_n hC dJ6_numberOfLeadingZeros_0f7a4_74 rfl ?_
            refine aw_iconst (v := 1) hC dJ6_numberOfLeadingZeros_0f7a4_75 (by decide) ?_
            refine aw_iushr hC dJ6_numberOfLeadingZeros_0f7a4_76 ?_
            rw [show ((nI (n / 4)).toUInt32 >>> ((1 : Int32).toUInt32 &&& Int32.toUInt32 31)).toInt32 = nI ((n / 4) / 2) from nush (s := 1) (by omega) (by decide)]
            refine aw_isub hC dJ6_numberOfLeadingZeros_0f7a4_77 ?_
            rw [show 29 - (nI ((n / 4) / 2)) = nI (29 - ((n / 4) / 2)) from pk_sub (a := 29) (b := ((n / 4) / 2)) (by omega)]
            exact aw_ireturn hC hq rfl dJ6_numberOfLeadingZeros_0f7a4_78 a_le a_le (aPure_i (congrArg nI (by have h9 := bl_div (n := n) (s := 2) (i := n / 4) rfl (by omega) (by omega); omega)))
        · show AW X 0 0 54 [some (.int (nI n)), some (.int 31)] [] T I J R
          have h4n : ¬ n < 16 := fun q9 => h4 ((nI_ltI (a := n) (b := 16) (by omega) (by omega)).mpr q9)
          refine aw_iinc (v := 27) (L2 := [some (.int (nI n)), some (.int 27)]) hC dJ6_numberOfLeadingZeros_0f7a4_54 rfl (by decide) (by decide) rfl ?_
          refine aw_iload_n hC dJ6_numberOfLeadingZeros_0f7a4_57 rfl ?_
          refine aw_iconst (v := 4) hC dJ6_numberOfLeadingZeros_0f7a4_58 (by decide) ?_
          refine aw_iushr hC dJ6_numberOfLeadingZeros_0f7a4_59 ?_
          rw [show ((nI n).toUInt32 >>> ((4 : Int32).toUInt32 &&& Int32.toUInt32 31)).toInt32 = nI (n / 16) from nush (s := 4) (by omega) (by decide)]
          refine aw_istore_n (L2 := [some (.int (nI (n / 16))), some (.int 27)]) hC dJ6_numberOfLeadingZeros_0f7a4_60 rfl (by decide) rfl ?_
          refine aw_iload_n hC dJ6_numberOfLeadingZeros_0f7a4_61 rfl ?_
          refine aw_iconst (v := 4) hC dJ6_numberOfLeadingZeros_0f7a4_62 (by decide) ?_
          refine aw_icmp_lt (tgt := 73) hC dJ6_numberOfLeadingZeros_0f7a4_63 (by decide) (fun h6 => ?_) (fun h6 => ?_)
          · show AW X 0 0 73 [some (.int (nI (n / 16))), some (.int 27)] [] T I J R
            have h6n : (n / 16) < 4 := (nI_ltI (a := (n / 16)) (b := 4) (by omega) (by omega)).mp h6
            refine aw_iload_n hC dJ6_numberOfLeadingZeros_0f7a4_73 rfl ?_
            refine aw_iload_n hC dJ6_numberOfLeadingZeros_0f7a4_74 rfl ?_
            refine aw_iconst (v := 1) hC dJ6_numberOfLeadingZeros_0f7a4_75 (by decide) ?_
            refine aw_iushr hC dJ6_numberOfLeadingZeros_0f7a4_76 ?_
            rw [show ((nI (n / 16)).toUInt32 >>> ((1 : Int32).toUInt32 &&& Int32.toUInt32 31)).toInt32 = nI ((n / 16) / 2) from nush (s := 1) (by omega) (by decide)]
            refine aw_isub hC dJ6_numberOfLeadingZeros_0f7a4_77 ?_
            rw [show 27 - (nI ((n / 16) / 2)) = nI (27 - ((n / 16) / 2)) from pk_sub (a := 27) (b := ((n / 16) / 2)) (by omega)]
            exact aw_ireturn hC hq rfl dJ6_numberOfLeadingZeros_0f7a4_78 a_le a_le (aPure_i (congrArg nI (by have h9 := bl_div (n := n) (s := 4) (i := n / 16) rfl (by omega) (by omega); omega)))
          · show AW X 0 0 66 [some (.int (nI (n / 16))), some (.int 27)] [] T I J R
            have h6n : ¬ (n / 16) < 4 := fun q9 => h6 ((nI_ltI (a := (n / 16)) (b := 4) (by omega) (by omega)).mpr q9)
            refine aw_iinc (v := 25) (L2 := [some (.int (nI (n / 16))), some (.int 25)]) hC dJ6_numberOfLeadingZeros_0f7a4_66 rfl (by decide) (by decide) rfl ?_
            refine aw_iload_n hC dJ6_numberOfLeadingZeros_0f7a4_69 rfl ?_
            refine aw_iconst (v := 2) hC dJ6_numberOfLeadingZeros_0f7a4_70 (by decide) ?_
            refine aw_iushr hC dJ6_numberOfLeadingZeros_0f7a4_71 ?_
            rw [show ((nI (n / 16)).toUInt32 >>> ((2 : Int32).toUInt32 &&& Int32.toUInt32 31)).toInt32 = nI ((n / 16) / 4) from nush (s := 2) (by omega) (by decide)]
            refine aw_istore_n (L2 := [some (.int (nI ((n / 16) / 4))), some (.int 25)]) hC dJ6_numberOfLeadingZeros_0f7a4_72 rfl (by decide) rfl ?_
            refine aw_iload_n hC dJ6_numberOfLeadingZeros_0f7a4_73 rfl ?_
            refine aw_iload_n hC dJ6_numberOfLeadingZeros_0f7a4_74 rfl ?_
            refine aw_iconst (v := 1) hC dJ6_numberOfLeadingZeros_0f7a4_75 (by decide) ?_
            refine aw_iushr hC dJ6_numberOfLeadingZeros_0f7a4_76 ?_
            rw [show ((nI ((n / 16) / 4)).toUInt32 >>> ((1 : Int32).toUInt32 &&& Int32.toUInt32 31)).toInt32 = nI (((n / 16) / 4) / 2) from nush (s := 1) (by omega) (by decide)]
            refine aw_isub hC dJ6_numberOfLeadingZeros_0f7a4_77 ?_
            rw [show 25 - (nI (((n / 16) / 4) / 2)) = nI (25 - (((n / 16) / 4) / 2)) from pk_sub (a := 25) (b := (((n / 16) / 4) / 2)) (by omega)]
            exact aw_ireturn hC hq rfl dJ6_numberOfLeadingZeros_0f7a4_78 a_le a_le (aPure_i (congrArg nI (by have h9 := bl_div (n := n) (s := 6) (i := n / 64) rfl (by omega) (by omega); omega)))
      · show AW X 0 0 40 [some (.int (nI n)), some (.int 31)] [] T I J R
        have h3n : ¬ n < 256 := fun q9 => h3 ((nI_ltI (a := n) (b := 256) (by omega) (by omega)).mpr q9)
        refine aw_iinc (v := 23) (L2 := [some (.int (nI n)), some (.int 23)]) hC dJ6_numberOfLeadingZeros_0f7a4_40 rfl (by decide) (by decide) rfl ?_
        refine aw_iload_n hC dJ6_numberOfLeadingZeros_0f7a4_43 rfl ?_
        refine aw_bipush (v := 8) hC dJ6_numberOfLeadingZeros_0f7a4_44 (by decide) ?_
        refine aw_iushr hC dJ6_numberOfLeadingZeros_0f7a4_46 ?_
        rw [show ((nI n).toUInt32 >>> ((8 : Int32).toUInt32 &&& Int32.toUInt32 31)).toInt32 = nI (n / 256) from nush (s := 8) (by omega) (by decide)]
        refine aw_istore_n (L2 := [some (.int (nI (n / 256))), some (.int 23)]) hC dJ6_numberOfLeadingZeros_0f7a4_47 rfl (by decide) rfl ?_
        refine aw_iload_n hC dJ6_numberOfLeadingZeros_0f7a4_48 rfl ?_
        refine aw_bipush (v := 16) hC dJ6_numberOfLeadingZeros_0f7a4_49 (by decide) ?_
        refine aw_icmp_lt (tgt := 61) hC dJ6_numberOfLeadingZeros_0f7a4_51 (by decide) (fun h7 => ?_) (fun h7 => ?_)
        · show AW X 0 0 61 [some (.int (nI (n / 256))), some (.int 23)] [] T I J R
          have h7n : (n / 256) < 16 := (nI_ltI (a := (n / 256)) (b := 16) (by omega) (by omega)).mp h7
          refine aw_iload_n hC dJ6_numberOfLeadingZeros_0f7a4_61 rfl ?_
          refine aw_iconst (v := 4) hC dJ6_numberOfLeadingZeros_0f7a4_62 (by decide) ?_
          refine aw_icmp_lt (tgt := 73) hC dJ6_numberOfLeadingZeros_0f7a4_63 (by decide) (fun h8 => ?_) (fun h8 => ?_)
          · show AW X 0 0 73 [some (.int (nI (n / 256))), some (.int 23)] [] T I J R
            have h8n : (n / 256) < 4 := (nI_ltI (a := (n / 256)) (b := 4) (by omega) (by omega)).mp h8
            refine aw_iload_n hC dJ6_numberOfLeadingZeros_0f7a4_73 rfl ?_
            refine aw_iload_n hC dJ6_numberOfLeadingZeros_0f7a4_74 rfl ?_
            refine aw_iconst (v := 1) hC dJ6_numberOfLeadingZeros_0f7a4_75 (by decide) ?_
            refine aw_iushr hC dJ6_numberOfLeadingZeros_0f7a4_76 ?_
            rw [show ((nI (n / 256)).toUInt32 >>> ((1 : Int32).toUInt32 &&& Int32.toUInt32 31)).toInt32 = nI ((n / 256) / 2) from nush (s := 1) (by omega) (by decide)]
            refine aw_isub hC dJ6_numberOfLeadingZeros_0f7a4_77 ?_
            rw [show 23 - (nI ((n / 256) / 2)) = nI (23 - ((n / 256) / 2)) from pk_sub (a := 23) (b := ((n / 256) / 2)) (by omega)]
            exact aw_ireturn hC hq rfl dJ6_numberOfLeadingZeros_0f7a4_78 a_le a_le (aPure_i (congrArg nI (by have h9 := bl_div (n := n) (s := 8) (i := n / 256) rfl (by omega) (by omega); omega)))
          · show AW X 0 0 66 [some (.int (nI (n / 256))), some (.int 23)] [] T I J R
            have h8n : ¬ (n / 256) < 4 := fun q9 => h8 ((nI_ltI (a := (n / 256)) (b := 4) (by omega) (by omega)).mpr q9)
            refine aw_iinc (v := 21) (L2 := [some (.int (nI (n / 256))), some (.int 21)]) hC dJ6_numberOfLeadingZeros_0f7a4_66 rfl (by decide) (by decide) rfl ?_
            refine aw_iload_n hC dJ6_numberOfLeadingZeros_0f7a4_69 rfl ?_
            refine aw_iconst (v := 2) hC dJ6_numberOfLeadingZeros_0f7a4_70 (by decide) ?_
            refine aw_iushr hC dJ6_numberOfLeadingZeros_0f7a4_71 ?_
            rw [show ((nI (n / 256)).toUInt32 >>> ((2 : Int32).toUInt32 &&& Int32.toUInt32 31)).toInt32 = nI ((n / 256) / 4) from nush (s := 2) (by omega) (by decide)]
            refine aw_istore_n (L2 := [some (.int (nI ((n / 256) / 4))), some (.int 21)]) hC dJ6_numberOfLeadingZeros_0f7a4_72 rfl (by decide) rfl ?_
            refine aw_iload_n hC dJ6_numberOfLeadingZeros_0f7a4_73 rfl ?_
            refine aw_iload_n hC dJ6_numberOfLeadingZeros_0f7a4_74 rfl ?_
            refine aw_iconst (v := 1) hC dJ6_numberOfLeadingZeros_0f7a4_75 (by decide) ?_
            refine aw_iushr hC dJ6_numberOfLeadingZeros_0f7a4_76 ?_
            rw [show ((nI ((n / 256) / 4)).toUInt32 >>> ((1 : Int32).toUInt32 &&& Int32.toUInt32 31)).toInt32 = nI (((n / 256) / 4) / 2) from nush (s := 1) (by omega) (by decide)]
            refine aw_isub hC dJ6_numberOfLeadingZeros_0f7a4_77 ?_
            rw [show 21 - (nI (((n / 256) / 4) / 2)) = nI (21 - (((n / 256) / 4) / 2)) from pk_sub (a := 21) (b := (((n / 256) / 4) / 2)) (by omega)]
            exact aw_ireturn hC hq rfl dJ6_numberOfLeadingZeros_0f7a4_78 a_le a_le (aPure_i (congrArg nI (by have h9 := bl_div (n := n) (s := 10) (i := n / 1024) rfl (by omega) (by omega); omega)))
        · show AW X 0 0 54 [some (.int (nI (n / 256))), some (.int 23)] [] T I J R
          have h7n : ¬ (n / 256) < 16 := fun q9 => h7 ((nI_ltI (a := (n / 256)) (b := 16) (by omega) (by omega)).mpr q9)
          refine aw_iinc (v := 19) (L2 := [some (.int (nI (n / 256))), some (.int 19)]) hC dJ6_numberOfLeadingZeros_0f7a4_54 rfl (by decide) (by decide) rfl ?_
          refine aw_iload_n hC dJ6_numberOfLeadingZeros_0f7a4_57 rfl ?_
          refine aw_iconst (v := 4) hC dJ6_numberOfLeadingZeros_0f7a4_58 (by decide) ?_
          refine aw_iushr hC dJ6_numberOfLeadingZeros_0f7a4_59 ?_
          rw [show ((nI (n / 256)).toUInt32 >>> ((4 : Int32).toUInt32 &&& Int32.toUInt32 31)).toInt32 = nI ((n / 256) / 16) from nush (s := 4) (by omega) (by decide)]
          refine aw_istore_n (L2 := [some (.int (nI ((n / 256) / 16))), some (.int 19)]) hC dJ6_numberOfLeadingZeros_0f7a4_60 rfl (by decide) rfl ?_
          refine aw_iload_n hC dJ6_numberOfLeadingZeros_0f7a4_61 rfl ?_
          refine aw_iconst (v := 4) hC dJ6_numberOfLeadingZeros_0f7a4_62 (by decide) ?_
          refine aw_icmp_lt (tgt := 73) hC dJ6_numberOfLeadingZeros_0f7a4_63 (by decide) (fun h9 => ?_) (fun h9 => ?_)
          · show AW X 0 0 73 [some (.int (nI ((n / 256) / 16))), some (.int 19)] [] T I J R
            have h9n : ((n / 256) / 16) < 4 := (nI_ltI (a := ((n / 256) / 16)) (b := 4) (by omega) (by omega)).mp h9
            refine aw_iload_n hC dJ6_numberOfLeadingZeros_0f7a4_73 rfl ?_
            refine aw_iload_n hC dJ6_numberOfLeadingZeros_0f7a4_74 rfl ?_
            refine aw_iconst (v := 1) hC dJ6_numberOfLeadingZeros_0f7a4_75 (by decide) ?_
            refine aw_iushr hC dJ6_numberOfLeadingZeros_0f7a4_76 ?_
            rw [show ((nI ((n / 256) / 16)).toUInt32 >>> ((1 : Int32).toUInt32 &&& Int32.toUInt32 31)).toInt32 = nI (((n / 256) / 16) / 2) from nush (s := 1) (by omega) (by decide)]
            refine aw_isub hC dJ6_numberOfLeadingZeros_0f7a4_77 ?_
            rw [show 19 - (nI (((n / 256) / 16) / 2)) = nI (19 - (((n / 256) / 16) / 2)) from pk_sub (a := 19) (b := (((n / 256) / 16) / 2)) (by omega)]
            exact aw_ireturn hC hq rfl dJ6_numberOfLeadingZeros_0f7a4_78 a_le a_le (aPure_i (congrArg nI (by have h9 := bl_div (n := n) (s := 12) (i := n / 4096) rfl (by omega) (by omega); omega)))
          · show AW X 0 0 66 [some (.int (nI ((n / 256) / 16))), some (.int 19)] [] T I J R
            have h9n : ¬ ((n / 256) / 16) < 4 := fun q9 => h9 ((nI_ltI (a := ((n / 256) / 16)) (b := 4) (by omega) (by omega)).mpr q9)
            refine aw_iinc (v := 17) (L2 := [some (.int (nI ((n / 256) / 16))), some (.int 17)]) hC dJ6_numberOfLeadingZeros_0f7a4_66 rfl (by decide) (by decide) rfl ?_
            refine aw_iload_n hC dJ6_numberOfLeadingZeros_0f7a4_69 rfl ?_
            refine aw_iconst (v := 2) hC dJ6_numberOfLeadingZeros_0f7a4_70 (by decide) ?_
            refine aw_iushr hC dJ6_numberOfLeadingZeros_0f7a4_71 ?_
            rw [show ((nI ((n / 256) / 16)).toUInt32 >>> ((2 : Int32).toUInt32 &&& Int32.toUInt32 31)).toInt32 = nI (((n / 256) / 16) / 4) from nush (s := 2) (by omega) (by decide)]
            refine aw_istore_n (L2 := [some (.int (nI (((n / 256) / 16) / 4))), some (.int 17)]) hC dJ6_numberOfLeadingZeros_0f7a4_72 rfl (by decide) rfl ?_
            refine aw_iload_n hC dJ6_numberOfLeadingZeros_0f7a4_73 rfl ?_
            refine aw_iload_n hC dJ6_numberOfLeadingZeros_0f7a4_74 rfl ?_
            refine aw_iconst (v := 1) hC dJ6_numberOfLeadingZeros_0f7a4_75 (by decide) ?_
            refine aw_iushr hC dJ6_numberOfLeadingZeros_0f7a4_76 ?_
            rw [show ((nI (((n / 256) / 16) / 4)).toUInt32 >>> ((1 : Int32).toUInt32 &&& Int32.toUInt32 31)).toInt32 = nI ((((n / 256) / 16) / 4) / 2) from nush (s := 1) (by omega) (by decide)]
            refine aw_isub hC dJ6_numberOfLeadingZeros_0f7a4_77 ?_
            rw [show 17 - (nI ((((n / 256) / 16) / 4) / 2)) = nI (17 - ((((n / 256) / 16) / 4) / 2)) from pk_sub (a := 17) (b := ((((n / 256) / 16) / 4) / 2)) (by omega)]
            exact aw_ireturn hC hq rfl dJ6_numberOfLeadingZeros_0f7a4_78 a_le a_le (aPure_i (congrArg nI (by have h9 := bl_div (n := n) (s := 14) (i := n / 16384) rfl (by omega) (by omega); omega)))
    · show AW X 0 0 25 [some (.int (nI n)), some (.int 31)] [] T I J R
      have h2n : ¬ n < 65536 := fun q9 => h2 ((nI_ltI (a := n) (b := 65536) (by omega) (by omega)).mpr q9)
      refine aw_iinc (v := 15) (L2 := [some (.int (nI n)), some (.int 15)]) hC dJ6_numberOfLeadingZeros_0f7a4_25 rfl (by decide) (by decide) rfl ?_
      refine aw_iload_n hC dJ6_numberOfLeadingZeros_0f7a4_28 rfl ?_
      refine aw_bipush (v := 16) hC dJ6_numberOfLeadingZeros_0f7a4_29 (by decide) ?_
      refine aw_iushr hC dJ6_numberOfLeadingZeros_0f7a4_31 ?_
      rw [show ((nI n).toUInt32 >>> ((16 : Int32).toUInt32 &&& Int32.toUInt32 31)).toInt32 = nI (n / 65536) from nush (s := 16) (by omega) (by decide)]
      refine aw_istore_n (L2 := [some (.int (nI (n / 65536))), some (.int 15)]) hC dJ6_numberOfLeadingZeros_0f7a4_32 rfl (by decide) rfl ?_
      refine aw_iload_n hC dJ6_numberOfLeadingZeros_0f7a4_33 rfl ?_
      refine aw_sipush (v := 256) hC dJ6_numberOfLeadingZeros_0f7a4_34 (by decide) ?_
      refine aw_icmp_lt (tgt := 48) hC dJ6_numberOfLeadingZeros_0f7a4_37 (by decide) (fun h10 => ?_) (fun h10 => ?_)
      · show AW X 0 0 48 [some (.int (nI (n / 65536))), some (.int 15)] [] T I J R
        have h10n : (n / 65536) < 256 := (nI_ltI (a := (n / 65536)) (b := 256) (by omega) (by omega)).mp h10
        refine aw_iload_n hC dJ6_numberOfLeadingZeros_0f7a4_48 rfl ?_
        refine aw_bipush (v := 16) hC dJ6_numberOfLeadingZeros_0f7a4_49 (by decide) ?_
        refine aw_icmp_lt (tgt := 61) hC dJ6_numberOfLeadingZeros_0f7a4_51 (by decide) (fun h11 => ?_) (fun h11 => ?_)
        · show AW X 0 0 61 [some (.int (nI (n / 65536))), some (.int 15)] [] T I J R
          have h11n : (n / 65536) < 16 := (nI_ltI (a := (n / 65536)) (b := 16) (by omega) (by omega)).mp h11
          refine aw_iload_n hC dJ6_numberOfLeadingZeros_0f7a4_61 rfl ?_
          refine aw_iconst (v := 4) hC dJ6_numberOfLeadingZeros_0f7a4_62 (by decide) ?_
          refine aw_icmp_lt (tgt := 73) hC dJ6_numberOfLeadingZeros_0f7a4_63 (by decide) (fun h12 => ?_) (fun h12 => ?_)
          · show AW X 0 0 73 [some (.int (nI (n / 65536))), some (.int 15)] [] T I J R
            have h12n : (n / 65536) < 4 := (nI_ltI (a := (n / 65536)) (b := 4) (by omega) (by omega)).mp h12
            refine aw_iload_n hC dJ6_numberOfLeadingZeros_0f7a4_73 rfl ?_
            refine aw_iload_n hC dJ6_numberOfLeadingZeros_0f7a4_74 rfl ?_
            refine aw_iconst (v := 1) hC dJ6_numberOfLeadingZeros_0f7a4_75 (by decide) ?_
            refine aw_iushr hC dJ6_numberOfLeadingZeros_0f7a4_76 ?_
            rw [show ((nI (n / 65536)).toUInt32 >>> ((1 : Int32).toUInt32 &&& Int32.toUInt32 31)).toInt32 = nI ((n / 65536) / 2) from nush (s := 1) (by omega) (by decide)]
            refine aw_isub hC dJ6_numberOfLeadingZeros_0f7a4_77 ?_
            rw [show 15 - (nI ((n / 65536) / 2)) = nI (15 - ((n / 65536) / 2)) from pk_sub (a := 15) (b := ((n / 65536) / 2)) (by omega)]
            exact aw_ireturn hC hq rfl dJ6_numberOfLeadingZeros_0f7a4_78 a_le a_le (aPure_i (congrArg nI (by have h9 := bl_div (n := n) (s := 16) (i := n / 65536) rfl (by omega) (by omega); omega)))
          · show AW X 0 0 66 [some (.int (nI (n / 65536))), some (.int 15)] [] T I J R
            have h12n : ¬ (n / 65536) < 4 := fun q9 => h12 ((nI_ltI (a := (n / 65536)) (b := 4) (by omega) (by omega)).mpr q9)
            refine aw_iinc (v := 13) (L2 := [some (.int (nI (n / 65536))), some (.int 13)]) hC dJ6_numberOfLeadingZeros_0f7a4_66 rfl (by decide) (by decide) rfl ?_
            refine aw_iload_n hC dJ6_numberOfLeadingZeros_0f7a4_69 rfl ?_
            refine aw_iconst (v := 2) hC dJ6_numberOfLeadingZeros_0f7a4_70 (by decide) ?_
            refine aw_iushr hC dJ6_numberOfLeadingZeros_0f7a4_71 ?_
            rw [show ((nI (n / 65536)).toUInt32 >>> ((2 : Int32).toUInt32 &&& Int32.toUInt32 31)).toInt32 = nI ((n / 65536) / 4) from nush (s := 2) (by omega) (by decide)]
            refine aw_istore_n (L2 := [some (.int (nI ((n / 65536) / 4))), some (.int 13)]) hC dJ6_numberOfLeadingZeros_0f7a4_72 rfl (by decide) rfl ?_
            refine aw_iload_n hC dJ6_numberOfLeadingZeros_0f7a4_73 rfl ?_
            refine aw_iload_n hC dJ6_numberOfLeadingZeros_0f7a4_74 rfl ?_
            refine aw_iconst (v := 1) hC dJ6_numberOfLeadingZeros_0f7a4_75 (by decide) ?_
            refine aw_iushr hC dJ6_numberOfLeadingZeros_0f7a4_76 ?_
            rw [show ((nI ((n / 65536) / 4)).toUInt32 >>> ((1 : Int32).toUInt32 &&& Int32.toUInt32 31)).toInt32 = nI (((n / 65536) / 4) / 2) from nush (s := 1) (by omega) (by decide)]
            refine aw_isub hC dJ6_numberOfLeadingZeros_0f7a4_77 ?_
            rw [show 13 - (nI (((n / 65536) / 4) / 2)) = nI (13 - (((n / 65536) / 4) / 2)) from pk_sub (a := 13) (b := (((n / 65536) / 4) / 2)) (by omega)]
            exact aw_ireturn hC hq rfl dJ6_numberOfLeadingZeros_0f7a4_78 a_le a_le (aPure_i (congrArg nI (by have h9 := bl_div (n := n) (s := 18) (i := n / 262144) rfl (by omega) (by omega); omega)))
        · show AW X 0 0 54 [some (.int (nI (n / 65536))), some (.int 15)] [] T I J R
          have h11n : ¬ (n / 65536) < 16 := fun q9 => h11 ((nI_ltI (a := (n / 65536)) (b := 16) (by omega) (by omega)).mpr q9)
          refine aw_iinc (v := 11) (L2 := [some (.int (nI (n / 65536))), some (.int 11)]) hC dJ6_numberOfLeadingZeros_0f7a4_54 rfl (by decide) (by decide) rfl ?_
          refine aw_iload_n hC dJ6_numberOfLeadingZeros_0f7a4_57 rfl ?_
          refine aw_iconst (v := 4) hC dJ6_numberOfLeadingZeros_0f7a4_58 (by decide) ?_
          refine aw_iushr hC dJ6_numberOfLeadingZeros_0f7a4_59 ?_
          rw [show ((nI (n / 65536)).toUInt32 >>> ((4 : Int32).toUInt32 &&& Int32.toUInt32 31)).toInt32 = nI ((n / 65536) / 16) from nush (s := 4) (by omega) (by decide)]
          refine aw_istore_n (L2 := [some (.int (nI ((n / 65536) / 16))), some (.int 11)]) hC dJ6_numberOfLeadingZeros_0f7a4_60 rfl (by decide) rfl ?_
          refine aw_iload_n hC dJ6_numberOfLeadingZeros_0f7a4_61 rfl ?_
          refine aw_iconst (v := 4) hC dJ6_numberOfLeadingZeros_0f7a4_62 (by decide) ?_
          refine aw_icmp_lt (tgt := 73) hC dJ6_numberOfLeadingZeros_0f7a4_63 (by decide) (fun h13 => ?_) (fun h13 => ?_)
          · show AW X 0 0 73 [some (.int (nI ((n / 65536) / 16))), some (.int 11)] [] T I J R
            have h13n : ((n / 65536) / 16) < 4 := (nI_ltI (a := ((n / 65536) / 16)) (b := 4) (by omega) (by omega)).mp h13
            refine aw_iload_n hC dJ6_numberOfLeadingZeros_0f7a4_73 rfl ?_
            refine aw_iload_n hC dJ6_numberOfLeadingZeros_0f7a4_74 rfl ?_
            refine aw_iconst (v := 1) hC dJ6_numberOfLeadingZeros_0f7a4_75 (by decide) ?_
            refine aw_iushr hC dJ6_numberOfLeadingZeros_0f7a4_76 ?_
            rw [show ((nI ((n / 65536) / 16)).toUInt32 >>> ((1 : Int32).toUInt32 &&& Int32.toUInt32 31)).toInt32 = nI (((n / 65536) / 16) / 2) from nush (s := 1) (by omega) (by decide)]
            refine aw_isub hC dJ6_numberOfLeadingZeros_0f7a4_77 ?_
            rw [show 11 - (nI (((n / 65536) / 16) / 2)) = nI (11 - (((n / 65536) / 16) / 2)) from pk_sub (a := 11) (b := (((n / 65536) / 16) / 2)) (by omega)]
            exact aw_ireturn hC hq rfl dJ6_numberOfLeadingZeros_0f7a4_78 a_le a_le (aPure_i (congrArg nI (by have h9 := bl_div (n := n) (s := 20) (i := n / 1048576) rfl (by omega) (by omega); omega)))
          · show AW X 0 0 66 [some (.int (nI ((n / 65536) / 16))), some (.int 11)] [] T I J R
            have h13n : ¬ ((n / 65536) / 16) < 4 := fun q9 => h13 ((nI_ltI (a := ((n / 65536) / 16)) (b := 4) (by omega) (by omega)).mpr q9)
            refine aw_iinc (v := 9) (L2 := [some (.int (nI ((n / 65536) / 16))), some (.int 9)]) hC dJ6_numberOfLeadingZeros_0f7a4_66 rfl (by decide) (by decide) rfl ?_
            refine aw_iload_n hC dJ6_numberOfLeadingZeros_0f7a4_69 rfl ?_
            refine aw_iconst (v := 2) hC dJ6_numberOfLeadingZeros_0f7a4_70 (by decide) ?_
            refine aw_iushr hC dJ6_numberOfLeadingZeros_0f7a4_71 ?_
            rw [show ((nI ((n / 65536) / 16)).toUInt32 >>> ((2 : Int32).toUInt32 &&& Int32.toUInt32 31)).toInt32 = nI (((n / 65536) / 16) / 4) from nush (s := 2) (by omega) (by decide)]
            refine aw_istore_n (L2 := [some (.int (nI (((n / 65536) / 16) / 4))), some (.int 9)]) hC dJ6_numberOfLeadingZeros_0f7a4_72 rfl (by decide) rfl ?_
            refine aw_iload_n hC dJ6_numberOfLeadingZeros_0f7a4_73 rfl ?_
            refine aw_iload_n hC dJ6_numberOfLeadingZeros_0f7a4_74 rfl ?_
            refine aw_iconst (v := 1) hC dJ6_numberOfLeadingZeros_0f7a4_75 (by decide) ?_
            refine aw_iushr hC dJ6_numberOfLeadingZeros_0f7a4_76 ?_
            rw [show ((nI (((n / 65536) / 16) / 4)).toUInt32 >>> ((1 : Int32).toUInt32 &&& Int32.toUInt32 31)).toInt32 = nI ((((n / 65536) / 16) / 4) / 2) from nush (s := 1) (by omega) (by decide)]
            refine aw_isub hC dJ6_numberOfLeadingZeros_0f7a4_77 ?_
            rw [show 9 - (nI ((((n / 65536) / 16) / 4) / 2)) = nI (9 - ((((n / 65536) / 16) / 4) / 2)) from pk_sub (a := 9) (b := ((((n / 65536) / 16) / 4) / 2)) (by omega)]
            exact aw_ireturn hC hq rfl dJ6_numberOfLeadingZeros_0f7a4_78 a_le a_le (aPure_i (congrArg nI (by have h9 := bl_div (n := n) (s := 22) (i := n / 4194304) rfl (by omega) (by omega); omega)))
      · show AW X 0 0 40 [some (.int (nI (n / 65536))), some (.int 15)] [] T I J R
        have h10n : ¬ (n / 65536) < 256 := fun q9 => h10 ((nI_ltI (a := (n / 65536)) (b := 256) (by omega) (by omega)).mpr q9)
        refine aw_iinc (v := 7) (L2 := [some (.int (nI (n / 65536))), some (.int 7)]) hC dJ6_numberOfLeadingZeros_0f7a4_40 rfl (by decide) (by decide) rfl ?_
        refine aw_iload_n hC dJ6_numberOfLeadingZeros_0f7a4_43 rfl ?_
        refine aw_bipush (v := 8) hC dJ6_numberOfLeadingZeros_0f7a4_44 (by decide) ?_
        refine aw_iushr hC dJ6_numberOfLeadingZeros_0f7a4_46 ?_
        rw [show ((nI (n / 65536)).toUInt32 >>> ((8 : Int32).toUInt32 &&& Int32.toUInt32 31)).toInt32 = nI ((n / 65536) / 256) from nush (s := 8) (by omega) (by decide)]
        refine aw_istore_n (L2 := [some (.int (nI ((n / 65536) / 256))), some (.int 7)]) hC dJ6_numberOfLeadingZeros_0f7a4_47 rfl (by decide) rfl ?_
        refine aw_iload_n hC dJ6_numberOfLeadingZeros_0f7a4_48 rfl ?_
        refine aw_bipush (v := 16) hC dJ6_numberOfLeadingZeros_0f7a4_49 (by decide) ?_
        refine aw_icmp_lt (tgt := 61) hC dJ6_numberOfLeadingZeros_0f7a4_51 (by decide) (fun h14 => ?_) (fun h14 => ?_)
        · show AW X 0 0 61 [some (.int (nI ((n / 65536) / 256))), some (.int 7)] [] T I J R
          have h14n : ((n / 65536) / 256) < 16 := (nI_ltI (a := ((n / 65536) / 256)) (b := 16) (by omega) (by omega)).mp h14
          refine aw_iload_n hC dJ6_numberOfLeadingZeros_0f7a4_61 rfl ?_
          refine aw_iconst (v := 4) hC dJ6_numberOfLeadingZeros_0f7a4_62 (by decide) ?_
          refine aw_icmp_lt (tgt := 73) hC dJ6_numberOfLeadingZeros_0f7a4_63 (by decide) (fun h15 => ?_) (fun h15 => ?_)
          · show AW X 0 0 73 [some (.int (nI ((n / 65536) / 256))), some (.int 7)] [] T I J R
            have h15n : ((n / 65536) / 256) < 4 := (nI_ltI (a := ((n / 65536) / 256)) (b := 4) (by omega) (by omega)).mp h15
            refine aw_iload_n hC dJ6_numberOfLeadingZeros_0f7a4_73 rfl ?_
            refine aw_iload_n hC dJ6_numberOfLeadingZeros_0f7a4_74 rfl ?_
            refine aw_iconst (v := 1) hC dJ6_numberOfLeadingZeros_0f7a4_75 (by decide) ?_
            refine aw_iushr hC dJ6_numberOfLeadingZeros_0f7a4_76 ?_
            rw [show ((nI ((n / 65536) / 256)).toUInt32 >>> ((1 : Int32).toUInt32 &&& Int32.toUInt32 31)).toInt32 = nI (((n / 65536) / 256) / 2) from nush (s := 1) (by omega) (by decide)]
            refine aw_isub hC dJ6_numberOfLeadingZeros_0f7a4_77 ?_
            rw [show 7 - (nI (((n / 65536) / 256) / 2)) = nI (7 - (((n / 65536) / 256) / 2)) from pk_sub (a := 7) (b := (((n / 65536) / 256) / 2)) (by omega)]
            exact aw_ireturn hC hq rfl dJ6_numberOfLeadingZeros_0f7a4_78 a_le a_le (aPure_i (congrArg nI (by have h9 := bl_div (n := n) (s := 24) (i := n / 16777216) rfl (by omega) (by omega); omega)))
          · show AW X 0 0 66 [some (.int (nI ((n / 65536) / 256))), some (.int 7)] [] T I J R
            have h15n : ¬ ((n / 65536) / 256) < 4 := fun q9 => h15 ((nI_ltI (a := ((n / 65536) / 256)) (b := 4) (by omega) (by omega)).mpr q9)
            refine aw_iinc (v := 5) (L2 := [some (.int (nI ((n / 65536) / 256))), some (.int 5)]) hC dJ6_numberOfLeadingZeros_0f7a4_66 rfl (by decide) (by decide) rfl ?_
            refine aw_iload_n hC dJ6_numberOfLeadingZeros_0f7a4_69 rfl ?_
            refine aw_iconst (v := 2) hC dJ6_numberOfLeadingZeros_0f7a4_70 (by decide) ?_
            refine aw_iushr hC dJ6_numberOfLeadingZeros_0f7a4_71 ?_
            rw [show ((nI ((n / 65536) / 256)).toUInt32 >>> ((2 : Int32).toUInt32 &&& Int32.toUInt32 31)).toInt32 = nI (((n / 65536) / 256) / 4) from nush (s := 2) (by omega) (by decide)]
            refine aw_istore_n (L2 := [some (.int (nI (((n / 65536) / 256) / 4))), some (.int 5)]) hC dJ6_numberOfLeadingZeros_0f7a4_72 rfl (by decide) rfl ?_
            refine aw_iload_n hC dJ6_numberOfLeadingZeros_0f7a4_73 rfl ?_
            refine aw_iload_n hC dJ6_numberOfLeadingZeros_0f7a4_74 rfl ?_
            refine aw_iconst (v := 1) hC dJ6_numberOfLeadingZeros_0f7a4_75 (by decide) ?_
            refine aw_iushr hC dJ6_numberOfLeadingZeros_0f7a4_76 ?_
            rw [show ((nI (((n / 65536) / 256) / 4)).toUInt32 >>> ((1 : Int32).toUInt32 &&& Int32.toUInt32 31)).toInt32 = nI ((((n / 65536) / 256) / 4) / 2) from nush (s := 1) (by omega) (by decide)]
            refine aw_isub hC dJ6_numberOfLeadingZeros_0f7a4_77 ?_
            rw [show 5 - (nI ((((n / 65536) / 256) / 4) / 2)) = nI (5 - ((((n / 65536) / 256) / 4) / 2)) from pk_sub (a := 5) (b := ((((n / 65536) / 256) / 4) / 2)) (by omega)]
            exact aw_ireturn hC hq rfl dJ6_numberOfLeadingZeros_0f7a4_78 a_le a_le (aPure_i (congrArg nI (by have h9 := bl_div (n := n) (s := 26) (i := n / 67108864) rfl (by omega) (by omega); omega)))
        · show AW X 0 0 54 [some (.int (nI ((n / 65536) / 256))), some (.int 7)] [] T I J R
          have h14n : ¬ ((n / 65536) / 256) < 16 := fun q9 => h14 ((nI_ltI (a := ((n / 65536) / 256)) (b := 16) (by omega) (by omega)).mpr q9)
          refine aw_iinc (v := 3) (L2 := [some (.int (nI ((n / 65536) / 256))), some (.int 3)]) hC dJ6_numberOfLeadingZeros_0f7a4_54 rfl (by decide) (by decide) rfl ?_
          refine aw_iload_n hC dJ6_numberOfLeadingZeros_0f7a4_57 rfl ?_
          refine aw_iconst (v := 4) hC dJ6_numberOfLeadingZeros_0f7a4_58 (by decide) ?_
          refine aw_iushr hC dJ6_numberOfLeadingZeros_0f7a4_59 ?_
          rw [show ((nI ((n / 65536) / 256)).toUInt32 >>> ((4 : Int32).toUInt32 &&& Int32.toUInt32 31)).toInt32 = nI (((n / 65536) / 256) / 16) from nush (s := 4) (by omega) (by decide)]
          refine aw_istore_n (L2 := [some (.int (nI (((n / 65536) / 256) / 16))), some (.int 3)]) hC dJ6_numberOfLeadingZeros_0f7a4_60 rfl (by decide) rfl ?_
          refine aw_iload_n hC dJ6_numberOfLeadingZeros_0f7a4_61 rfl ?_
          refine aw_iconst (v := 4) hC dJ6_numberOfLeadingZeros_0f7a4_62 (by decide) ?_
          refine aw_icmp_lt (tgt := 73) hC dJ6_numberOfLeadingZeros_0f7a4_63 (by decide) (fun h16 => ?_) (fun h16 => ?_)
          · show AW X 0 0 73 [some (.int (nI (((n / 65536) / 256) / 16))), some (.int 3)] [] T I J R
            have h16n : (((n / 65536) / 256) / 16) < 4 := (nI_ltI (a := (((n / 65536) / 256) / 16)) (b := 4) (by omega) (by omega)).mp h16
            refine aw_iload_n hC dJ6_numberOfLeadingZeros_0f7a4_73 rfl ?_
            refine aw_iload_n hC dJ6_numberOfLeadingZeros_0f7a4_74 rfl ?_
            refine aw_iconst (v := 1) hC dJ6_numberOfLeadingZeros_0f7a4_75 (by decide) ?_
            refine aw_iushr hC dJ6_numberOfLeadingZeros_0f7a4_76 ?_
            rw [show ((nI (((n / 65536) / 256) / 16)).toUInt32 >>> ((1 : Int32).toUInt32 &&& Int32.toUInt32 31)).toInt32 = nI ((((n / 65536) / 256) / 16) / 2) from nush (s := 1) (by omega) (by decide)]
            refine aw_isub hC dJ6_numberOfLeadingZeros_0f7a4_77 ?_
            rw [show 3 - (nI ((((n / 65536) / 256) / 16) / 2)) = nI (3 - ((((n / 65536) / 256) / 16) / 2)) from pk_sub (a := 3) (b := ((((n / 65536) / 256) / 16) / 2)) (by omega)]
            exact aw_ireturn hC hq rfl dJ6_numberOfLeadingZeros_0f7a4_78 a_le a_le (aPure_i (congrArg nI (by have h9 := bl_div (n := n) (s := 28) (i := n / 268435456) rfl (by omega) (by omega); omega)))
          · show AW X 0 0 66 [some (.int (nI (((n / 65536) / 256) / 16))), some (.int 3)] [] T I J R
            have h16n : ¬ (((n / 65536) / 256) / 16) < 4 := fun q9 => h16 ((nI_ltI (a := (((n / 65536) / 256) / 16)) (b := 4) (by omega) (by omega)).mpr q9)
            refine aw_iinc (v := 1) (L2 := [some (.int (nI (((n / 65536) / 256) / 16))), some (.int 1)]) hC dJ6_numberOfLeadingZeros_0f7a4_66 rfl (by decide) (by decide) rfl ?_
            refine aw_iload_n hC dJ6_numberOfLeadingZeros_0f7a4_69 rfl ?_
            refine aw_iconst (v := 2) hC dJ6_numberOfLeadingZeros_0f7a4_70 (by decide) ?_
            refine aw_iushr hC dJ6_numberOfLeadingZeros_0f7a4_71 ?_
            rw [show ((nI (((n / 65536) / 256) / 16)).toUInt32 >>> ((2 : Int32).toUInt32 &&& Int32.toUInt32 31)).toInt32 = nI ((((n / 65536) / 256) / 16) / 4) from nush (s := 2) (by omega) (by decide)]
            refine aw_istore_n (L2 := [some (.int (nI ((((n / 65536) / 256) / 16) / 4))), some (.int 1)]) hC dJ6_numberOfLeadingZeros_0f7a4_72 rfl (by decide) rfl ?_
            refine aw_iload_n hC dJ6_numberOfLeadingZeros_0f7a4_73 rfl ?_
            refine aw_iload_n hC dJ6_numberOfLeadingZeros_0f7a4_74 rfl ?_
            refine aw_iconst (v := 1) hC dJ6_numberOfLeadingZeros_0f7a4_75 (by decide) ?_
            refine aw_iushr hC dJ6_numberOfLeadingZeros_0f7a4_76 ?_
            rw [show ((nI ((((n / 65536) / 256) / 16) / 4)).toUInt32 >>> ((1 : Int32).toUInt32 &&& Int32.toUInt32 31)).toInt32 = nI (((((n / 65536) / 256) / 16) / 4) / 2) from nush (s := 1) (by omega) (by decide)]
            refine aw_isub hC dJ6_numberOfLeadingZeros_0f7a4_77 ?_
            rw [show 1 - (nI (((((n / 65536) / 256) / 16) / 4) / 2)) = nI (1 - (((((n / 65536) / 256) / 16) / 4) / 2)) from pk_sub (a := 1) (b := (((((n / 65536) / 256) / 16) / 4) / 2)) (by omega)]
            exact aw_ireturn hC hq rfl dJ6_numberOfLeadingZeros_0f7a4_78 a_le a_le (aPure_i (congrArg nI (by have h9 := bl_div (n := n) (s := 30) (i := n / 1073741824) rfl (by omega) (by omega); omega)))
  · show AW X 0 0 4 [some (.int (nI n)), none] [] T I J R
    have h1n : ¬ 0 < n := fun q9 => h1 ((nI_ltI (a := 0) (b := n) (by omega) (by omega)).mpr q9)
    exfalso; omega
set_option maxRecDepth 100000 in
theorem m_nlzN {T : List aT} {I : aI} {J : aJ} {R : aR} (x : Int32) (hx : x < 0) : MJ6_numberOfLeadingZeros_0f7a4 0 0 [.int x] T I J R (aPure (some (.int 0)) T I J R) := by
  refine a_met (by decide +kernel) a_le (fun X hC hq => ?_)
  show AW X 0 0 0 [some (.int x), none] [] T I J R
  refine aw_iload_n hC dJ6_numberOfLeadingZeros_0f7a4_0 rfl ?_
  refine aw_if_gt (tgt := 15) hC dJ6_numberOfLeadingZeros_0f7a4_1 (by decide) (fun h1 => ?_) (fun h1 => ?_)
  · show AW X 0 0 15 [some (.int x), none] [] T I J R
    exfalso; have h9 := (i_lt _ _).mp hx; have h8 := (i_lt _ _).mp (by assumption : (0 : Int32) < x); omega
  · show AW X 0 0 4 [some (.int x), none] [] T I J R
    refine aw_iload_n hC dJ6_numberOfLeadingZeros_0f7a4_4 rfl ?_
    refine aw_if_ne (tgt := 13) hC dJ6_numberOfLeadingZeros_0f7a4_5 (by decide) (fun h2 => ?_) (fun h2 => ?_)
    · show AW X 0 0 13 [some (.int x), none] [] T I J R
      refine aw_iconst (v := 0) hC dJ6_numberOfLeadingZeros_0f7a4_13 (by decide) ?_
      exact aw_ireturn hC hq rfl dJ6_numberOfLeadingZeros_0f7a4_14 a_le a_le (aPure_i rfl)
    · show AW X 0 0 8 [some (.int x), none] [] T I J R
      exfalso; have h9 := (by assumption : x = 0); rw [h9] at hx; exact absurd hx (by decide)
set_option maxRecDepth 100000 in
theorem m_nlz0 {T : List aT} {I : aI} {J : aJ} {R : aR}  : MJ6_numberOfLeadingZeros_0f7a4 0 0 [.int 0] T I J R (aPure (some (.int 32)) T I J R) := by
  refine a_met (by decide +kernel) a_le (fun X hC hq => ?_)
  show AW X 0 0 0 [some (.int 0), none] [] T I J R
  refine aw_iload_n hC dJ6_numberOfLeadingZeros_0f7a4_0 rfl ?_
  refine aw_if_gt (tgt := 15) hC dJ6_numberOfLeadingZeros_0f7a4_1 (by decide) (fun h1 => absurd h1 (by decide)) (fun _ => ?_)
  show AW X 0 0 4 [some (.int 0), none] [] T I J R
  refine aw_iload_n hC dJ6_numberOfLeadingZeros_0f7a4_4 rfl ?_
  refine aw_if_ne (tgt := 13) hC dJ6_numberOfLeadingZeros_0f7a4_5 (by decide) (fun h2 => absurd h2 (by decide)) (fun _ => ?_)
  show AW X 0 0 8 [some (.int 0), none] [] T I J R
  refine aw_bipush (v := 32) hC dJ6_numberOfLeadingZeros_0f7a4_8 (by decide) ?_
  refine aw_goto (tgt := 14) hC dJ6_numberOfLeadingZeros_0f7a4_10 (by decide) ?_
  exact aw_ireturn hC hq rfl dJ6_numberOfLeadingZeros_0f7a4_14 a_le a_le (aPure_i rfl)
theorem m_nlz {T : List aT} {I : aI} {J : aJ} {R : aR} (x : Int32) : MJ6_numberOfLeadingZeros_0f7a4 0 0 [.int x] T I J R (aPure (some (.int (nI (32 - bl (un x))))) T I J R) := by
  by_cases h : x < 0
  · have q := m_nlzN (T := T) (I := I) (J := J) (R := R) x h
    have h1 := un_neg h
    have h2 := un_lt x
    rwa [bl_of (n := un x) (L := 31) h1 h2]
  · have h1 := un_pos h
    rcases Nat.eq_zero_or_pos (un x) with z | z
    · have e : x = 0 := by rw [nI_un x, z]; rfl
      rw [e]; exact m_nlz0
    · have q := m_nlzP (T := T) (I := I) (J := J) (R := R) z h1
      rw [← nI_un x] at q; exact q
set_option maxRecDepth 100000 in
theorem m_ntzP {T : List aT} {I : aI} {J : aJ} {R : aR} {t : Nat} (ht0 : 0 < t) (ht : t < 32) {n : Nat} (hn9 : n = 2 ^ t - 1) (h0 : 0 < n) (hn : n < 2147483648) (x : Int32) (hx : (x ^^^ (-1)) &&& (x - 1) = nI n) : MJ6_numberOfTrailingZeros_0f7a4 0 0 [.int x] T I J R (aPure (some (.int (nI t))) T I J R) := by
  refine a_met (by decide +kernel) a_le (fun X hC hq => ?_)
  show AW X 0 0 0 [some (.int x), none] [] T I J R
  refine aw_iload_n hC dJ6_numberOfTrailingZeros_0f7a4_0 rfl ?_
  refine aw_iconst (v := (-1)) hC dJ6_numberOfTrailingZeros_0f7a4_1 (by decide) ?_
  refine aw_ixor hC dJ6_numberOfTrailingZeros_0f7a4_2 ?_
  refine aw_iload_n hC dJ6_numberOfTrailingZeros_0f7a4_3 rfl ?_
  refine aw_iconst (v := 1) hC dJ6_numberOfTrailingZeros_0f7a4_4 (by decide) ?_
  refine aw_isub hC dJ6_numberOfTrailingZeros_0f7a4_5 ?_
  refine aw_iand hC dJ6_numberOfTrailingZeros_0f7a4_6 ?_
  rw [hx]
  refine aw_istore_n (L2 := [some (.int (nI n)), none]) hC dJ6_numberOfTrailingZeros_0f7a4_7 rfl (by decide) rfl ?_
  refine aw_iload_n hC dJ6_numberOfTrailingZeros_0f7a4_8 rfl ?_
  refine aw_if_gt (tgt := 17) hC dJ6_numberOfTrailingZeros_0f7a4_9 (by decide) (fun h1 => ?_) (fun h1 => ?_)
  · show AW X 0 0 17 [some (.int (nI n)), none] [] T I J R
    have h1n : 0 < n := (nI_ltI (a := 0) (b := n) (by omega) (by omega)).mp h1
    refine aw_iconst (v := 1) hC dJ6_numberOfTrailingZeros_0f7a4_17 (by decide) ?_
    refine aw_istore_n (L2 := [some (.int (nI n)), some (.int 1)]) hC dJ6_numberOfTrailingZeros_0f7a4_18 rfl (by decide) rfl ?_
    refine aw_iload_n hC dJ6_numberOfTrailingZeros_0f7a4_19 rfl ?_
    refine aw_ldc_w (v := 65536) hC dJ6_numberOfTrailingZeros_0f7a4_20 gK_J6_264 ?_
    refine aw_icmp_le (tgt := 34) hC dJ6_numberOfTrailingZeros_0f7a4_23 (by decide) (fun h2 => ?_) (fun h2 => ?_)
    · show AW X 0 0 34 [some (.int (nI n)), some (.int 1)] [] T I J R
      have h2n : n ≤ 65536 := (nI_leI (a := n) (b := 65536) (by omega) (by omega)).mp h2
      refine aw_iload_n hC dJ6_numberOfTrailingZeros_0f7a4_34 rfl ?_
      refine aw_sipush (v := 256) hC dJ6_numberOfTrailingZeros_0f7a4_35 (by decide) ?_
      refine aw_icmp_le (tgt := 49) hC dJ6_numberOfTrailingZeros_0f7a4_38 (by decide) (fun h3 => ?_) (fun h3 => ?_)
      · show AW X 0 0 49 [some (.int (nI n)), some (.int 1)] [] T I J R
        have h3n : n ≤ 256 := (nI_leI (a := n) (b := 256) (by omega) (by omega)).mp h3
        refine aw_iload_n hC dJ6_numberOfTrailingZeros_0f7a4_49 rfl ?_
        refine aw_bipush (v := 16) hC dJ6_numberOfTrailingZeros_0f7a4_50 (by decide) ?_
        refine aw_icmp_le (tgt := 62) hC dJ6_numberOfTrailingZeros_0f7a4_52 (by decide) (fun h4 => ?_) (fun h4 => ?_)
        · show AW X 0 0 62 [some (.int (nI n)), some (.int 1)] [] T I J R
          have h4n : n ≤ 16 := (nI_leI (a := n) (b := 16) (by omega) (by omega)).mp h4
          refine aw_iload_n hC dJ6_numberOfTrailingZeros_0f7a4_62 rfl ?_
          refine aw_iconst (v := 4) hC dJ6_numberOfTrailingZeros_0f7a4_63 (by decide) ?_
          refine aw_icmp_le (tgt := 74) hC dJ6_numberOfTrailingZeros_0f7a4_64 (by decide) (fun h5 => ?_) (fun h5 => ?_)
          · show AW X 0 0 74 [some (.int (nI n)), some (.int 1)] [] T I J R
            have h5n : n ≤ 4 := (nI_leI (a := n) (b := 4) (by omega) (by omega)).mp h5
            refine aw_iload_n hC dJ6_numberOfTrailingZeros_0f7a4_74 rfl ?_
            refine aw_iload_n hC dJ6_numberOfTrailingZeros_0f7a4_75 rfl ?_
            refine aw_iconst (v := 1) hC dJ6_numberOfTrailingZeros_0f7a4_76 (by decide) ?_
            refine aw_iushr hC dJ6_numberOfTrailingZeros_0f7a4_77 ?_
            rw [show ((nI n).toUInt32 >>> ((1 : Int32).toUInt32 &&& Int32.toUInt32 31)).toInt32 = nI (n / 2) from nush (s := 1) (by omega) (by decide)]
            refine aw_iadd hC dJ6_numberOfTrailingZeros_0f7a4_78 ?_
            rw [show 1 + (nI (n / 2)) = nI (1 + (n / 2)) from nI_add 1 (n / 2)]
            exact aw_ireturn hC hq rfl dJ6_numberOfTrailingZeros_0f7a4_79 a_le a_le (aPure_i (congrArg nI (by clear hC hq; rcases (show t = 1 ∨ t = 2 ∨ t = 3 ∨ t = 4 ∨ t = 5 ∨ t = 6 ∨ t = 7 ∨ t = 8 ∨ t = 9 ∨ t = 10 ∨ t = 11 ∨ t = 12 ∨ t = 13 ∨ t = 14 ∨ t = 15 ∨ t = 16 ∨ t = 17 ∨ t = 18 ∨ t = 19 ∨ t = 20 ∨ t = 21 ∨ t = 22 ∨ t = 23 ∨ t = 24 ∨ t = 25 ∨ t = 26 ∨ t = 27 ∨ t = 28 ∨ t = 29 ∨ t = 30 ∨ t = 31 by omega) with rfl | rfl | rfl | rfl | rfl | rfl | rfl | rfl | rfl | rfl | rfl | rfl | rfl | rfl | rfl | rfl | rfl | rfl | rfl | rfl | rfl | rfl | rfl | rfl | rfl | rfl | rfl | rfl | rfl | rfl | rfl <;> omega)))
          · show AW X 0 0 67 [some (.int (nI n)), some (.int 1)] [] T I J R
            have h5n : ¬ n ≤ 4 := fun q9 => h5 ((nI_leI (a := n) (b := 4) (by omega) (by omega)).mpr q9)
            refine aw_iinc (v := 3) (L2 := [some (.int (nI n)), some (.int 3)]) hC dJ6_numberOfTrailingZeros_0f7a4_67 rfl (by decide) (by decide) rfl ?_
            refine aw_iload_n hC dJ6_numberOfTrailingZeros_0f7a4_70 rfl ?_
            refine aw_iconst (v := 2) hC dJ6_numberOfTrailingZeros_0f7a4_71 (by decide) ?_
            refine aw_iushr hC dJ6_numberOfTrailingZeros_0f7a4_72 ?_
            rw [show ((nI n).toUInt32 >>> ((2 : Int32).toUInt32 &&& Int32.toUInt32 31)).toInt32 = nI (n / 4) from nush (s := 2) (by omega) (by decide)]
            refine aw_istore_n (L2 := [some (.int (nI (n / 4))), some (.int 3)]) hC dJ6_numberOfTrailingZeros_0f7a4_73 rfl (by decide) rfl ?_
            refine aw_iload_n hC dJ6_numberOfTrailingZeros_0f7a4_74 rfl ?_
            refine aw_iload_n hC dJ6_numberOfTrailingZeros_0f7a4_75 rfl ?_
            refine aw_iconst (v := 1) hC dJ6_numberOfTrailingZeros_0f7a4_76 (by decide) ?_
            refine aw_iushr hC dJ6_numberOfTrailingZeros_0f7a4_77 ?_
            rw [show ((nI (n / 4)).toUInt32 >>> ((1 : Int32).toUInt32 &&& Int32.toUInt32 31)).toInt32 = nI ((n / 4) / 2) from nush (s := 1) (by omega) (by decide)]
            refine aw_iadd hC dJ6_numberOfTrailingZeros_0f7a4_78 ?_
            rw [show 3 + (nI ((n / 4) / 2)) = nI (3 + ((n / 4) / 2)) from nI_add 3 ((n / 4) / 2)]
            exact aw_ireturn hC hq rfl dJ6_numberOfTrailingZeros_0f7a4_79 a_le a_le (aPure_i (congrArg nI (by clear hC hq; rcases (show t = 1 ∨ t = 2 ∨ t = 3 ∨ t = 4 ∨ t = 5 ∨ t = 6 ∨ t = 7 ∨ t = 8 ∨ t = 9 ∨ t = 10 ∨ t = 11 ∨ t = 12 ∨ t = 13 ∨ t = 14 ∨ t = 15 ∨ t = 16 ∨ t = 17 ∨ t = 18 ∨ t = 19 ∨ t = 20 ∨ t = 21 ∨ t = 22 ∨ t = 23 ∨ t = 24 ∨ t = 25 ∨ t = 26 ∨ t = 27 ∨ t = 28 ∨ t = 29 ∨ t = 30 ∨ t = 31 by omega) with rfl | rfl | rfl | rfl | rfl | rfl | rfl | rfl | rfl | rfl | rfl | rfl | rfl | rfl | rfl | rfl | rfl | rfl | rfl | rfl | rfl | rfl | rfl | rfl | rfl | rfl | rfl | rfl | rfl | rfl | rfl <;> omega)))
        · show AW X 0 0 55 [some (.int (nI n)), some (.int 1)] [] T I J R
          have h4n : ¬ n ≤ 16 := fun q9 => h4 ((nI_leI (a := n) (b := 16) (by omega) (by omega)).mpr q9)
          refine aw_iinc (v := 5) (L2 := [some (.int (nI n)), some (.int 5)]) hC dJ6_numberOfTrailingZeros_0f7a4_55 rfl (by decide) (by decide) rfl ?_
          refine aw_iload_n hC dJ6_numberOfTrailingZeros_0f7a4_58 rfl ?_
          refine aw_iconst (v := 4) hC dJ6_numberOfTrailingZeros_0f7a4_59 (by decide) ?_
          refine aw_iushr hC dJ6_numberOfTrailingZeros_0f7a4_60 ?_
          rw [show ((nI n).toUInt32 >>> ((4 : Int32).toUInt32 &&& Int32.toUInt32 31)).toInt32 = nI (n / 16) from nush (s := 4) (by omega) (by decide)]
          refine aw_istore_n (L2 := [some (.int (nI (n / 16))), some (.int 5)]) hC dJ6_numberOfTrailingZeros_0f7a4_61 rfl (by decide) rfl ?_
          refine aw_iload_n hC dJ6_numberOfTrailingZeros_0f7a4_62 rfl ?_
          refine aw_iconst (v := 4) hC dJ6_numberOfTrailingZeros_0f7a4_63 (by decide) ?_
          refine aw_icmp_le (tgt := 74) hC dJ6_numberOfTrailingZeros_0f7a4_64 (by decide) (fun h6 => ?_) (fun h6 => ?_)
          · show AW X 0 0 74 [some (.int (nI (n / 16))), some (.int 5)] [] T I J R
            have h6n : (n / 16) ≤ 4 := (nI_leI (a := (n / 16)) (b := 4) (by omega) (by omega)).mp h6
            refine aw_iload_n hC dJ6_numberOfTrailingZeros_0f7a4_74 rfl ?_
            refine aw_iload_n hC dJ6_numberOfTrailingZeros_0f7a4_75 rfl ?_
            refine aw_iconst (v := 1) hC dJ6_numberOfTrailingZeros_0f7a4_76 (by decide) ?_
            refine aw_iushr hC dJ6_numberOfTrailingZeros_0f7a4_77 ?_
            rw [show ((nI (n / 16)).toUInt32 >>> ((1 : Int32).toUInt32 &&& Int32.toUInt32 31)).toInt32 = nI ((n / 16) / 2) from nush (s := 1) (by omega) (by decide)]
            refine aw_iadd hC dJ6_numberOfTrailingZeros_0f7a4_78 ?_
            rw [show 5 + (nI ((n / 16) / 2)) = nI (5 + ((n / 16) / 2)) from nI_add 5 ((n / 16) / 2)]
            exact aw_ireturn hC hq rfl dJ6_numberOfTrailingZeros_0f7a4_79 a_le a_le (aPure_i (congrArg nI (by clear hC hq; rcases (show t = 1 ∨ t = 2 ∨ t = 3 ∨ t = 4 ∨ t = 5 ∨ t = 6 ∨ t = 7 ∨ t = 8 ∨ t = 9 ∨ t = 10 ∨ t = 11 ∨ t = 12 ∨ t = 13 ∨ t = 14 ∨ t = 15 ∨ t = 16 ∨ t = 17 ∨ t = 18 ∨ t = 19 ∨ t = 20 ∨ t = 21 ∨ t = 22 ∨ t = 23 ∨ t = 24 ∨ t = 25 ∨ t = 26 ∨ t = 27 ∨ t = 28 ∨ t = 29 ∨ t = 30 ∨ t = 31 by omega) with rfl | rfl | rfl | rfl | rfl | rfl | rfl | rfl | rfl | rfl | rfl | rfl | rfl | rfl | rfl | rfl | rfl | rfl | rfl | rfl | rfl | rfl | rfl | rfl | rfl | rfl | rfl | rfl | rfl | rfl | rfl <;> omega)))
          · show AW X 0 0 67 [some (.int (nI (n / 16))), some (.int 5)] [] T I J R
            have h6n : ¬ (n / 16) ≤ 4 := fun q9 => h6 ((nI_leI (a := (n / 16)) (b := 4) (by omega) (by omega)).mpr q9)
            refine aw_iinc (v := 7) (L2 := [some (.int (nI (n / 16))), some (.int 7)]) hC dJ6_numberOfTrailingZeros_0f7a4_67 rfl (by decide) (by decide) rfl ?_
            refine aw_iload_n hC dJ6_numberOfTrailingZeros_0f7a4_70 rfl ?_
            refine aw_iconst (v := 2) hC dJ6_numberOfTrailingZeros_0f7a4_71 (by decide) ?_
            refine aw_iushr hC dJ6_numberOfTrailingZeros_0f7a4_72 ?_
            rw [show ((nI (n / 16)).toUInt32 >>> ((2 : Int32).toUInt32 &&& Int32.toUInt32 31)).toInt32 = nI ((n / 16) / 4) from nush (s := 2) (by omega) (by decide)]
            refine aw_istore_n (L2 := [some (.int (nI ((n / 16) / 4))), some (.int 7)]) hC dJ6_numberOfTrailingZeros_0f7a4_73 rfl (by decide) rfl ?_
            refine aw_iload_n hC dJ6_numberOfTrailingZeros_0f7a4_74 rfl ?_
            refine aw_iload_n hC dJ6_numberOfTrailingZeros_0f7a4_75 rfl ?_
            refine aw_iconst (v := 1) hC dJ6_numberOfTrailingZeros_0f7a4_76 (by decide) ?_
            refine aw_iushr hC dJ6_numberOfTrailingZeros_0f7a4_77 ?_
            rw [show ((nI ((n / 16) / 4)).toUInt32 >>> ((1 : Int32).toUInt32 &&& Int32.toUInt32 31)).toInt32 = nI (((n / 16) / 4) / 2) from nush (s := 1) (by omega) (by decide)]
            refine aw_iadd hC dJ6_numberOfTrailingZeros_0f7a4_78 ?_
            rw [show 7 + (nI (((n / 16) / 4) / 2)) = nI (7 + (((n / 16) / 4) / 2)) from nI_add 7 (((n / 16) / 4) / 2)]
            exact aw_ireturn hC hq rfl dJ6_numberOfTrailingZeros_0f7a4_79 a_le a_le (aPure_i (congrArg nI (by clear hC hq; rcases (show t = 1 ∨ t = 2 ∨ t = 3 ∨ t = 4 ∨ t = 5 ∨ t = 6 ∨ t = 7 ∨ t = 8 ∨ t = 9 ∨ t = 10 ∨ t = 11 ∨ t = 12 ∨ t = 13 ∨ t = 14 ∨ t = 15 ∨ t = 16 ∨ t = 17 ∨ t = 18 ∨ t = 19 ∨ t = 20 ∨ t = 21 ∨ t = 22 ∨ t = 23 ∨ t = 24 ∨ t = 25 ∨ t = 26 ∨ t = 27 ∨ t = 28 ∨ t = 29 ∨ t = 30 ∨ t = 31 by omega) with rfl | rfl | rfl | rfl | rfl | rfl | rfl | rfl | rfl | rfl | rfl | rfl | rfl | rfl | rfl | rfl | rfl | rfl | rfl | rfl | rfl | rfl | rfl | rfl | rfl | rfl | rfl | rfl | rfl | rfl | rfl <;> omega)))
      · show AW X 0 0 41 [some (.int (nI n)), some (.int 1)] [] T I J R
        have h3n : ¬ n ≤ 256 := fun q9 => h3 ((nI_leI (a := n) (b := 256) (by omega) (by omega)).mpr q9)
        refine aw_iinc (v := 9) (L2 := [some (.int (nI n)), some (.int 9)]) hC dJ6_numberOfTrailingZeros_0f7a4_41 rfl (by decide) (by decide) rfl ?_
        refine aw_iload_n hC dJ6_numberOfTrailingZeros_0f7a4_44 rfl ?_
        refine aw_bipush (v := 8) hC dJ6_numberOfTrailingZeros_0f7a4_45 (by decide) ?_
        refine aw_iushr hC dJ6_numberOfTrailingZeros_0f7a4_47 ?_
        rw [show ((nI n).toUInt32 >>> ((8 : Int32).toUInt32 &&& Int32.toUInt32 31)).toInt32 = nI (n / 256) from nush (s := 8) (by omega) (by decide)]
        refine aw_istore_n (L2 := [some (.int (nI (n / 256))), some (.int 9)]) hC dJ6_numberOfTrailingZeros_0f7a4_48 rfl (by decide) rfl ?_
        refine aw_iload_n hC dJ6_numberOfTrailingZeros_0f7a4_49 rfl ?_
        refine aw_bipush (v := 16) hC dJ6_numberOfTrailingZeros_0f7a4_50 (by decide) ?_
        refine aw_icmp_le (tgt := 62) hC dJ6_numberOfTrailingZeros_0f7a4_52 (by decide) (fun h7 => ?_) (fun h7 => ?_)
        · show AW X 0 0 62 [some (.int (nI (n / 256))), some (.int 9)] [] T I J R
          have h7n : (n / 256) ≤ 16 := (nI_leI (a := (n / 256)) (b := 16) (by omega) (by omega)).mp h7
          refine aw_iload_n hC dJ6_numberOfTrailingZeros_0f7a4_62 rfl ?_
          refine aw_iconst (v := 4) hC dJ6_numberOfTrailingZeros_0f7a4_63 (by decide) ?_
          refine aw_icmp_le (tgt := 74) hC dJ6_numberOfTrailingZeros_0f7a4_64 (by decide) (fun h8 => ?_) (fun h8 => ?_)
          · show AW X 0 0 74 [some (.int (nI (n / 256))), some (.int 9)] [] T I J R
            have h8n : (n / 256) ≤ 4 := (nI_leI (a := (n / 256)) (b := 4) (by omega) (by omega)).mp h8
            refine aw_iload_n hC dJ6_numberOfTrailingZeros_0f7a4_74 rfl ?_
            refine aw_iload_n hC dJ6_numberOfTrailingZeros_0f7a4_75 rfl ?_
            refine aw_iconst (v := 1) hC dJ6_numberOfTrailingZeros_0f7a4_76 (by decide) ?_
            refine aw_iushr hC dJ6_numberOfTrailingZeros_0f7a4_77 ?_
            rw [show ((nI (n / 256)).toUInt32 >>> ((1 : Int32).toUInt32 &&& Int32.toUInt32 31)).toInt32 = nI ((n / 256) / 2) from nush (s := 1) (by omega) (by decide)]
            refine aw_iadd hC dJ6_numberOfTrailingZeros_0f7a4_78 ?_
            rw [show 9 + (nI ((n / 256) / 2)) = nI (9 + ((n / 256) / 2)) from nI_add 9 ((n / 256) / 2)]
            exact aw_ireturn hC hq rfl dJ6_numberOfTrailingZeros_0f7a4_79 a_le a_le (aPure_i (congrArg nI (by clear hC hq; rcases (show t = 1 ∨ t = 2 ∨ t = 3 ∨ t = 4 ∨ t = 5 ∨ t = 6 ∨ t = 7 ∨ t = 8 ∨ t = 9 ∨ t = 10 ∨ t = 11 ∨ t = 12 ∨ t = 13 ∨ t = 14 ∨ t = 15 ∨ t = 16 ∨ t = 17 ∨ t = 18 ∨ t = 19 ∨ t = 20 ∨ t = 21 ∨ t = 22 ∨ t = 23 ∨ t = 24 ∨ t = 25 ∨ t = 26 ∨ t = 27 ∨ t = 28 ∨ t = 29 ∨ t = 30 ∨ t = 31 by omega) with rfl | rfl | rfl | rfl | rfl | rfl | rfl | rfl | rfl | rfl | rfl | rfl | rfl | rfl | rfl | rfl | rfl | rfl | rfl | rfl | rfl | rfl | rfl | rfl | rfl | rfl | rfl | rfl | rfl | rfl | rfl <;> omega)))
          · show AW X 0 0 67 [some (.int (nI (n / 256))), some (.int 9)] [] T I J R
            have h8n : ¬ (n / 256) ≤ 4 := fun q9 => h8 ((nI_leI (a := (n / 256)) (b := 4) (by omega) (by omega)).mpr q9)
            refine aw_iinc (v := 11) (L2 := [some (.int (nI (n / 256))), some (.int 11)]) hC dJ6_numberOfTrailingZeros_0f7a4_67 rfl (by decide) (by decide) rfl ?_
            refine aw_iload_n hC dJ6_numberOfTrailingZeros_0f7a4_70 rfl ?_
            refine aw_iconst (v := 2) hC dJ6_numberOfTrailingZeros_0f7a4_71 (by decide) ?_
            refine aw_iushr hC dJ6_numberOfTrailingZeros_0f7a4_72 ?_
            rw [show ((nI (n / 256)).toUInt32 >>> ((2 : Int32).toUInt32 &&& Int32.toUInt32 31)).toInt32 = nI ((n / 256) / 4) from nush (s := 2) (by omega) (by decide)]
            refine aw_istore_n (L2 := [some (.int (nI ((n / 256) / 4))), some (.int 11)]) hC dJ6_numberOfTrailingZeros_0f7a4_73 rfl (by decide) rfl ?_
            refine aw_iload_n hC dJ6_numberOfTrailingZeros_0f7a4_74 rfl ?_
            refine aw_iload_n hC dJ6_numberOfTrailingZeros_0f7a4_75 rfl ?_
            refine aw_iconst (v := 1) hC dJ6_numberOfTrailingZeros_0f7a4_76 (by decide) ?_
            refine aw_iushr hC dJ6_numberOfTrailingZeros_0f7a4_77 ?_
            rw [show ((nI ((n / 256) / 4)).toUInt32 >>> ((1 : Int32).toUInt32 &&& Int32.toUInt32 31)).toInt32 = nI (((n / 256) / 4) / 2) from nush (s := 1) (by omega) (by decide)]
            refine aw_iadd hC dJ6_numberOfTrailingZeros_0f7a4_78 ?_
            rw [show 11 + (nI (((n / 256) / 4) / 2)) = nI (11 + (((n / 256) / 4) / 2)) from nI_add 11 (((n / 256) / 4) / 2)]
            exact aw_ireturn hC hq rfl dJ6_numberOfTrailingZeros_0f7a4_79 a_le a_le (aPure_i (congrArg nI (by clear hC hq; rcases (show t = 1 ∨ t = 2 ∨ t = 3 ∨ t = 4 ∨ t = 5 ∨ t = 6 ∨ t = 7 ∨ t = 8 ∨ t = 9 ∨ t = 10 ∨ t = 11 ∨ t = 12 ∨ t = 13 ∨ t = 14 ∨ t = 15 ∨ t = 16 ∨ t = 17 ∨ t = 18 ∨ t = 19 ∨ t = 20 ∨ t = 21 ∨ t = 22 ∨ t = 23 ∨ t = 24 ∨ t = 25 ∨ t = 26 ∨ t = 27 ∨ t = 28 ∨ t = 29 ∨ t = 30 ∨ t = 31 by omega) with rfl | rfl | rfl | rfl | rfl | rfl | rfl | rfl | rfl | rfl | rfl | rfl | rfl | rfl | rfl | rfl | rfl | rfl | rfl | rfl | rfl | rfl | rfl | rfl | rfl | rfl | rfl | rfl | rfl | rfl | rfl <;> omega)))
        · show AW X 0 0 55 [some (.int (nI (n / 256))), some (.int 9)] [] T I J R
          have h7n : ¬ (n / 256) ≤ 16 := fun q9 => h7 ((nI_leI (a := (n / 256)) (b := 16) (by omega) (by omega)).mpr q9)
          refine aw_iinc (v := 13) (L2 := [some (.int (nI (n / 256))), some (.int 13)]) hC dJ6_numberOfTrailingZeros_0f7a4_55 rfl (by decide) (by decide) rfl ?_
          refine aw_iload_n hC dJ6_numberOfTrailingZeros_0f7a4_58 rfl ?_
          refine aw_iconst (v := 4) hC dJ6_numberOfTrailingZeros_0f7a4_59 (by decide) ?_
          refine aw_iushr hC dJ6_numberOfTrailingZeros_0f7a4_60 ?_
          rw [show ((nI (n / 256)).toUInt32 >>> ((4 : Int32).toUInt32 &&& Int32.toUInt32 31)).toInt32 = nI ((n / 256) / 16) from nush (s := 4) (by omega) (by decide)]
          refine aw_istore_n (L2 := [some (.int (nI ((n / 256) / 16))), some (.int 13)]) hC dJ6_numberOfTrailingZeros_0f7a4_61 rfl (by decide) rfl ?_
          refine aw_iload_n hC dJ6_numberOfTrailingZeros_0f7a4_62 rfl ?_
          refine aw_iconst (v := 4) hC dJ6_numberOfTrailingZeros_0f7a4_63 (by decide) ?_
          refine aw_icmp_le (tgt := 74) hC dJ6_numberOfTrailingZeros_0f7a4_64 (by decide) (fun h9 => ?_) (fun h9 => ?_)
          · show AW X 0 0 74 [some (.int (nI ((n / 256) / 16))), some (.int 13)] [] T I J R
            have h9n : ((n / 256) / 16) ≤ 4 := (nI_leI (a := ((n / 256) / 16)) (b := 4) (by omega) (by omega)).mp h9
            refine aw_iload_n hC dJ6_numberOfTrailingZeros_0f7a4_74 rfl ?_
            refine aw_iload_n hC dJ6_numberOfTrailingZeros_0f7a4_75 rfl ?_
            refine aw_iconst (v := 1) hC dJ6_numberOfTrailingZeros_0f7a4_76 (by decide) ?_
            refine aw_iushr hC dJ6_numberOfTrailingZeros_0f7a4_77 ?_
            rw [show ((nI ((n / 256) / 16)).toUInt32 >>> ((1 : Int32).toUInt32 &&& Int32.toUInt32 31)).toInt32 = nI (((n / 256) / 16) / 2) from nush (s := 1) (by omega) (by decide)]
            refine aw_iadd hC dJ6_numberOfTrailingZeros_0f7a4_78 ?_
            rw [show 13 + (nI (((n / 256) / 16) / 2)) = nI (13 + (((n / 256) / 16) / 2)) from nI_add 13 (((n / 256) / 16) / 2)]
            exact aw_ireturn hC hq rfl dJ6_numberOfTrailingZeros_0f7a4_79 a_le a_le (aPure_i (congrArg nI (by clear hC hq; rcases (show t = 1 ∨ t = 2 ∨ t = 3 ∨ t = 4 ∨ t = 5 ∨ t = 6 ∨ t = 7 ∨ t = 8 ∨ t = 9 ∨ t = 10 ∨ t = 11 ∨ t = 12 ∨ t = 13 ∨ t = 14 ∨ t = 15 ∨ t = 16 ∨ t = 17 ∨ t = 18 ∨ t = 19 ∨ t = 20 ∨ t = 21 ∨ t = 22 ∨ t = 23 ∨ t = 24 ∨ t = 25 ∨ t = 26 ∨ t = 27 ∨ t = 28 ∨ t = 29 ∨ t = 30 ∨ t = 31 by omega) with rfl | rfl | rfl | rfl | rfl | rfl | rfl | rfl | rfl | rfl | rfl | rfl | rfl | rfl | rfl | rfl | rfl | rfl | rfl | rfl | rfl | rfl | rfl | rfl | rfl | rfl | rfl | rfl | rfl | rfl | rfl <;> omega)))
          · show AW X 0 0 67 [some (.int (nI ((n / 256) / 16))), some (.int 13)] [] T I J R
            have h9n : ¬ ((n / 256) / 16) ≤ 4 := fun q9 => h9 ((nI_leI (a := ((n / 256) / 16)) (b := 4) (by omega) (by omega)).mpr q9)
            refine aw_iinc (v := 15) (L2 := [some (.int (nI ((n / 256) / 16))), some (.int 15)]) hC dJ6_numberOfTrailingZeros_0f7a4_67 rfl (by decide) (by decide) rfl ?_
            refine aw_iload_n hC dJ6_numberOfTrailingZeros_0f7a4_70 rfl ?_
            refine aw_iconst (v := 2) hC dJ6_numberOfTrailingZeros_0f7a4_71 (by decide) ?_
            refine aw_iushr hC dJ6_numberOfTrailingZeros_0f7a4_72 ?_
            rw [show ((nI ((n / 256) / 16)).toUInt32 >>> ((2 : Int32).toUInt32 &&& Int32.toUInt32 31)).toInt32 = nI (((n / 256) / 16) / 4) from nush (s := 2) (by omega) (by decide)]
            refine aw_istore_n (L2 := [some (.int (nI (((n / 256) / 16) / 4))), some (.int 15)]) hC dJ6_numberOfTrailingZeros_0f7a4_73 rfl (by decide) rfl ?_
            refine aw_iload_n hC dJ6_numberOfTrailingZeros_0f7a4_74 rfl ?_
            refine aw_iload_n hC dJ6_numberOfTrailingZeros_0f7a4_75 rfl ?_
            refine aw_iconst (v := 1) hC dJ6_numberOfTrailingZeros_0f7a4_76 (by decide) ?_
            refine aw_iushr hC dJ6_numberOfTrailingZeros_0f7a4_77 ?_
            rw [show ((nI (((n / 256) / 16) / 4)).toUInt32 >>> ((1 : Int32).toUInt32 &&& Int32.toUInt32 31)).toInt32 = nI ((((n / 256) / 16) / 4) / 2) from nush (s := 1) (by omega) (by decide)]
            refine aw_iadd hC dJ6_numberOfTrailingZeros_0f7a4_78 ?_
            rw [show 15 + (nI ((((n / 256) / 16) / 4) / 2)) = nI (15 + ((((n / 256) / 16) / 4) / 2)) from nI_add 15 ((((n / 256) / 16) / 4) / 2)]
            exact aw_ireturn hC hq rfl dJ6_numberOfTrailingZeros_0f7a4_79 a_le a_le (aPure_i (congrArg nI (by clear hC hq; rcases (show t = 1 ∨ t = 2 ∨ t = 3 ∨ t = 4 ∨ t = 5 ∨ t = 6 ∨ t = 7 ∨ t = 8 ∨ t = 9 ∨ t = 10 ∨ t = 11 ∨ t = 12 ∨ t = 13 ∨ t = 14 ∨ t = 15 ∨ t = 16 ∨ t = 17 ∨ t = 18 ∨ t = 19 ∨ t = 20 ∨ t = 21 ∨ t = 22 ∨ t = 23 ∨ t = 24 ∨ t = 25 ∨ t = 26 ∨ t = 27 ∨ t = 28 ∨ t = 29 ∨ t = 30 ∨ t = 31 by omega) with rfl | rfl | rfl | rfl | rfl | rfl | rfl | rfl | rfl | rfl | rfl | rfl | rfl | rfl | rfl | rfl | rfl | rfl | rfl | rfl | rfl | rfl | rfl | rfl | rfl | rfl | rfl | rfl | rfl | rfl | rfl <;> omega)))
    · show AW X 0 0 26 [some (.int (nI n)), some (.int 1)] [] T I J R
      have h2n : ¬ n ≤ 65536 := fun q9 => h2 ((nI_leI (a := n) (b := 65536) (by omega) (by omega)).mpr q9)
      refine aw_iinc (v := 17) (L2 := [some (.int (nI n)), some (.int 17)]) hC dJ6_numberOfTrailingZeros_0f7a4_26 rfl (by decide) (by decide) rfl ?_
      refine aw_iload_n hC dJ6_numberOfTrailingZeros_0f7a4_29 rfl ?_
      refine aw_bipush (v := 16) hC dJ6_numberOfTrailingZeros_0f7a4_30 (by decide) ?_
      refine aw_iushr hC dJ6_numberOfTrailingZeros_0f7a4_32 ?_
      rw [show ((nI n).toUInt32 >>> ((16 : Int32).toUInt32 &&& Int32.toUInt32 31)).toInt32 = nI (n / 65536) from nush (s := 16) (by omega) (by decide)]
      refine aw_istore_n (L2 := [some (.int (nI (n / 65536))), some (.int 17)]) hC dJ6_numberOfTrailingZeros_0f7a4_33 rfl (by decide) rfl ?_
      refine aw_iload_n hC dJ6_numberOfTrailingZeros_0f7a4_34 rfl ?_
      refine aw_sipush (v := 256) hC dJ6_numberOfTrailingZeros_0f7a4_35 (by decide) ?_
      refine aw_icmp_le (tgt := 49) hC dJ6_numberOfTrailingZeros_0f7a4_38 (by decide) (fun h10 => ?_) (fun h10 => ?_)
      · show AW X 0 0 49 [some (.int (nI (n / 65536))), some (.int 17)] [] T I J R
        have h10n : (n / 65536) ≤ 256 := (nI_leI (a := (n / 65536)) (b := 256) (by omega) (by omega)).mp h10
        refine aw_iload_n hC dJ6_numberOfTrailingZeros_0f7a4_49 rfl ?_
        refine aw_bipush (v := 16) hC dJ6_numberOfTrailingZeros_0f7a4_50 (by decide) ?_
        refine aw_icmp_le (tgt := 62) hC dJ6_numberOfTrailingZeros_0f7a4_52 (by decide) (fun h11 => ?_) (fun h11 => ?_)
        · show AW X 0 0 62 [some (.int (nI (n / 65536))), some (.int 17)] [] T I J R
          have h11n : (n / 65536) ≤ 16 := (nI_leI (a := (n / 65536)) (b := 16) (by omega) (by omega)).mp h11
          refine aw_iload_n hC dJ6_numberOfTrailingZeros_0f7a4_62 rfl ?_
          refine aw_iconst (v := 4) hC dJ6_numberOfTrailingZeros_0f7a4_63 (by decide) ?_
          refine aw_icmp_le (tgt := 74) hC dJ6_numberOfTrailingZeros_0f7a4_64 (by decide) (fun h12 => ?_) (fun h12 => ?_)
          · show AW X 0 0 74 [some (.int (nI (n / 65536))), some (.int 17)] [] T I J R
            have h12n : (n / 65536) ≤ 4 := (nI_leI (a := (n / 65536)) (b := 4) (by omega) (by omega)).mp h12
            refine aw_iload_n hC dJ6_numberOfTrailingZeros_0f7a4_74 rfl ?_
            refine aw_iload_n hC dJ6_numberOfTrailingZeros_0f7a4_75 rfl ?_
            refine aw_iconst (v := 1) hC dJ6_numberOfTrailingZeros_0f7a4_76 (by decide) ?_
            refine aw_iushr hC dJ6_numberOfTrailingZeros_0f7a4_77 ?_
            rw [show ((nI (n / 65536)).toUInt32 >>> ((1 : Int32).toUInt32 &&& Int32.toUInt32 31)).toInt32 = nI ((n / 65536) / 2) from nush (s := 1) (by omega) (by decide)]
            refine aw_iadd hC dJ6_numberOfTrailingZeros_0f7a4_78 ?_
            rw [show 17 + (nI ((n / 65536) / 2)) = nI (17 + ((n / 65536) / 2)) from nI_add 17 ((n / 65536) / 2)]
            exact aw_ireturn hC hq rfl dJ6_numberOfTrailingZeros_0f7a4_79 a_le a_le (aPure_i (congrArg nI (by clear hC hq; rcases (show t = 1 ∨ t = 2 ∨ t = 3 ∨ t = 4 ∨ t = 5 ∨ t = 6 ∨ t = 7 ∨ t = 8 ∨ t = 9 ∨ t = 10 ∨ t = 11 ∨ t = 12 ∨ t = 13 ∨ t = 14 ∨ t = 15 ∨ t = 16 ∨ t = 17 ∨ t = 18 ∨ t = 19 ∨ t = 20 ∨ t = 21 ∨ t = 22 ∨ t = 23 ∨ t = 24 ∨ t = 25 ∨ t = 26 ∨ t = 27 ∨ t = 28 ∨ t = 29 ∨ t = 30 ∨ t = 31 by omega) with rfl | rfl | rfl | rfl | rfl | rfl | rfl | rfl | rfl | rfl | rfl | rfl | rfl | rfl | rfl | rfl | rfl | rfl | rfl | rfl | rfl | rfl | rfl | rfl | rfl | rfl | rfl | rfl | rfl | rfl | rfl <;> omega)))
          · show AW X 0 0 67 [some (.int (nI (n / 65536))), some (.int 17)] [] T I J R
            have h12n : ¬ (n / 65536) ≤ 4 := fun q9 => h12 ((nI_leI (a := (n / 65536)) (b := 4) (by omega) (by omega)).mpr q9)
            refine aw_iinc (v := 19) (L2 := [some (.int (nI (n / 65536))), some (.int 19)]) hC dJ6_numberOfTrailingZeros_0f7a4_67 rfl (by decide) (by decide) rfl ?_
            refine aw_iload_n hC dJ6_numberOfTrailingZeros_0f7a4_70 rfl ?_
            refine aw_iconst (v := 2) hC dJ6_numberOfTrailingZeros_0f7a4_71 (by decide) ?_
            refine aw_iushr hC dJ6_numberOfTrailingZeros_0f7a4_72 ?_
            rw [show ((nI (n / 65536)).toUInt32 >>> ((2 : Int32).toUInt32 &&& Int32.toUInt32 31)).toInt32 = nI ((n / 65536) / 4) from nush (s := 2) (by omega) (by decide)]
            refine aw_istore_n (L2 := [some (.int (nI ((n / 65536) / 4))), some (.int 19)]) hC dJ6_numberOfTrailingZeros_0f7a4_73 rfl (by decide) rfl ?_
            refine aw_iload_n hC dJ6_numberOfTrailingZeros_0f7a4_74 rfl ?_
            refine aw_iload_n hC dJ6_numberOfTrailingZeros_0f7a4_75 rfl ?_
            refine aw_iconst (v := 1) hC dJ6_numberOfTrailingZeros_0f7a4_76 (by decide) ?_
            refine aw_iushr hC dJ6_numberOfTrailingZeros_0f7a4_77 ?_
            rw [show ((nI ((n / 65536) / 4)).toUInt32 >>> ((1 : Int32).toUInt32 &&& Int32.toUInt32 31)).toInt32 = nI (((n / 65536) / 4) / 2) from nush (s := 1) (by omega) (by decide)]
            refine aw_iadd hC dJ6_numberOfTrailingZeros_0f7a4_78 ?_
            rw [show 19 + (nI (((n / 65536) / 4) / 2)) = nI (19 + (((n / 65536) / 4) / 2)) from nI_add 19 (((n / 65536) / 4) / 2)]
            exact aw_ireturn hC hq rfl dJ6_numberOfTrailingZeros_0f7a4_79 a_le a_le (aPure_i (congrArg nI (by clear hC hq; rcases (show t = 1 ∨ t = 2 ∨ t = 3 ∨ t = 4 ∨ t = 5 ∨ t = 6 ∨ t = 7 ∨ t = 8 ∨ t = 9 ∨ t = 10 ∨ t = 11 ∨ t = 12 ∨ t = 13 ∨ t = 14 ∨ t = 15 ∨ t = 16 ∨ t = 17 ∨ t = 18 ∨ t = 19 ∨ t = 20 ∨ t = 21 ∨ t = 22 ∨ t = 23 ∨ t = 24 ∨ t = 25 ∨ t = 26 ∨ t = 27 ∨ t = 28 ∨ t = 29 ∨ t = 30 ∨ t = 31 by omega) with rfl | rfl | rfl | rfl | rfl | rfl | rfl | rfl | rfl | rfl | rfl | rfl | rfl | rfl | rfl | rfl | rfl | rfl | rfl | rfl | rfl | rfl | rfl | rfl | rfl | rfl | rfl | rfl | rfl | rfl | rfl <;> omega)))
        · show AW X 0 0 55 [some (.int (nI (n / 65536))), some (.int 17)] [] T I J R
          have h11n : ¬ (n / 65536) ≤ 16 := fun q9 => h11 ((nI_leI (a := (n / 65536)) (b := 16) (by omega) (by omega)).mpr q9)
          refine aw_iinc (v := 21) (L2 := [some (.int (nI (n / 65536))), some (.int 21)]) hC dJ6_numberOfTrailingZeros_0f7a4_55 rfl (by decide) (by decide) rfl ?_
          refine aw_iload_n hC dJ6_numberOfTrailingZeros_0f7a4_58 rfl ?_
          refine aw_iconst (v := 4) hC dJ6_numberOfTrailingZeros_0f7a4_59 (by decide) ?_
          refine aw_iushr hC dJ6_numberOfTrailingZeros_0f7a4_60 ?_
          rw [show ((nI (n / 65536)).toUInt32 >>> ((4 : Int32).toUInt32 &&& Int32.toUInt32 31)).toInt32 = nI ((n / 65536) / 16) from nush (s := 4) (by omega) (by decide)]
          refine aw_istore_n (L2 := [some (.int (nI ((n / 65536) / 16))), some (.int 21)]) hC dJ6_numberOfTrailingZeros_0f7a4_61 rfl (by decide) rfl ?_
          refine aw_iload_n hC dJ6_numberOfTrailingZeros_0f7a4_62 rfl ?_
          refine aw_iconst (v := 4) hC dJ6_numberOfTrailingZeros_0f7a4_63 (by decide) ?_
          refine aw_icmp_le (tgt := 74) hC dJ6_numberOfTrailingZeros_0f7a4_64 (by decide) (fun h13 => ?_) (fun h13 => ?_)
          · show AW X 0 0 74 [some (.int (nI ((n / 65536) / 16))), some (.int 21)] [] T I J R
            have h13n : ((n / 65536) / 16) ≤ 4 := (nI_leI (a := ((n / 65536) / 16)) (b := 4) (by omega) (by omega)).mp h13
            refine aw_iload_n hC dJ6_numberOfTrailingZeros_0f7a4_74 rfl ?_
            refine aw_iload_n hC dJ6_numberOfTrailingZeros_0f7a4_75 rfl ?_
            refine aw_iconst (v := 1) hC dJ6_numberOfTrailingZeros_0f7a4_76 (by decide) ?_
            refine aw_iushr hC dJ6_numberOfTrailingZeros_0f7a4_77 ?_
            rw [show ((nI ((n / 65536) / 16)).toUInt32 >>> ((1 : Int32).toUInt32 &&& Int32.toUInt32 31)).toInt32 = nI (((n / 65536) / 16) / 2) from nush (s := 1) (by omega) (by decide)]
            refine aw_iadd hC dJ6_numberOfTrailingZeros_0f7a4_78 ?_
            rw [show 21 + (nI (((n / 65536) / 16) / 2)) = nI (21 + (((n / 65536) / 16) / 2)) from nI_add 21 (((n / 65536) / 16) / 2)]
            exact aw_ireturn hC hq rfl dJ6_numberOfTrailingZeros_0f7a4_79 a_le a_le (aPure_i (congrArg nI (by clear hC hq; rcases (show t = 1 ∨ t = 2 ∨ t = 3 ∨ t = 4 ∨ t = 5 ∨ t = 6 ∨ t = 7 ∨ t = 8 ∨ t = 9 ∨ t = 10 ∨ t = 11 ∨ t = 12 ∨ t = 13 ∨ t = 14 ∨ t = 15 ∨ t = 16 ∨ t = 17 ∨ t = 18 ∨ t = 19 ∨ t = 20 ∨ t = 21 ∨ t = 22 ∨ t = 23 ∨ t = 24 ∨ t = 25 ∨ t = 26 ∨ t = 27 ∨ t = 28 ∨ t = 29 ∨ t = 30 ∨ t = 31 by omega) with rfl | rfl | rfl | rfl | rfl | rfl | rfl | rfl | rfl | rfl | rfl | rfl | rfl | rfl | rfl | rfl | rfl | rfl | rfl | rfl | rfl | rfl | rfl | rfl | rfl | rfl | rfl | rfl | rfl | rfl | rfl <;> omega)))
          · show AW X 0 0 67 [some (.int (nI ((n / 65536) / 16))), some (.int 21)] [] T I J R
            have h13n : ¬ ((n / 65536) / 16) ≤ 4 := fun q9 => h13 ((nI_leI (a := ((n / 65536) / 16)) (b := 4) (by omega) (by omega)).mpr q9)
            refine aw_iinc (v := 23) (L2 := [some (.int (nI ((n / 65536) / 16))), some (.int 23)]) hC dJ6_numberOfTrailingZeros_0f7a4_67 rfl (by decide) (by decide) rfl ?_
            refine aw_iload_n hC dJ6_numberOfTrailingZeros_0f7a4_70 rfl ?_
            refine aw_iconst (v := 2) hC dJ6_numberOfTrailingZeros_0f7a4_71 (by decide) ?_
            refine aw_iushr hC dJ6_numberOfTrailingZeros_0f7a4_72 ?_
            rw [show ((nI ((n / 65536) / 16)).toUInt32 >>> ((2 : Int32).toUInt32 &&& Int32.toUInt32 31)).toInt32 = nI (((n / 65536) / 16) / 4) from nush (s := 2) (by omega) (by decide)]
            refine aw_istore_n (L2 := [some (.int (nI (((n / 65536) / 16) / 4))), some (.int 23)]) hC dJ6_numberOfTrailingZeros_0f7a4_73 rfl (by decide) rfl ?_
            refine aw_iload_n hC dJ6_numberOfTrailingZeros_0f7a4_74 rfl ?_
            refine aw_iload_n hC dJ6_numberOfTrailingZeros_0f7a4_75 rfl ?_
            refine aw_iconst (v := 1) hC dJ6_numberOfTrailingZeros_0f7a4_76 (by decide) ?_
            refine aw_iushr hC dJ6_numberOfTrailingZeros_0f7a4_77 ?_
            rw [show ((nI (((n / 65536) / 16) / 4)).toUInt32 >>> ((1 : Int32).toUInt32 &&& Int32.toUInt32 31)).toInt32 = nI ((((n / 65536) / 16) / 4) / 2) from nush (s := 1) (by omega) (by decide)]
            refine aw_iadd hC dJ6_numberOfTrailingZeros_0f7a4_78 ?_
            rw [show 23 + (nI ((((n / 65536) / 16) / 4) / 2)) = nI (23 + ((((n / 65536) / 16) / 4) / 2)) from nI_add 23 ((((n / 65536) / 16) / 4) / 2)]
            exact aw_ireturn hC hq rfl dJ6_numberOfTrailingZeros_0f7a4_79 a_le a_le (aPure_i (congrArg nI (by clear hC hq; rcases (show t = 1 ∨ t = 2 ∨ t = 3 ∨ t = 4 ∨ t = 5 ∨ t = 6 ∨ t = 7 ∨ t = 8 ∨ t = 9 ∨ t = 10 ∨ t = 11 ∨ t = 12 ∨ t = 13 ∨ t = 14 ∨ t = 15 ∨ t = 16 ∨ t = 17 ∨ t = 18 ∨ t = 19 ∨ t = 20 ∨ t = 21 ∨ t = 22 ∨ t = 23 ∨ t = 24 ∨ t = 25 ∨ t = 26 ∨ t = 27 ∨ t = 28 ∨ t = 29 ∨ t = 30 ∨ t = 31 by omega) with rfl | rfl | rfl | rfl | rfl | rfl | rfl | rfl | rfl | rfl | rfl | rfl | rfl | rfl | rfl | rfl | rfl | rfl | rfl | rfl | rfl | rfl | rfl | rfl | rfl | rfl | rfl | rfl | rfl | rfl | rfl <;> omega)))
      · show AW X 0 0 41 [some (.int (nI (n / 65536))), some (.int 17)] [] T I J R
        have h10n : ¬ (n / 65536) ≤ 256 := fun q9 => h10 ((nI_leI (a := (n / 65536)) (b := 256) (by omega) (by omega)).mpr q9)
        refine aw_iinc (v := 25) (L2 := [some (.int (nI (n / 65536))), some (.int 25)]) hC dJ6_numberOfTrailingZeros_0f7a4_41 rfl (by decide) (by decide) rfl ?_
        refine aw_iload_n hC dJ6_numberOfTrailingZeros_0f7a4_44 rfl ?_
        refine aw_bipush (v := 8) hC dJ6_numberOfTrailingZeros_0f7a4_45 (by decide) ?_
        refine aw_iushr hC dJ6_numberOfTrailingZeros_0f7a4_47 ?_
        rw [show ((nI (n / 65536)).toUInt32 >>> ((8 : Int32).toUInt32 &&& Int32.toUInt32 31)).toInt32 = nI ((n / 65536) / 256) from nush (s := 8) (by omega) (by decide)]
        refine aw_istore_n (L2 := [some (.int (nI ((n / 65536) / 256))), some (.int 25)]) hC dJ6_numberOfTrailingZeros_0f7a4_48 rfl (by decide) rfl ?_
        refine aw_iload_n hC dJ6_numberOfTrailingZeros_0f7a4_49 rfl ?_
        refine aw_bipush (v := 16) hC dJ6_numberOfTrailingZeros_0f7a4_50 (by decide) ?_
        refine aw_icmp_le (tgt := 62) hC dJ6_numberOfTrailingZeros_0f7a4_52 (by decide) (fun h14 => ?_) (fun h14 => ?_)
        · show AW X 0 0 62 [some (.int (nI ((n / 65536) / 256))), some (.int 25)] [] T I J R
          have h14n : ((n / 65536) / 256) ≤ 16 := (nI_leI (a := ((n / 65536) / 256)) (b := 16) (by omega) (by omega)).mp h14
          refine aw_iload_n hC dJ6_numberOfTrailingZeros_0f7a4_62 rfl ?_
          refine aw_iconst (v := 4) hC dJ6_numberOfTrailingZeros_0f7a4_63 (by decide) ?_
          refine aw_icmp_le (tgt := 74) hC dJ6_numberOfTrailingZeros_0f7a4_64 (by decide) (fun h15 => ?_) (fun h15 => ?_)
          · show AW X 0 0 74 [some (.int (nI ((n / 65536) / 256))), some (.int 25)] [] T I J R
            have h15n : ((n / 65536) / 256) ≤ 4 := (nI_leI (a := ((n / 65536) / 256)) (b := 4) (by omega) (by omega)).mp h15
            refine aw_iload_n hC dJ6_numberOfTrailingZeros_0f7a4_74 rfl ?_
            refine aw_iload_n hC dJ6_numberOfTrailingZeros_0f7a4_75 rfl ?_
            refine aw_iconst (v := 1) hC dJ6_numberOfTrailingZeros_0f7a4_76 (by decide) ?_
            refine aw_iushr hC dJ6_numberOfTrailingZeros_0f7a4_77 ?_
            rw [show ((nI ((n / 65536) / 256)).toUInt32 >>> ((1 : Int32).toUInt32 &&& Int32.toUInt32 31)).toInt32 = nI (((n / 65536) / 256) / 2) from nush (s := 1) (by omega) (by decide)]
            refine aw_iadd hC dJ6_numberOfTrailingZeros_0f7a4_78 ?_
            rw [show 25 + (nI (((n / 65536) / 256) / 2)) = nI (25 + (((n / 65536) / 256) / 2)) from nI_add 25 (((n / 65536) / 256) / 2)]
            exact aw_ireturn hC hq rfl dJ6_numberOfTrailingZeros_0f7a4_79 a_le a_le (aPure_i (congrArg nI (by clear hC hq; rcases (show t = 1 ∨ t = 2 ∨ t = 3 ∨ t = 4 ∨ t = 5 ∨ t = 6 ∨ t = 7 ∨ t = 8 ∨ t = 9 ∨ t = 10 ∨ t = 11 ∨ t = 12 ∨ t = 13 ∨ t = 14 ∨ t = 15 ∨ t = 16 ∨ t = 17 ∨ t = 18 ∨ t = 19 ∨ t = 20 ∨ t = 21 ∨ t = 22 ∨ t = 23 ∨ t = 24 ∨ t = 25 ∨ t = 26 ∨ t = 27 ∨ t = 28 ∨ t = 29 ∨ t = 30 ∨ t = 31 by omega) with rfl | rfl | rfl | rfl | rfl | rfl | rfl | rfl | rfl | rfl | rfl | rfl | rfl | rfl | rfl | rfl | rfl | rfl | rfl | rfl | rfl | rfl | rfl | rfl | rfl | rfl | rfl | rfl | rfl | rfl | rfl <;> omega)))
          · show AW X 0 0 67 [some (.int (nI ((n / 65536) / 256))), some (.int 25)] [] T I J R
            have h15n : ¬ ((n / 65536) / 256) ≤ 4 := fun q9 => h15 ((nI_leI (a := ((n / 65536) / 256)) (b := 4) (by omega) (by omega)).mpr q9)
            refine aw_iinc (v := 27) (L2 := [some (.int (nI ((n / 65536) / 256))), some (.int 27)]) hC dJ6_numberOfTrailingZeros_0f7a4_67 rfl (by decide) (by decide) rfl ?_
            refine aw_iload_n hC dJ6_numberOfTrailingZeros_0f7a4_70 rfl ?_
            refine aw_iconst (v := 2) hC dJ6_numberOfTrailingZeros_0f7a4_71 (by decide) ?_
            refine aw_iushr hC dJ6_numberOfTrailingZeros_0f7a4_72 ?_
            rw [show ((nI ((n / 65536) / 256)).toUInt32 >>> ((2 : Int32).toUInt32 &&& Int32.toUInt32 31)).toInt32 = nI (((n / 65536) / 256) / 4) from nush (s := 2) (by omega) (by decide)]
            refine aw_istore_n (L2 := [some (.int (nI (((n / 65536) / 256) / 4))), some (.int 27)]) hC dJ6_numberOfTrailingZeros_0f7a4_73 rfl (by decide) rfl ?_
            refine aw_iload_n hC dJ6_numberOfTrailingZeros_0f7a4_74 rfl ?_
            refine aw_iload_n hC dJ6_numberOfTrailingZeros_0f7a4_75 rfl ?_
            refine aw_iconst (v := 1) hC dJ6_numberOfTrailingZeros_0f7a4_76 (by decide) ?_
            refine aw_iushr hC dJ6_numberOfTrailingZeros_0f7a4_77 ?_
            rw [show ((nI (((n / 65536) / 256) / 4)).toUInt32 >>> ((1 : Int32).toUInt32 &&& Int32.toUInt32 31)).toInt32 = nI ((((n / 65536) / 256) / 4) / 2) from nush (s := 1) (by omega) (by decide)]
            refine aw_iadd hC dJ6_numberOfTrailingZeros_0f7a4_78 ?_
            rw [show 27 + (nI ((((n / 65536) / 256) / 4) / 2)) = nI (27 + ((((n / 65536) / 256) / 4) / 2)) from nI_add 27 ((((n / 65536) / 256) / 4) / 2)]
            exact aw_ireturn hC hq rfl dJ6_numberOfTrailingZeros_0f7a4_79 a_le a_le (aPure_i (congrArg nI (by clear hC hq; rcases (show t = 1 ∨ t = 2 ∨ t = 3 ∨ t = 4 ∨ t = 5 ∨ t = 6 ∨ t = 7 ∨ t = 8 ∨ t = 9 ∨ t = 10 ∨ t = 11 ∨ t = 12 ∨ t = 13 ∨ t = 14 ∨ t = 15 ∨ t = 16 ∨ t = 17 ∨ t = 18 ∨ t = 19 ∨ t = 20 ∨ t = 21 ∨ t = 22 ∨ t = 23 ∨ t = 24 ∨ t = 25 ∨ t = 26 ∨ t = 27 ∨ t = 28 ∨ t = 29 ∨ t = 30 ∨ t = 31 by omega) with rfl | rfl | rfl | rfl | rfl | rfl | rfl | rfl | rfl | rfl | rfl | rfl | rfl | rfl | rfl | rfl | rfl | rfl | rfl | rfl | rfl | rfl | rfl | rfl | rfl | rfl | rfl | rfl | rfl | rfl | rfl <;> omega)))
        · show AW X 0 0 55 [some (.int (nI ((n / 65536) / 256))), some (.int 25)] [] T I J R
          have h14n : ¬ ((n / 65536) / 256) ≤ 16 := fun q9 => h14 ((nI_leI (a := ((n / 65536) / 256)) (b := 16) (by omega) (by omega)).mpr q9)
          refine aw_iinc (v := 29) (L2 := [some (.int (nI ((n / 65536) / 256))), some (.int 29)]) hC dJ6_numberOfTrailingZeros_0f7a4_55 rfl (by decide) (by decide) rfl ?_
          refine aw_iload_n hC dJ6_numberOfTrailingZeros_0f7a4_58 rfl ?_
          refine aw_iconst (v := 4) hC dJ6_numberOfTrailingZeros_0f7a4_59 (by decide) ?_
          refine aw_iushr hC dJ6_numberOfTrailingZeros_0f7a4_60 ?_
          rw [show ((nI ((n / 65536) / 256)).toUInt32 >>> ((4 : Int32).toUInt32 &&& Int32.toUInt32 31)).toInt32 = nI (((n / 65536) / 256) / 16) from nush (s := 4) (by omega) (by decide)]
          refine aw_istore_n (L2 := [some (.int (nI (((n / 65536) / 256) / 16))), some (.int 29)]) hC dJ6_numberOfTrailingZeros_0f7a4_61 rfl (by decide) rfl ?_
          refine aw_iload_n hC dJ6_numberOfTrailingZeros_0f7a4_62 rfl ?_
          refine aw_iconst (v := 4) hC dJ6_numberOfTrailingZeros_0f7a4_63 (by decide) ?_
          refine aw_icmp_le (tgt := 74) hC dJ6_numberOfTrailingZeros_0f7a4_64 (by decide) (fun h16 => ?_) (fun h16 => ?_)
          · show AW X 0 0 74 [some (.int (nI (((n / 65536) / 256) / 16))), some (.int 29)] [] T I J R
            have h16n : (((n / 65536) / 256) / 16) ≤ 4 := (nI_leI (a := (((n / 65536) / 256) / 16)) (b := 4) (by omega) (by omega)).mp h16
            refine aw_iload_n hC dJ6_numberOfTrailingZeros_0f7a4_74 rfl ?_
            refine aw_iload_n hC dJ6_numberOfTrailingZeros_0f7a4_75 rfl ?_
            refine aw_iconst (v := 1) hC dJ6_numberOfTrailingZeros_0f7a4_76 (by decide) ?_
            refine aw_iushr hC dJ6_numberOfTrailingZeros_0f7a4_77 ?_
            rw [show ((nI (((n / 65536) / 256) / 16)).toUInt32 >>> ((1 : Int32).toUInt32 &&& Int32.toUInt32 31)).toInt32 = nI ((((n / 65536) / 256) / 16) / 2) from nush (s := 1) (by omega) (by decide)]
            refine aw_iadd hC dJ6_numberOfTrailingZeros_0f7a4_78 ?_
            rw [show 29 + (nI ((((n / 65536) / 256) / 16) / 2)) = nI (29 + ((((n / 65536) / 256) / 16) / 2)) from nI_add 29 ((((n / 65536) / 256) / 16) / 2)]
            exact aw_ireturn hC hq rfl dJ6_numberOfTrailingZeros_0f7a4_79 a_le a_le (aPure_i (congrArg nI (by clear hC hq; rcases (show t = 1 ∨ t = 2 ∨ t = 3 ∨ t = 4 ∨ t = 5 ∨ t = 6 ∨ t = 7 ∨ t = 8 ∨ t = 9 ∨ t = 10 ∨ t = 11 ∨ t = 12 ∨ t = 13 ∨ t = 14 ∨ t = 15 ∨ t = 16 ∨ t = 17 ∨ t = 18 ∨ t = 19 ∨ t = 20 ∨ t = 21 ∨ t = 22 ∨ t = 23 ∨ t = 24 ∨ t = 25 ∨ t = 26 ∨ t = 27 ∨ t = 28 ∨ t = 29 ∨ t = 30 ∨ t = 31 by omega) with rfl | rfl | rfl | rfl | rfl | rfl | rfl | rfl | rfl | rfl | rfl | rfl | rfl | rfl | rfl | rfl | rfl | rfl | rfl | rfl | rfl | rfl | rfl | rfl | rfl | rfl | rfl | rfl | rfl | rfl | rfl <;> omega)))
          · show AW X 0 0 67 [some (.int (nI (((n / 65536) / 256) / 16))), some (.int 29)] [] T I J R
            have h16n : ¬ (((n / 65536) / 256) / 16) ≤ 4 := fun q9 => h16 ((nI_leI (a := (((n / 65536) / 256) / 16)) (b := 4) (by omega) (by omega)).mpr q9)
            refine aw_iinc (v := 31) (L2 := [some (.int (nI (((n / 65536) / 256) / 16))), some (.int 31)]) hC dJ6_numberOfTrailingZeros_0f7a4_67 rfl (by decide) (by decide) rfl ?_
            refine aw_iload_n hC dJ6_numberOfTrailingZeros_0f7a4_70 rfl ?_
            refine aw_iconst (v := 2) hC dJ6_numberOfTrailingZeros_0f7a4_71 (by decide) ?_
            refine aw_iushr hC dJ6_numberOfTrailingZeros_0f7a4_72 ?_
            rw [show ((nI (((n / 65536) / 256) / 16)).toUInt32 >>> ((2 : Int32).toUInt32 &&& Int32.toUInt32 31)).toInt32 = nI ((((n / 65536) / 256) / 16) / 4) from nush (s := 2) (by omega) (by decide)]
            refine aw_istore_n (L2 := [some (.int (nI ((((n / 65536) / 256) / 16) / 4))), some (.int 31)]) hC dJ6_numberOfTrailingZeros_0f7a4_73 rfl (by decide) rfl ?_
            refine aw_iload_n hC dJ6_numberOfTrailingZeros_0f7a4_74 rfl ?_
            refine aw_iload_n hC dJ6_numberOfTrailingZeros_0f7a4_75 rfl ?_
            refine aw_iconst (v := 1) hC dJ6_numberOfTrailingZeros_0f7a4_76 (by decide) ?_
            refine aw_iushr hC dJ6_numberOfTrailingZeros_0f7a4_77 ?_
            rw [show ((nI ((((n / 65536) / 256) / 16) / 4)).toUInt32 >>> ((1 : Int32).toUInt32 &&& Int32.toUInt32 31)).toInt32 = nI (((((n / 65536) / 256) / 16) / 4) / 2) from nush (s := 1) (by omega) (by decide)]
            refine aw_iadd hC dJ6_numberOfTrailingZeros_0f7a4_78 ?_
            rw [show 31 + (nI (((((n / 65536) / 256) / 16) / 4) / 2)) = nI (31 + (((((n / 65536) / 256) / 16) / 4) / 2)) from nI_add 31 (((((n / 65536) / 256) / 16) / 4) / 2)]
            exact aw_ireturn hC hq rfl dJ6_numberOfTrailingZeros_0f7a4_79 a_le a_le (aPure_i (congrArg nI (by clear hC hq; rcases (show t = 1 ∨ t = 2 ∨ t = 3 ∨ t = 4 ∨ t = 5 ∨ t = 6 ∨ t = 7 ∨ t = 8 ∨ t = 9 ∨ t = 10 ∨ t = 11 ∨ t = 12 ∨ t = 13 ∨ t = 14 ∨ t = 15 ∨ t = 16 ∨ t = 17 ∨ t = 18 ∨ t = 19 ∨ t = 20 ∨ t = 21 ∨ t = 22 ∨ t = 23 ∨ t = 24 ∨ t = 25 ∨ t = 26 ∨ t = 27 ∨ t = 28 ∨ t = 29 ∨ t = 30 ∨ t = 31 by omega) with rfl | rfl | rfl | rfl | rfl | rfl | rfl | rfl | rfl | rfl | rfl | rfl | rfl | rfl | rfl | rfl | rfl | rfl | rfl | rfl | rfl | rfl | rfl | rfl | rfl | rfl | rfl | rfl | rfl | rfl | rfl <;> omega)))
  · show AW X 0 0 12 [some (.int (nI n)), none] [] T I J R
    have h1n : ¬ 0 < n := fun q9 => h1 ((nI_ltI (a := 0) (b := n) (by omega) (by omega)).mpr q9)
    exfalso; omega
set_option maxRecDepth 100000 in
theorem m_ntz0 {T : List aT} {I : aI} {J : aJ} {R : aR} (x : Int32) (hx : (x ^^^ (-1)) &&& (x - 1) = 0) : MJ6_numberOfTrailingZeros_0f7a4 0 0 [.int x] T I J R (aPure (some (.int 0)) T I J R) := by
  refine a_met (by decide +kernel) a_le (fun X hC hq => ?_)
  show AW X 0 0 0 [some (.int x), none] [] T I J R
  refine aw_iload_n hC dJ6_numberOfTrailingZeros_0f7a4_0 rfl ?_
  refine aw_iconst (v := (-1)) hC dJ6_numberOfTrailingZeros_0f7a4_1 (by decide) ?_
  refine aw_ixor hC dJ6_numberOfTrailingZeros_0f7a4_2 ?_
  refine aw_iload_n hC dJ6_numberOfTrailingZeros_0f7a4_3 rfl ?_
  refine aw_iconst (v := 1) hC dJ6_numberOfTrailingZeros_0f7a4_4 (by decide) ?_
  refine aw_isub hC dJ6_numberOfTrailingZeros_0f7a4_5 ?_
  refine aw_iand hC dJ6_numberOfTrailingZeros_0f7a4_6 ?_
  rw [hx]
  refine aw_istore_n (L2 := [some (.int 0), none]) hC dJ6_numberOfTrailingZeros_0f7a4_7 rfl (by decide) rfl ?_
  refine aw_iload_n hC dJ6_numberOfTrailingZeros_0f7a4_8 rfl ?_
  refine aw_if_gt (tgt := 17) hC dJ6_numberOfTrailingZeros_0f7a4_9 (by decide) (fun h1 => absurd h1 (by decide)) (fun _ => ?_)
  show AW X 0 0 12 [some (.int 0), none] [] T I J R
  refine aw_iload_n hC dJ6_numberOfTrailingZeros_0f7a4_12 rfl ?_
  refine aw_bipush (v := 32) hC dJ6_numberOfTrailingZeros_0f7a4_13 (by decide) ?_
  refine aw_iand hC dJ6_numberOfTrailingZeros_0f7a4_15 ?_
  exact aw_ireturn hC hq rfl dJ6_numberOfTrailingZeros_0f7a4_16 a_le a_le (aPure_i rfl)
set_option maxRecDepth 100000 in
theorem m_ntzZ {T : List aT} {I : aI} {J : aJ} {R : aR}  : MJ6_numberOfTrailingZeros_0f7a4 0 0 [.int 0] T I J R (aPure (some (.int 32)) T I J R) := by
  refine a_met (by decide +kernel) a_le (fun X hC hq => ?_)
  show AW X 0 0 0 [some (.int 0), none] [] T I J R
  refine aw_iload_n hC dJ6_numberOfTrailingZeros_0f7a4_0 rfl ?_
  refine aw_iconst (v := (-1)) hC dJ6_numberOfTrailingZeros_0f7a4_1 (by decide) ?_
  refine aw_ixor hC dJ6_numberOfTrailingZeros_0f7a4_2 ?_
  refine aw_iload_n hC dJ6_numberOfTrailingZeros_0f7a4_3 rfl ?_
  refine aw_iconst (v := 1) hC dJ6_numberOfTrailingZeros_0f7a4_4 (by decide) ?_
  refine aw_isub hC dJ6_numberOfTrailingZeros_0f7a4_5 ?_
  refine aw_iand hC dJ6_numberOfTrailingZeros_0f7a4_6 ?_
  rw [show ((0 : Int32) ^^^ (-1)) &&& (0 - 1) = -1 from by decide]
  refine aw_istore_n (L2 := [some (.int (-1)), none]) hC dJ6_numberOfTrailingZeros_0f7a4_7 rfl (by decide) rfl ?_
  refine aw_iload_n hC dJ6_numberOfTrailingZeros_0f7a4_8 rfl ?_
  refine aw_if_gt (tgt := 17) hC dJ6_numberOfTrailingZeros_0f7a4_9 (by decide) (fun h1 => absurd h1 (by decide)) (fun _ => ?_)
  show AW X 0 0 12 [some (.int (-1)), none] [] T I J R
  refine aw_iload_n hC dJ6_numberOfTrailingZeros_0f7a4_12 rfl ?_
  refine aw_bipush (v := 32) hC dJ6_numberOfTrailingZeros_0f7a4_13 (by decide) ?_
  refine aw_iand hC dJ6_numberOfTrailingZeros_0f7a4_15 ?_
  exact aw_ireturn hC hq rfl dJ6_numberOfTrailingZeros_0f7a4_16 a_le a_le (aPure_i (by decide))
