/-! THE LAW'S BEGINNING -/
def lwIa (I : aI) : aI := (a_fill I 4 10 (fun _ => (-1)))
def lwIb (I : aI) : aI := (a_u (a_u (a_u (a_u (a_u (a_u (a_u (a_u (a_u (a_u (a_u (a_u (a_u (a_u I 44 43 (-1)) 44 45 (-1)) 65 0 (-1)) 65 1 (-1)) 65 2 (-1)) 65 3 (-1)) 65 4 (-1)) 65 5 (-1)) 65 6 (-1)) 65 7 (-1)) 65 8 (-1)) 65 9 (-1)) 65 10 (-1)) 65 11 (-1))
def lwRa (R : aR) : aR := (a_u (a_u (a_u (a_u (a_u (a_u (a_u (a_u (a_u (a_u (a_u (a_u (a_u (a_u (a_u (a_u (a_u (a_u (a_u (a_u (a_u (a_u (a_u (a_u (a_u (a_u (a_u (a_u (a_u (a_u (a_u (a_u (a_u (a_u (a_u (a_u (a_u (a_u (a_u (a_u (a_u (a_u (a_u (a_u (a_u (a_u (a_u (a_u R 1 0 (some 2)) 1 2 (some 3)) 1 3 (some 4)) 1 4 (some 5)) 1 5 (some 6)) 1 7 (some 7)) 0 0 (some 1)) 9 0 (some 10)) 8 1 (some 9)) 8 4 (some 11)) 12 0 (some 13)) 8 5 (some 12)) 14 0 (some 15)) 8 6 (some 14)) 8 7 (some 16)) 8 8 (some 17)) 8 9 (some 18)) 8 0 (some 1)) 0 1 (some 8)) 19 0 (some 20)) 19 1 (some 21)) 19 3 (some 22)) 19 4 (some 23)) 19 5 (some 24)) 19 7 (some 25)) 19 9 (some 26)) 27 0 (some 28)) 20 0 (some 27)) 29 0 (some 30)) 20 1 (some 29)) 31 0 (some 32)) 20 2 (some 31)) 0 2 (some 19)) 33 0 (some 34)) 33 1 (some 35)) 33 4 (some 36)) 33 6 (some 37)) 33 2 (some 8)) 33 3 (some 19)) 0 3 (some 33)) 38 6 (some 39)) 38 7 (some 40)) 38 1 (some 19)) 38 2 (some 33)) 0 4 (some 38)) 0 5 (some 41)) 0 6 (some 42)) 0 8 (some 43))
def lwRb (R : aR) : aR := (a_u (a_u (a_u (a_u (a_u (a_u (a_u (a_u (a_u (a_u (a_u (a_u (a_u (a_u (a_u (a_u (a_u (a_u (a_u (a_u (a_u (a_u (a_u (a_u (a_u (a_u (a_u (a_u (a_u (a_u (a_u (a_u (a_u (a_u (a_u (a_u (a_u (a_u (a_u (a_u (a_u (a_u (a_u (a_u (a_u (a_u (a_u (a_u (a_u R 44 1 (some 45)) 44 2 (some 46)) 44 3 (some 47)) 44 4 (some 48)) 44 5 (some 49)) 44 6 (some 50)) 44 7 (some 51)) 44 8 (some 52)) 44 9 (some 53)) 44 10 (some 54)) 44 11 (some 55)) 44 12 (some 56)) 44 15 (some 57)) 44 16 (some 58)) 44 17 (some 59)) 44 18 (some 60)) 44 19 (some 61)) 44 21 (some 62)) 44 22 (some 63)) 44 23 (some 64)) 44 24 (some 65)) 44 26 (some 66)) 44 27 (some 67)) 44 28 (some 68)) 44 29 (some 69)) 44 30 (some 70)) 44 31 (some 71)) 44 32 (some 72)) 44 33 (some 73)) 44 34 (some 74)) 44 37 (some 75)) 44 38 (some 76)) 44 39 (some 77)) 44 40 (some 78)) 44 41 (some 79)) 44 42 (some 80)) 44 46 (some 81)) 44 47 (some 82)) 44 48 (some 83)) 44 49 (some 84)) 44 50 (some 85)) 44 51 (some 86)) 44 52 (some 87)) 44 54 (some 88)) 44 55 (some 89)) 44 56 (some 90)) 44 58 (some 91)) 44 60 (some 92)) 44 62 (some 93))
def lwI0 : aI := fun o k => if (o = 4 ∧ k < 10) ∨ (o = 44 ∧ (k = 43 ∨ k = 45)) ∨ (o = 65 ∧ k < 12) then -1 else 0
def lwR0 : aR := lwRb (lwRa (fun _ _ => none))
theorem lwI0_eq : lwIb (lwIa (fun _ _ => 0)) = lwI0 := by
  funext o k
  by_cases h4 : o = 4
  · subst h4
    simp [lwIb, lwIa, lwI0, a_u, a_fill]
  · by_cases h44 : o = 44
    · subst h44
      simp only [lwIb, lwIa, lwI0, a_u, a_fill]
      by_cases k1 : k = 43
      · simp [k1]
      · by_cases k2 : k = 45
        · simp [k2]
        · simp [k1, k2]
    · by_cases h65 : o = 65
      · subst h65
        simp only [lwIb, lwIa, lwI0, a_u, a_fill]
        by_cases hk : k < 12
        · rcases (show k = 0 ∨ k = 1 ∨ k = 2 ∨ k = 3 ∨ k = 4 ∨ k = 5 ∨ k = 6 ∨ k = 7 ∨ k = 8 ∨ k = 9 ∨ k = 10 ∨ k = 11 by omega) with rfl | rfl | rfl | rfl | rfl | rfl | rfl | rfl | rfl | rfl | rfl | rfl <;> simp
        · simp only [show ¬ k = 0 by omega, show ¬ k = 1 by omega, show ¬ k = 2 by omega, show ¬ k = 3 by omega, show ¬ k = 4 by omega, show ¬ k = 5 by omega, show ¬ k = 6 by omega, show ¬ k = 7 by omega, show ¬ k = 8 by omega, show ¬ k = 9 by omega, show ¬ k = 10 by omega, show ¬ k = 11 by omega, hk, and_false, if_false, or_false, false_and, false_or]
          simp
      · simp [lwIb, lwIa, lwI0, a_u, a_fill, h4, h44, h65]
theorem lwz {o : Nat} (h : o ≠ 4 ∧ o ≠ 44 ∧ o ≠ 65) (k : Nat) : lwI0 o k = 0 := by
  unfold lwI0
  rw [if_neg (by omega)]
theorem lwn {o : Nat} (h : o ≠ 4 ∧ o ≠ 44 ∧ o ≠ 65) (k : Nat) : iN lwI0 o k = 0 := by
  unfold iN
  rw [lwz h]; rfl
theorem lwNR {o n b : Nat} (h : o ≠ 4 ∧ o ≠ 44 ∧ o ≠ 65) (hb : 0 < b) : NR lwI0 o n b := fun j _ => ⟨by rw [lwn h, lwz h]; rfl, by rw [lwn h]; exact hb⟩
theorem lw65 {k : Nat} (h : k < 12) : lwI0 65 k = -1 := by
  unfold lwI0
  rw [if_pos (Or.inr (Or.inr ⟨rfl, h⟩))]
theorem lw_MBk : MBk lwI0 0 := by
  refine ⟨⟨by omega, rfl, lwNR (by decide) (by omega), lwNR (by decide) (by omega), lwNR (by decide) (by omega), lwNR (by decide) (by omega), lwNR (by decide) (by omega), fun s h => by omega, fun s h => by omega, fun s h => by omega, fun s h => by omega, fun s h => by omega⟩, fun s h => by omega, lwNR (by decide) (by omega), fun s _ _ => ⟨lwz (by decide) _, lwz (by decide) _⟩, fun s h => by omega⟩
theorem lw_MEs : MEs lwI0 0 0 := by
  refine ⟨⟨⟨by omega, rfl, ?_, lwNR (by decide) (by omega), lwNR (by decide) (by omega), lwNR (by decide) (by omega), fun j => Or.inl (lwz (by decide) _)⟩, ⟨fun i a h => by omega, fun x _ h => absurd (lwz (by decide) _) h, fun x a _ _ h => by rw [lwz (by decide)] at h; exact absurd h (by unfold bt; simp)⟩, ⟨fun x a _ _ h => absurd (lwz (by decide) _) h, fun j a _ _ _ => by rw [lwn (by decide), lwz (by decide)]; exact ⟨rfl, Nat.zero_le _⟩, fun x _ h => absurd (lwz (by decide) _) h, lwNR (by decide) (by omega)⟩, fun x _ => ⟨fun _ => lwz (by decide) _, fun _ _ => lwz (by decide) _⟩⟩, ⟨fun i a s h => by omega, fun x a _ _ h => absurd (lwz (by decide) _) h⟩, fun x _ => ⟨by rw [lwn (by decide), lwz (by decide)]; rfl, by rw [lwn (by decide)]; exact Nat.le_refl _⟩, fun x _ h => absurd (lwz (by decide) _) h, ⟨fun j a _ _ _ => lwz (by decide) _, fun i _ h4 => ⟨lwz (by decide) _, fun k _ => lwz (by decide) _, fun a ha => lw65 (by omega)⟩⟩⟩
  intro j hj
  exact Or.inl (lw65 hj)
theorem lw_MPl : MPl lwI0 0 0 0 := by
  refine ⟨rfl, by omega, fun i h => by omega, ⟨lwNR (by decide) (by omega), fun i _ _ => ⟨lwz (by decide) _, lwz (by decide) _⟩⟩, fun j => Or.inl (lwz (by decide) _), fun y _ => ⟨by rw [lwn (by decide), lwz (by decide)]; rfl, by rw [lwn (by decide)]; exact Nat.le_refl _⟩, Or.inl rfl, Or.inl rfl⟩
theorem lw_MPo : MPo lwI0 0 := ⟨rfl, by omega, lwNR (by decide) (by omega), fun j h => by omega⟩
theorem lw_MDy : MDy lwI0 0 := ⟨0, rfl, by omega⟩
theorem lwR_none {o : Nat} (h1 : o = 25 ∨ o = 21) (k : Nat) : lwR0 o k = none := by
  rcases h1 with rfl | rfl <;> simp [lwR0, lwRa, lwRb, a_u]
theorem lw_gi {J : aJ} (hJ : ∀ o k, J o k = 0) : GI a_tags lwI0 J lwR0 lwI0 0 := by
  refine ⟨0, fun _ => 0, 0, fun _ => 0, fun _ => 0, 0, 0, fun _ => 0, 0, List.prefix_refl _, (show aPR lwR0 by unfold aPR; decide +kernel), ⟨lw_MBk, lw_MEs, lw_MPl, lw_MPo, lw_MDy⟩, ⟨⟨rfl, fun s h => by omega, fun s t h => by omega⟩, ⟨fun q _ => (lwz (by decide) _).trans (lwz (by decide) _).symm, fun f hf => ?_, fun j _ => (lwz (by decide) _).trans (lwz (by decide) _).symm, fun j _ => (lwz (by decide) _).trans (lwz (by decide) _).symm, rfl⟩, fun j _ => ⟨hJ _ _, hJ _ _, hJ _ _⟩, Or.inl (lwz (by decide) _), Or.inl (lwz (by decide) _)⟩, ⟨rfl, fun j h => by omega⟩, ⟨⟨rfl, fun i h => by omega, fun i j h => by omega⟩, fun t ht => ?_, ⟨rfl, rfl, by omega, fun j _ => ⟨(lwz (by decide) _).trans (lwz (by decide) _).symm, (lwz (by decide) _).trans (lwz (by decide) _).symm, fun _ a _ => (lwz (by decide) _).trans (lwz (by decide) _).symm⟩, fun j _ _ => lwz (by decide) _⟩, ⟨fun x _ => ⟨fun _ => lwR_none (Or.inl rfl) _, fun h => absurd (lwz (by decide) _) h⟩, fun x y _ _ h => absurd (lwz (by decide) _) h⟩, rfl, fun x _ => (lwz (by decide) _).trans (lwz (by decide) _).symm⟩, ⟨rfl, fun i h => by omega⟩, fun i j h => by omega, ⟨fun _ => by decide +kernel, fun p hp h => ?_, rfl, fun h => absurd h (by decide +kernel)⟩⟩
  · rw [lwz (o := 55) (by decide)]
    unfold lwI0
    rw [if_pos (Or.inl ⟨rfl, hf⟩)]
    decide
  · exact ⟨fun a _ => (lwz (by omega) _).trans (lwz (by decide) _).symm, (lwz (by omega) _).trans (lwz (by decide) _).symm, (lwz (by omega) _).trans (lwz (by decide) _).symm, (lwz (by omega) _).trans (lwz (by decide) _).symm⟩
  · exfalso
    have e1 : lwI0 44 43 = -1 := rfl
    rw [e1] at h
    have e2 : (nI p).toInt = p := by rw [nI]; exact Int32.toInt_ofNat_of_lt (by omega)
    rw [← h, show ((-1 : Int32).toInt) = -1 from rfl] at e2
    omega
theorem lk_start {sb N : Nat} {xs : Nat → Int32} {X : aX} (hC : YC yL_law cL_law 7 12 438 601024 7293034 sb N xs X) (hN : N ≤ 3584) (hEnd : ∀ (C S : Nat) (L : List (Option Value)) (T : List aT) (I : aI) (J : aJ) (R : aR), C ≤ 601024 → S ≤ 7293034 → YW sb X C S 2845 L [.int 1] T I J R) : YW sb X 0 0 0 [none, none, none, none, none, none, none] [] [] (fun _ _ => 0) (fun _ _ => 0) (fun _ _ => none) := by
  refine lx_new hC dL_law_0 aK_X11 gW_L_8 gB_X11 gN_X11 a_le a_le ?_
  rw [show ([] : List aT) ++ [.inr 11] = a_tags.take 1 from rfl, show ([] : List aT).length = 0 from rfl]
  refine lx_dup hC dL_law_3 rfl ?_
  refine lx_callI (n := 0) (As9 := []) (st := [.ref 0]) hC rfl rfl i_X11_init_0 dL_law_4 gC_X11_init gL_L_134 gI_X11_init rfl gN_X11 ⟨by decide +kernel, by decide +kernel, by decide +kernel⟩ rfl a_le a_le a_le a_le a_le rfl (fun E T2 I2 J2 R2 hp hQ => nomatch hQ.1) (fun v T2 I2 J2 R2 hp hQ => ?_)
  obtain ⟨e, e1, e2, e3, e4⟩ := hQ
  cases e
  rw [e1, e2, e3, e4]
  show YW sb X (0 + 1 + 43) (0 + a_nf 11 + 1510) 7 [none, none, none, none, none, none, none] [.ref 0] (a_tags.take 44) (lwIa (fun _ _ => 0)) (fun _ _ => 0) (lwRa (fun _ _ => none))
  refine lx_astore_n (i := 1) (L2 := [none, some (.ref 0), none, none, none, none, none]) hC dL_law_7 rfl (by decide) (by decide) rfl ?_
  refine lx_new hC dL_law_8 aK_X12 gW_L_135 gB_X12 gN_X12 a_le a_le ?_
  rw [show a_tags.take 44 ++ [.inr 12] = a_tags.take 45 from rfl, show (a_tags.take 44).length = 44 from rfl]
  refine lx_dup hC dL_law_11 rfl ?_
  refine lx_callI (n := 0) (As9 := []) (st := [.ref 44]) hC rfl rfl i_X12_init_44 dL_law_12 gC_X12_init gL_L_137 gI_X12_init rfl gN_X12 ⟨by decide +kernel, by decide +kernel, by decide +kernel⟩ rfl a_le a_le a_le a_le a_le rfl (fun E T2 I2 J2 R2 hp hQ => nomatch hQ.1) (fun v T2 I2 J2 R2 hp hQ => ?_)
  obtain ⟨f, f1, f2, f3, f4⟩ := hQ
  cases f
  rw [f1, f2, f3, f4]
  show YW sb X (0 + 1 + 43 + 1 + 49) (0 + a_nf 11 + 1510 + a_nf 12 + 7182) 15 [none, some (.ref 0), none, none, none, none, none] [.ref 44] (a_tags.take 94) (lwIb (lwIa (fun _ _ => 0))) (fun _ _ => 0) lwR0
  rw [lwI0_eq]
  refine lx_astore_n (i := 2) (L2 := [none, some (.ref 0), some (.ref 44), none, none, none, none]) hC dL_law_15 rfl (by decide) (by decide) rfl ?_
  refine lx_iconst (v := 1) hC dL_law_16 (by decide) ?_
  refine lx_newarrayJ (N := 1) hC dL_law_17 gA_long rfl (by decide) a_le a_le ?_
  rw [show a_tags.take 94 ++ [.inl (.long, 1)] = a_tags from rfl, show (a_tags.take 94).length = 94 from rfl]
  refine lx_astore_n (i := 3) (L2 := [none, some (.ref 0), some (.ref 44), some (.ref 94), none, none, none]) hC dL_law_19 rfl (by decide) (by decide) rfl ?_
  refine lx_iconst (v := 0) hC dL_law_20 (by decide) ?_
  refine lx_istore (L2 := [none, some (.ref 0), some (.ref 44), some (.ref 94), some (.int 0), none, none]) hC dL_law_21 (by decide) (by decide) rfl ?_
  exact lk_loop hC hN hEnd (N + 1) 0 a_tags lwI0 (fun _ _ => 0) lwR0 (by omega) (by omega) (lw_gi (fun _ _ => rfl)) (fun _ _ => ⟨rfl, rfl⟩)
