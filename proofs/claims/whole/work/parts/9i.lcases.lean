/-! THE LAW'S CASES -/
theorem lx_in {c N k : Nat} (h : 7 * c + 7 ≤ N) (hN : N ≤ 3584) (hk : k ≤ 6) : vp_in (nI (7 * c) + nI k) N := by
  rw [nI_add]
  rintro (h1 | h1)
  · exact nI_pos (by omega) h1
  · rw [nI_clamp (by omega)] at h1; omega
theorem lx_in0 {c N : Nat} (h : 7 * c + 7 ≤ N) (hN : N ≤ 3584) : vp_in (nI (7 * c)) N := by
  rintro (h1 | h1)
  · exact nI_pos (by omega) h1
  · rw [nI_clamp (by omega)] at h1; omega
theorem lk_leq {I I2 : aI} (h : ∀ o, 44 ≤ o → o < 95 → I2 o = I o) : LEq I I2 := ⟨fun o u w => h o (by omega) (by omega), fun k _ _ _ _ => by rw [h 44 (by decide) (by decide)]⟩
theorem lk_zr {J J2 : aJ} (h : ∀ o, 44 ≤ o → o < 94 → J2 o = J o) (hZ : Zr J) : Zr J2 := fun j hj => by rw [h 88 (by decide) (by decide), h 89 (by decide) (by decide)]; exact hZ j hj
theorem lk_gi {T : List aT} {I I3 : aI} {J J3 : aJ} {R : aR} {m2 : aI} {c : Nat} (h : GI T I J R m2 c) (hI : ∀ q, q < 44 ∨ 94 ≤ q → I3 q = I q) (hJ : ∀ q, q < 44 ∨ 94 ≤ q → J3 q = J q) (hL : LEq m2 I3) : GI T I3 J3 R I3 c := (h.fr (List.prefix_refl _) (fun o _ ho => hI o (by omega)) (fun o ho => hJ o (by omega)) (fun _ _ _ => rfl) h.hR).cgm hL
theorem lk_bit {x : Int32} : (if x = 0 then (0 : Int32) else 1) = 0 ∨ (if x = 0 then (0 : Int32) else 1) = 1 := by by_cases h : x = 0 <;> simp [h]
theorem lk_bI (b : Bool) : bI b = 0 ∨ bI b = 1 := by cases b <;> simp [bI]
theorem lk_in01 : vp_in 0 1 := by
  rintro (h | h)
  · exact absurd h (by decide)
  · exact absurd h (by decide)
theorem lk_cp {T2 : List aT} {I I2 : aI} {J J2 : aJ} {R2 : aR} {m : aI} {c : Nat} {Sp : Nat → Int32 → aI → Prop} {o : Option Value ⊕ String} (h : CP [] I J m c Sp o T2 I2 J2 R2) : ∃ v m2, o = .inl (some (.int v)) ∧ Sp 0 v m2 ∧ GI T2 I2 J2 R2 m2 (c + 1) ∧ MFr I I2 J J2 := by
  obtain ⟨hf, h⟩ := h
  rcases h with ⟨v, m2, e, hS, hG⟩ | ⟨j, E, h1, _⟩
  · exact ⟨v, m2, e, hS, hG, hf⟩
  · simp at h1
theorem lk_cmp {x : Int64} : lg_cmp x x = 0 := by simp [lg_cmp]
theorem lx_bool {sb N : Nat} {xs : Nat → Int32} {X : aX} {C S : Nat} {T : List aT} {I : aI} {J : aJ} {R : aR} {p : Nat} {L : List (Option Value)} {st : List Value} {x : Int32} (hC : YC yL_law cL_law 7 12 438 601024 7293034 sb N xs X) (d0 : decode cL_law p = .ok (.ifCond .eq 7, 3)) (d1 : decode cL_law (p + 3) = .ok (.iconst 1, 1)) (d2 : decode cL_law (p + 4) = .ok (.goto 4, 3)) (d3 : decode cL_law (p + 7) = .ok (.iconst 0, 1)) (k : YW sb X C S (p + 8) L (.int (if x = 0 then (0 : Int32) else 1) :: st) T I J R) : YW sb X C S p L (.int x :: st) T I J R := by
  refine lx_if_eq (tgt := p + 7) hC d0 (by omega) (fun h => ?_) (fun h => ?_)
  · rw [if_pos h] at k
    exact lx_iconst (v := 0) hC d3 (by decide) k
  · rw [if_neg h] at k
    refine lx_iconst (v := 1) hC d1 (by decide) ?_
    exact lx_goto (tgt := p + 8) hC d2 (by omega) k
theorem lk_thrown {sb N : Nat} {xs : Nat → Int32} {X : aX} {C S : Nat} {T : List aT} {I : aI} {J : aJ} {R : aR} {p : Nat} {L : List (Option Value)} (hC : YC yL_law cL_law 7 12 438 601024 7293034 sb N xs X) (hT : aPT T) (hR : aPR R) (hc : C ≤ 601024) (hs : S ≤ 7293034) (d0 : decode cL_law p = .ok (.aload_n 2, 1)) (d1 : decode cL_law (p + 1) = .ok (.invokevirtual 144, 3)) (hL : L[2]? = some (some (.ref 44))) (k : YW sb X C S (p + 4) L [.int (I 44 61)] T I J R) : YW sb X C S p L [] T I J R := by
  refine lx_aload_n hC d0 hL ?_
  refine lx_callV (n := 0) (ci := 12) (Tb := TX12) hC rfl (tg_44 hT) rfl (m_X12_thrown (I := I) (J := J) hT hR) d1 gC_X12_thrown gL_L_144 gI_X12_thrown gE_X12_thrown gN_X12 ⟨by decide +kernel, by decide +kernel, by decide +kernel⟩ rfl a_le a_le a_le hc hs rfl (fun E T2 I2 J2 R2 hp hQ => nomatch hQ.1) (fun v T2 I2 J2 R2 hp hQ => ?_)
  obtain ⟨e, e1, e2, e3, e4⟩ := hQ
  cases e
  rw [e1, e2, e3, e4]
  exact k
theorem lk_tail {sb N : Nat} {xs : Nat → Int32} {X : aX} {C S : Nat} {T : List aT} {I : aI} {J : aJ} {R : aR} {p k : Nat} {off : Int} {iv b v : Int32} (hC : YC yL_law cL_law 7 12 438 601024 7293034 sb N xs X) (hT : aPT T) (hR : aPR R) (h61 : I 44 61 = nI k) (hk : k ≤ 3) (hb : k = 0 → b = v) (hJ : k = 0 → J 94 0 = v.toInt64) (hc : C ≤ 601024) (hs : S ≤ 7293034) (d0 : decode cL_law p = .ok (.istore 6, 2)) (d1 : decode cL_law (p + 2) = .ok (.aload_n 2, 1)) (d2 : decode cL_law (p + 3) = .ok (.invokevirtual 144, 3)) (d3 : decode cL_law (p + 6) = .ok (.iload 5, 2)) (d4 : decode cL_law (p + 8) = .ok (.if_icmp .eq 5, 3)) (d5 : decode cL_law (p + 13) = .ok (.iload 5, 2)) (d6 : decode cL_law (p + 15) = .ok (.ifCond .ne 15, 3)) (d7 : decode cL_law (p + 18) = .ok (.aload_n 3, 1)) (d8 : decode cL_law (p + 19) = .ok (.iconst 0, 1)) (d9 : decode cL_law (p + 20) = .ok (.laload, 1)) (d10 : decode cL_law (p + 21) = .ok (.iload 6, 2)) (d11 : decode cL_law (p + 23) = .ok (.i2l, 1)) (d12 : decode cL_law (p + 24) = .ok (.lcmp, 1)) (d13 : decode cL_law (p + 25) = .ok (.ifCond .eq 5, 3)) (dg : decode cL_law (p + 30) = .ok (.goto off, 3)) (ht : ((p + 30 : Nat) : Int) + off = ((2838 : Nat) : Int)) (kk : ∀ (a9 b9 : Option Value), YW sb X C S 2838 [none, some (.ref 0), some (.ref 44), some (.ref 94), some (.int iv), a9, b9] [] T I J R) : YW sb X C S p [none, some (.ref 0), some (.ref 44), some (.ref 94), some (.int iv), some (.int (nI k)), none] [.int b] T I J R := by
  refine lx_istore (L2 := [none, some (.ref 0), some (.ref 44), some (.ref 94), some (.int iv), some (.int (nI k)), some (.int b)]) hC d0 (by decide) (by decide) rfl ?_
  refine lk_thrown hC hT hR hc hs d1 d2 rfl ?_
  refine lx_iload hC d3 rfl ?_
  refine lx_icmp_eq (tgt := p + 13) hC d4 (by omega) (fun _ => ?_) (fun h => absurd h61 h)
  refine lx_iload hC d5 rfl ?_
  have kg : YW sb X C S (p + 30) [none, some (.ref 0), some (.ref 44), some (.ref 94), some (.int iv), some (.int (nI k)), some (.int b)] [] T I J R := lx_goto (tgt := 2838) hC dg ht (kk _ _)
  refine lx_if_ne (tgt := p + 30) hC d6 (by omega) (fun _ => kg) (fun h0 => ?_)
  have hk0 : k = 0 := (nI_eq (a := k) (b := 0) (by omega) (by omega)).mp h0
  refine lx_aload_n hC d7 rfl ?_
  refine lx_iconst (v := 0) hC d8 (by decide) ?_
  refine lx_laload hC d9 (tg_94 hT) lk_in01 ?_
  refine lx_iload hC d10 rfl ?_
  refine lx_i2l hC d11 ?_
  refine lx_lcmp hC d12 ?_
  have e9 : J 94 (0 : Int32).toNatClampNeg = b.toInt64 := (hJ hk0).trans (by rw [hb hk0])
  rw [e9, lk_cmp]
  exact lx_if_eq (tgt := p + 30) hC d13 (by omega) (fun _ => kg) (fun h => absurd rfl h)
theorem lk_tailb {sb N : Nat} {xs : Nat → Int32} {X : aX} {C S : Nat} {T : List aT} {I : aI} {J : aJ} {R : aR} {p k : Nat} {off : Int} {iv b v : Int32} (hC : YC yL_law cL_law 7 12 438 601024 7293034 sb N xs X) (hT : aPT T) (hR : aPR R) (h61 : I 44 61 = nI k) (hk : k ≤ 3) (hb : k = 0 → b = v) (hJ : k = 0 → J 94 0 = v.toInt64) (hv : k = 0 → v = 0 ∨ v = 1) (hc : C ≤ 601024) (hs : S ≤ 7293034) (d0 : decode cL_law p = .ok (.istore 6, 2)) (d1 : decode cL_law (p + 2) = .ok (.aload_n 2, 1)) (d2 : decode cL_law (p + 3) = .ok (.invokevirtual 144, 3)) (d3 : decode cL_law (p + 6) = .ok (.iload 5, 2)) (d4 : decode cL_law (p + 8) = .ok (.if_icmp .eq 5, 3)) (d5 : decode cL_law (p + 13) = .ok (.iload 5, 2)) (d6 : decode cL_law (p + 15) = .ok (.ifCond .ne 22, 3)) (d7 : decode cL_law (p + 18) = .ok (.aload_n 3, 1)) (d8 : decode cL_law (p + 19) = .ok (.iconst 0, 1)) (d9 : decode cL_law (p + 20) = .ok (.laload, 1)) (d10 : decode cL_law (p + 21) = .ok (.iload 6, 2)) (d11 : decode cL_law (p + 23) = .ok (.ifCond .eq 7, 3)) (d12 : decode cL_law (p + 26) = .ok (.lconst 1, 1)) (d13 : decode cL_law (p + 27) = .ok (.goto 4, 3)) (d14 : decode cL_law (p + 30) = .ok (.lconst 0, 1)) (d15 : decode cL_law (p + 31) = .ok (.lcmp, 1)) (d16 : decode cL_law (p + 32) = .ok (.ifCond .eq 5, 3)) (dg : decode cL_law (p + 37) = .ok (.goto off, 3)) (ht : ((p + 37 : Nat) : Int) + off = ((2838 : Nat) : Int)) (kk : ∀ (a9 b9 : Option Value), YW sb X C S 2838 [none, some (.ref 0), some (.ref 44), some (.ref 94), some (.int iv), a9, b9] [] T I J R) : YW sb X C S p [none, some (.ref 0), some (.ref 44), some (.ref 94), some (.int iv), some (.int (nI k)), none] [.int b] T I J R := by
  refine lx_istore (L2 := [none, some (.ref 0), some (.ref 44), some (.ref 94), some (.int iv), some (.int (nI k)), some (.int b)]) hC d0 (by decide) (by decide) rfl ?_
  refine lk_thrown hC hT hR hc hs d1 d2 rfl ?_
  refine lx_iload hC d3 rfl ?_
  refine lx_icmp_eq (tgt := p + 13) hC d4 (by omega) (fun _ => ?_) (fun h => absurd h61 h)
  refine lx_iload hC d5 rfl ?_
  have kg : YW sb X C S (p + 37) [none, some (.ref 0), some (.ref 44), some (.ref 94), some (.int iv), some (.int (nI k)), some (.int b)] [] T I J R := lx_goto (tgt := 2838) hC dg ht (kk _ _)
  refine lx_if_ne (tgt := p + 37) hC d6 (by omega) (fun _ => kg) (fun h0 => ?_)
  have hk0 : k = 0 := (nI_eq (a := k) (b := 0) (by omega) (by omega)).mp h0
  refine lx_aload_n hC d7 rfl ?_
  refine lx_iconst (v := 0) hC d8 (by decide) ?_
  refine lx_laload hC d9 (tg_94 hT) lk_in01 ?_
  refine lx_iload hC d10 rfl ?_
  have e9 : J 94 (0 : Int32).toNatClampNeg = b.toInt64 := (hJ hk0).trans (by rw [hb hk0])
  rw [e9]
  have hv9 := hv hk0
  rw [← hb hk0] at hv9
  have k2 : YW sb X C S (p + 31) [none, some (.ref 0), some (.ref 44), some (.ref 94), some (.int iv), some (.int (nI k)), some (.int b)] [.long b.toInt64, .long b.toInt64] T I J R := by
    refine lx_lcmp hC d15 ?_
    rw [lk_cmp]
    exact lx_if_eq (tgt := p + 37) hC d16 (by omega) (fun _ => kg) (fun h => absurd rfl h)
  refine lx_if_eq (tgt := p + 30) hC d11 (by omega) (fun h1 => ?_) (fun h1 => ?_)
  · refine lx_lconst (v := 0) hC d14 (by decide) ?_
    rw [h1] at k2
    rw [h1]
    exact k2
  · refine lx_lconst (v := 1) hC d12 (by decide) ?_
    refine lx_goto (tgt := p + 31) hC d13 (by omega) ?_
    rcases hv9 with h2 | h2
    · exact absurd h2 h1
    · rw [h2] at k2
      rw [h2]
      exact k2
theorem lk_tell {sb N : Nat} {xs : Nat → Int32} {X : aX} {C S : Nat} {T : List aT} {I : aI} {J : aJ} {R : aR} {c : Nat} (hC : YC yL_law cL_law 7 12 438 601024 7293034 sb N xs X) (hG : GI T I J R I c) (hZ : Zr J) (hin : 7 * c + 7 ≤ N) (hN : N ≤ 3584) (hc : C + 3 ≤ 601024) (hs : S + 200 ≤ 7293034) (kk : ∀ (a9 b9 : Option Value) (T2 : List aT) (I2 : aI) (J2 : aJ) (R2 : aR), GI T2 I2 J2 R2 I2 (c + 1) → Zr J2 → YW sb X (C + 3) (S + 200) 2838 [none, some (.ref 0), some (.ref 44), some (.ref 94), some (.int (nI (7 * c))), a9, b9] [] T2 I2 J2 R2) : YW sb X C S 236 [none, some (.ref 0), some (.ref 44), some (.ref 94), some (.int (nI (7 * c))), none, none] [] T I J R := by
  have hT := hG.hT
  obtain ⟨n, sq, g, gq, eq, r, p, pq, k0, h9⟩ := hG
  refine lx_aload_n hC dL_law_236 rfl ?_
  refine lx_sld (z := nI 1) hC dL_law_237 dL_law_238 dL_law_240 dL_law_241 dL_law_242 (by decide) rfl (lx_in hin hN (by decide)) ?_
  refine lx_sld (z := nI 2) hC dL_law_243 dL_law_244 dL_law_246 dL_law_247 dL_law_248 (by decide) rfl (lx_in hin hN (by decide)) ?_
  refine lx_sld (z := nI 3) hC dL_law_249 dL_law_250 dL_law_252 dL_law_253 dL_law_254 (by decide) rfl (lx_in hin hN (by decide)) ?_
  refine lx_sld (z := nI 4) hC dL_law_255 dL_law_256 dL_law_258 dL_law_259 dL_law_260 (by decide) rfl (lx_in hin hN (by decide)) ?_
  refine lx_sld (z := nI 5) hC dL_law_261 dL_law_262 dL_law_264 dL_law_265 dL_law_266 (by decide) rfl (lx_in hin hN (by decide)) ?_
  refine lx_aload_n hC dL_law_267 rfl ?_
  refine lx_callSX (n := 7) (As := [.ref 0, .int (xs (nI (7 * c) + nI 1).toNatClampNeg), .int (xs (nI (7 * c) + nI 2).toNatClampNeg), .int (xs (nI (7 * c) + nI 3).toNatClampNeg), .int (xs (nI (7 * c) + nI 4).toNatClampNeg), .int (xs (nI (7 * c) + nI 5).toNatClampNeg), .ref 94]) hC (m_L_tell hT _ _ _ _ _ (m_X11_tell h9 _ _ _ _ _)) dL_law_268 gC_L_tell gL_L_138 gS_L_tell gN_L ⟨by decide +kernel, by decide +kernel, by decide +kernel⟩ rfl a_le a_le a_le hc hs rfl (fun E T2 I2 J2 R2 hp hQ => by
      obtain ⟨_, _, _, e, _⟩ := hQ
      cases e) (fun v1 T2 I2 J2 R2 hp hQ => ?_)
  obtain ⟨k, v, m2, e, hk, hS, hG2, hfI, hfJ, hv⟩ := hQ
  cases e
  show YW sb X (C + 3) (S + 200) 271 [none, some (.ref 0), some (.ref 44), some (.ref 94), some (.int (nI (7 * c))), none, none] [.int (nI k)] T2 I2 J2 R2
  refine lx_istore (L2 := [none, some (.ref 0), some (.ref 44), some (.ref 94), some (.int (nI (7 * c))), some (.int (nI k)), none]) hC dL_law_271 (by decide) (by decide) rfl ?_
  refine lx_aload_n hC dL_law_273 rfl ?_
  refine lx_sld (z := nI 1) hC dL_law_274 dL_law_275 dL_law_277 dL_law_278 dL_law_279 (by decide) rfl (lx_in hin hN (by decide)) ?_
  refine lx_sld (z := nI 2) hC dL_law_280 dL_law_281 dL_law_283 dL_law_284 dL_law_285 (by decide) rfl (lx_in hin hN (by decide)) ?_
  refine lx_sld (z := nI 3) hC dL_law_286 dL_law_287 dL_law_289 dL_law_290 dL_law_291 (by decide) rfl (lx_in hin hN (by decide)) ?_
  refine lx_sld (z := nI 4) hC dL_law_292 dL_law_293 dL_law_295 dL_law_296 dL_law_297 (by decide) rfl (lx_in hin hN (by decide)) ?_
  refine lx_sld (z := nI 5) hC dL_law_298 dL_law_299 dL_law_301 dL_law_302 dL_law_303 (by decide) rfl (lx_in hin hN (by decide)) ?_
  refine lx_callV (n := 5) (ci := 12) (Tb := TX12) hC rfl (tg_44 hG2.hT) rfl (D_tell hG2.hT hG2.hR h9.mi (lk_leq hfI) (lk_zr hfJ hZ) _ _ _ _ _ hS) dL_law_304 gC_X12_tell gL_L_143 gI_X12_tell gE_X12_tell gN_X12 ⟨by decide +kernel, by decide +kernel, by decide +kernel⟩ rfl a_le a_le a_le hc hs rfl (fun E T3 I3 J3 R3 hp hQ => by
      obtain ⟨_, _, ⟨b, e, _⟩, _⟩ := hQ
      cases e) (fun v2 T3 I3 J3 R3 hp3 hQ3 => ?_)
  obtain ⟨e1, e2, ⟨b, e3, hb⟩, h61, hL3, hfI3, hfJ3, hZ3⟩ := hQ3
  cases e3
  rw [e1, e2]
  show YW sb X (C + 3) (S + 200) 307 [none, some (.ref 0), some (.ref 44), some (.ref 94), some (.int (nI (7 * c))), some (.int (nI k)), none] [.int b] T2 I3 J3 R2
  exact lk_tail hC hG2.hT hG2.hR h61 hk hb (fun z => by rw [hfJ3 94 (by decide)]; exact hv z) hc hs dL_law_307 dL_law_309 dL_law_310 dL_law_313 dL_law_315 dL_law_320 dL_law_322 dL_law_325 dL_law_326 dL_law_327 dL_law_328 dL_law_330 dL_law_331 dL_law_332 dL_law_337 (by decide) (fun _ _ => kk _ _ _ _ _ _ (lk_gi hG2 hfI3 hfJ3 hL3) hZ3)
theorem lk_draft {sb N : Nat} {xs : Nat → Int32} {X : aX} {C S : Nat} {T : List aT} {I : aI} {J : aJ} {R : aR} {c : Nat} (hC : YC yL_law cL_law 7 12 438 601024 7293034 sb N xs X) (hG : GI T I J R I c) (hZ : Zr J) (hin : 7 * c + 7 ≤ N) (hN : N ≤ 3584) (hc : C + 3 ≤ 601024) (hs : S + 200 ≤ 7293034) (kk : ∀ (a9 b9 : Option Value) (T2 : List aT) (I2 : aI) (J2 : aJ) (R2 : aR), GI T2 I2 J2 R2 I2 (c + 1) → Zr J2 → YW sb X (C + 3) (S + 200) 2838 [none, some (.ref 0), some (.ref 44), some (.ref 94), some (.int (nI (7 * c))), a9, b9] [] T2 I2 J2 R2) : YW sb X C S 340 [none, some (.ref 0), some (.ref 44), some (.ref 94), some (.int (nI (7 * c))), none, none] [] T I J R := by
  have hT := hG.hT
  obtain ⟨n, sq, g, gq, eq, r, p, pq, k0, h9⟩ := hG
  refine lx_aload_n hC dL_law_340 rfl ?_
  refine lx_sld (z := nI 1) hC dL_law_341 dL_law_342 dL_law_344 dL_law_345 dL_law_346 (by decide) rfl (lx_in hin hN (by decide)) ?_
  refine lx_sld (z := nI 2) hC dL_law_347 dL_law_348 dL_law_350 dL_law_351 dL_law_352 (by decide) rfl (lx_in hin hN (by decide)) ?_
  refine lx_sld (z := nI 3) hC dL_law_353 dL_law_354 dL_law_356 dL_law_357 dL_law_358 (by decide) rfl (lx_in hin hN (by decide)) ?_
  refine lx_sld (z := nI 4) hC dL_law_359 dL_law_360 dL_law_362 dL_law_363 dL_law_364 (by decide) rfl (lx_in hin hN (by decide)) ?_
  refine lx_sld (z := nI 5) hC dL_law_365 dL_law_366 dL_law_368 dL_law_369 dL_law_370 (by decide) rfl (lx_in hin hN (by decide)) ?_
  refine lx_aload_n hC dL_law_371 rfl ?_
  refine lx_callSX (n := 7) (As := [.ref 0, .int (xs (nI (7 * c) + nI 1).toNatClampNeg), .int (xs (nI (7 * c) + nI 2).toNatClampNeg), .int (xs (nI (7 * c) + nI 3).toNatClampNeg), .int (xs (nI (7 * c) + nI 4).toNatClampNeg), .int (xs (nI (7 * c) + nI 5).toNatClampNeg), .ref 94]) hC (m_L_draft hT _ _ _ _ _ (m_X11_draft h9 _ _ _ _ _)) dL_law_372 gC_L_draft gL_L_147 gS_L_draft gN_L ⟨by decide +kernel, by decide +kernel, by decide +kernel⟩ rfl a_le a_le a_le hc hs rfl (fun E T2 I2 J2 R2 hp hQ => by
      obtain ⟨_, _, _, e, _⟩ := hQ
      cases e) (fun v1 T2 I2 J2 R2 hp hQ => ?_)
  obtain ⟨k, v, m2, e, hk, hS, hG2, hfI, hfJ, hv⟩ := hQ
  cases e
  show YW sb X (C + 3) (S + 200) 375 [none, some (.ref 0), some (.ref 44), some (.ref 94), some (.int (nI (7 * c))), none, none] [.int (nI k)] T2 I2 J2 R2
  refine lx_istore (L2 := [none, some (.ref 0), some (.ref 44), some (.ref 94), some (.int (nI (7 * c))), some (.int (nI k)), none]) hC dL_law_375 (by decide) (by decide) rfl ?_
  refine lx_aload_n hC dL_law_377 rfl ?_
  refine lx_sld (z := nI 1) hC dL_law_378 dL_law_379 dL_law_381 dL_law_382 dL_law_383 (by decide) rfl (lx_in hin hN (by decide)) ?_
  refine lx_sld (z := nI 2) hC dL_law_384 dL_law_385 dL_law_387 dL_law_388 dL_law_389 (by decide) rfl (lx_in hin hN (by decide)) ?_
  refine lx_sld (z := nI 3) hC dL_law_390 dL_law_391 dL_law_393 dL_law_394 dL_law_395 (by decide) rfl (lx_in hin hN (by decide)) ?_
  refine lx_sld (z := nI 4) hC dL_law_396 dL_law_397 dL_law_399 dL_law_400 dL_law_401 (by decide) rfl (lx_in hin hN (by decide)) ?_
  refine lx_sld (z := nI 5) hC dL_law_402 dL_law_403 dL_law_405 dL_law_406 dL_law_407 (by decide) rfl (lx_in hin hN (by decide)) ?_
  refine lx_callV (n := 5) (ci := 12) (Tb := TX12) hC rfl (tg_44 hG2.hT) rfl (D_draft hG2.hT hG2.hR h9.mi (lk_leq hfI) (lk_zr hfJ hZ) _ _ _ _ _ hS) dL_law_408 gC_X12_draft gL_L_149 gI_X12_draft gE_X12_draft gN_X12 ⟨by decide +kernel, by decide +kernel, by decide +kernel⟩ rfl a_le a_le a_le hc hs rfl (fun E T3 I3 J3 R3 hp hQ => by
      obtain ⟨_, _, ⟨b, e, _⟩, _⟩ := hQ
      cases e) (fun v2 T3 I3 J3 R3 hp3 hQ3 => ?_)
  obtain ⟨e1, e2, ⟨b, e3, hb⟩, h61, hL3, hfI3, hfJ3, hZ3⟩ := hQ3
  cases e3
  rw [e1, e2]
  show YW sb X (C + 3) (S + 200) 411 [none, some (.ref 0), some (.ref 44), some (.ref 94), some (.int (nI (7 * c))), some (.int (nI k)), none] [.int b] T2 I3 J3 R2
  exact lk_tail hC hG2.hT hG2.hR h61 hk hb (fun z => by rw [hfJ3 94 (by decide)]; exact hv z) hc hs dL_law_411 dL_law_413 dL_law_414 dL_law_417 dL_law_419 dL_law_424 dL_law_426 dL_law_429 dL_law_430 dL_law_431 dL_law_432 dL_law_434 dL_law_435 dL_law_436 dL_law_441 (by decide) (fun _ _ => kk _ _ _ _ _ _ (lk_gi hG2 hfI3 hfJ3 hL3) hZ3)
theorem lk_publish {sb N : Nat} {xs : Nat → Int32} {X : aX} {C S : Nat} {T : List aT} {I : aI} {J : aJ} {R : aR} {c : Nat} (hC : YC yL_law cL_law 7 12 438 601024 7293034 sb N xs X) (hG : GI T I J R I c) (hZ : Zr J) (hin : 7 * c + 7 ≤ N) (hN : N ≤ 3584) (hc : C + 3 ≤ 601024) (hs : S + 200 ≤ 7293034) (kk : ∀ (a9 b9 : Option Value) (T2 : List aT) (I2 : aI) (J2 : aJ) (R2 : aR), GI T2 I2 J2 R2 I2 (c + 1) → Zr J2 → YW sb X (C + 3) (S + 200) 2838 [none, some (.ref 0), some (.ref 44), some (.ref 94), some (.int (nI (7 * c))), a9, b9] [] T2 I2 J2 R2) : YW sb X C S 444 [none, some (.ref 0), some (.ref 44), some (.ref 94), some (.int (nI (7 * c))), none, none] [] T I J R := by
  have hT := hG.hT
  obtain ⟨n, sq, g, gq, eq, r, p, pq, k0, h9⟩ := hG
  refine lx_aload_n hC dL_law_444 rfl ?_
  refine lx_sld (z := nI 1) hC dL_law_445 dL_law_446 dL_law_448 dL_law_449 dL_law_450 (by decide) rfl (lx_in hin hN (by decide)) ?_
  refine lx_aload_n hC dL_law_451 rfl ?_
  refine lx_callSX (n := 3) (As := [.ref 0, .int (xs (nI (7 * c) + nI 1).toNatClampNeg), .ref 94]) hC (m_L_publish hT _ (m_X11_publish h9 _)) dL_law_452 gC_L_publish gL_L_150 gS_L_publish gN_L ⟨by decide +kernel, by decide +kernel, by decide +kernel⟩ rfl a_le a_le a_le hc hs rfl (fun E T2 I2 J2 R2 hp hQ => by
      obtain ⟨_, _, _, e, _⟩ := hQ
      cases e) (fun v1 T2 I2 J2 R2 hp hQ => ?_)
  obtain ⟨k, v, m2, e, hk, hS, hG2, hfI, hfJ, hv⟩ := hQ
  cases e
  show YW sb X (C + 3) (S + 200) 455 [none, some (.ref 0), some (.ref 44), some (.ref 94), some (.int (nI (7 * c))), none, none] [.int (nI k)] T2 I2 J2 R2
  refine lx_istore (L2 := [none, some (.ref 0), some (.ref 44), some (.ref 94), some (.int (nI (7 * c))), some (.int (nI k)), none]) hC dL_law_455 (by decide) (by decide) rfl ?_
  refine lx_aload_n hC dL_law_457 rfl ?_
  refine lx_sld (z := nI 1) hC dL_law_458 dL_law_459 dL_law_461 dL_law_462 dL_law_463 (by decide) rfl (lx_in hin hN (by decide)) ?_
  refine lx_callV (n := 1) (ci := 12) (Tb := TX12) hC rfl (tg_44 hG2.hT) rfl (D_publish hG2.hT hG2.hR h9.mi (lk_leq hfI) (lk_zr hfJ hZ) _ hS) dL_law_464 gC_X12_publish gL_L_153 gI_X12_publish gE_X12_publish gN_X12 ⟨by decide +kernel, by decide +kernel, by decide +kernel⟩ rfl a_le a_le a_le hc hs rfl (fun E T3 I3 J3 R3 hp hQ => by
      obtain ⟨_, _, ⟨b, e, _⟩, _⟩ := hQ
      cases e) (fun v2 T3 I3 J3 R3 hp3 hQ3 => ?_)
  obtain ⟨e1, e2, ⟨b, e3, hb⟩, h61, hL3, hfI3, hfJ3, hZ3⟩ := hQ3
  cases e3
  rw [e1, e2]
  show YW sb X (C + 3) (S + 200) 467 [none, some (.ref 0), some (.ref 44), some (.ref 94), some (.int (nI (7 * c))), some (.int (nI k)), none] [.int b] T2 I3 J3 R2
  exact lk_tail hC hG2.hT hG2.hR h61 hk hb (fun z => by rw [hfJ3 94 (by decide)]; exact hv z) hc hs dL_law_467 dL_law_469 dL_law_470 dL_law_473 dL_law_475 dL_law_480 dL_law_482 dL_law_485 dL_law_486 dL_law_487 dL_law_488 dL_law_490 dL_law_491 dL_law_492 dL_law_497 (by decide) (fun _ _ => kk _ _ _ _ _ _ (lk_gi hG2 hfI3 hfJ3 hL3) hZ3)
theorem lk_remove {sb N : Nat} {xs : Nat → Int32} {X : aX} {C S : Nat} {T : List aT} {I : aI} {J : aJ} {R : aR} {c : Nat} (hC : YC yL_law cL_law 7 12 438 601024 7293034 sb N xs X) (hG : GI T I J R I c) (hZ : Zr J) (hin : 7 * c + 7 ≤ N) (hN : N ≤ 3584) (hc : C + 3 ≤ 601024) (hs : S + 200 ≤ 7293034) (kk : ∀ (a9 b9 : Option Value) (T2 : List aT) (I2 : aI) (J2 : aJ) (R2 : aR), GI T2 I2 J2 R2 I2 (c + 1) → Zr J2 → YW sb X (C + 3) (S + 200) 2838 [none, some (.ref 0), some (.ref 44), some (.ref 94), some (.int (nI (7 * c))), a9, b9] [] T2 I2 J2 R2) : YW sb X C S 500 [none, some (.ref 0), some (.ref 44), some (.ref 94), some (.int (nI (7 * c))), none, none] [] T I J R := by
  have hT := hG.hT
  obtain ⟨n, sq, g, gq, eq, r, p, pq, k0, h9⟩ := hG
  refine lx_aload_n hC dL_law_500 rfl ?_
  refine lx_sld (z := nI 1) hC dL_law_501 dL_law_502 dL_law_504 dL_law_505 dL_law_506 (by decide) rfl (lx_in hin hN (by decide)) ?_
  refine lx_aload_n hC dL_law_507 rfl ?_
  refine lx_callSX (n := 3) (As := [.ref 0, .int (xs (nI (7 * c) + nI 1).toNatClampNeg), .ref 94]) hC (m_L_remove hT _ (m_X11_remove h9 _)) dL_law_508 gC_L_remove gL_L_154 gS_L_remove gN_L ⟨by decide +kernel, by decide +kernel, by decide +kernel⟩ rfl a_le a_le a_le hc hs rfl (fun E T2 I2 J2 R2 hp hQ => by
      obtain ⟨_, _, _, e, _⟩ := hQ
      cases e) (fun v1 T2 I2 J2 R2 hp hQ => ?_)
  obtain ⟨k, v, m2, e, hk, hS, hG2, hfI, hfJ, hv⟩ := hQ
  cases e
  show YW sb X (C + 3) (S + 200) 511 [none, some (.ref 0), some (.ref 44), some (.ref 94), some (.int (nI (7 * c))), none, none] [.int (nI k)] T2 I2 J2 R2
  refine lx_istore (L2 := [none, some (.ref 0), some (.ref 44), some (.ref 94), some (.int (nI (7 * c))), some (.int (nI k)), none]) hC dL_law_511 (by decide) (by decide) rfl ?_
  refine lx_aload_n hC dL_law_513 rfl ?_
  refine lx_sld (z := nI 1) hC dL_law_514 dL_law_515 dL_law_517 dL_law_518 dL_law_519 (by decide) rfl (lx_in hin hN (by decide)) ?_
  refine lx_callV (n := 1) (ci := 12) (Tb := TX12) hC rfl (tg_44 hG2.hT) rfl (D_remove hG2.hT hG2.hR h9.mi (lk_leq hfI) (lk_zr hfJ hZ) _ hS) dL_law_520 gC_X12_remove gL_L_156 gI_X12_remove gE_X12_remove gN_X12 ⟨by decide +kernel, by decide +kernel, by decide +kernel⟩ rfl a_le a_le a_le hc hs rfl (fun E T3 I3 J3 R3 hp hQ => by
      obtain ⟨_, _, ⟨b, e, _⟩, _⟩ := hQ
      cases e) (fun v2 T3 I3 J3 R3 hp3 hQ3 => ?_)
  obtain ⟨e1, e2, ⟨b, e3, hb⟩, h61, hL3, hfI3, hfJ3, hZ3⟩ := hQ3
  cases e3
  rw [e1, e2]
  show YW sb X (C + 3) (S + 200) 523 [none, some (.ref 0), some (.ref 44), some (.ref 94), some (.int (nI (7 * c))), some (.int (nI k)), none] [.int b] T2 I3 J3 R2
  exact lk_tail hC hG2.hT hG2.hR h61 hk hb (fun z => by rw [hfJ3 94 (by decide)]; exact hv z) hc hs dL_law_523 dL_law_525 dL_law_526 dL_law_529 dL_law_531 dL_law_536 dL_law_538 dL_law_541 dL_law_542 dL_law_543 dL_law_544 dL_law_546 dL_law_547 dL_law_548 dL_law_553 (by decide) (fun _ _ => kk _ _ _ _ _ _ (lk_gi hG2 hfI3 hfJ3 hL3) hZ3)
theorem lk_setLayer {sb N : Nat} {xs : Nat → Int32} {X : aX} {C S : Nat} {T : List aT} {I : aI} {J : aJ} {R : aR} {c : Nat} (hC : YC yL_law cL_law 7 12 438 601024 7293034 sb N xs X) (hG : GI T I J R I c) (hZ : Zr J) (hin : 7 * c + 7 ≤ N) (hN : N ≤ 3584) (hc : C + 3 ≤ 601024) (hs : S + 200 ≤ 7293034) (kk : ∀ (a9 b9 : Option Value) (T2 : List aT) (I2 : aI) (J2 : aJ) (R2 : aR), GI T2 I2 J2 R2 I2 (c + 1) → Zr J2 → YW sb X (C + 3) (S + 200) 2838 [none, some (.ref 0), some (.ref 44), some (.ref 94), some (.int (nI (7 * c))), a9, b9] [] T2 I2 J2 R2) : YW sb X C S 556 [none, some (.ref 0), some (.ref 44), some (.ref 94), some (.int (nI (7 * c))), none, none] [] T I J R := by
  have hT := hG.hT
  obtain ⟨n, sq, g, gq, eq, r, p, pq, k0, h9⟩ := hG
  refine lx_aload_n hC dL_law_556 rfl ?_
  refine lx_sld (z := nI 1) hC dL_law_557 dL_law_558 dL_law_560 dL_law_561 dL_law_562 (by decide) rfl (lx_in hin hN (by decide)) ?_
  refine lx_sld (z := nI 2) hC dL_law_563 dL_law_564 dL_law_566 dL_law_567 dL_law_568 (by decide) rfl (lx_in hin hN (by decide)) ?_
  refine lx_aload_n hC dL_law_569 rfl ?_
  refine lx_callSX (n := 4) (As := [.ref 0, .int (xs (nI (7 * c) + nI 1).toNatClampNeg), .int (xs (nI (7 * c) + nI 2).toNatClampNeg), .ref 94]) hC (m_L_setLayer hT _ _ (m_X11_setLayer h9 _ _)) dL_law_570 gC_L_setLayer gL_L_157 gS_L_setLayer gN_L ⟨by decide +kernel, by decide +kernel, by decide +kernel⟩ rfl a_le a_le a_le hc hs rfl (fun E T2 I2 J2 R2 hp hQ => by
      obtain ⟨_, _, _, e, _⟩ := hQ
      cases e) (fun v1 T2 I2 J2 R2 hp hQ => ?_)
  obtain ⟨k, v, m2, e, hk, hS, hG2, hfI, hfJ, hv⟩ := hQ
  cases e
  show YW sb X (C + 3) (S + 200) 573 [none, some (.ref 0), some (.ref 44), some (.ref 94), some (.int (nI (7 * c))), none, none] [.int (nI k)] T2 I2 J2 R2
  refine lx_istore (L2 := [none, some (.ref 0), some (.ref 44), some (.ref 94), some (.int (nI (7 * c))), some (.int (nI k)), none]) hC dL_law_573 (by decide) (by decide) rfl ?_
  refine lx_aload_n hC dL_law_575 rfl ?_
  refine lx_sld (z := nI 1) hC dL_law_576 dL_law_577 dL_law_579 dL_law_580 dL_law_581 (by decide) rfl (lx_in hin hN (by decide)) ?_
  refine lx_sld (z := nI 2) hC dL_law_582 dL_law_583 dL_law_585 dL_law_586 dL_law_587 (by decide) rfl (lx_in hin hN (by decide)) ?_
  refine lx_callV (n := 2) (ci := 12) (Tb := TX12) hC rfl (tg_44 hG2.hT) rfl (D_setLayer hG2.hT hG2.hR h9.mi (lk_leq hfI) (lk_zr hfJ hZ) _ _ hS) dL_law_588 gC_X12_setLayer gL_L_160 gI_X12_setLayer gE_X12_setLayer gN_X12 ⟨by decide +kernel, by decide +kernel, by decide +kernel⟩ rfl a_le a_le a_le hc hs rfl (fun E T3 I3 J3 R3 hp hQ => by
      obtain ⟨_, _, ⟨b, e, _⟩, _⟩ := hQ
      cases e) (fun v2 T3 I3 J3 R3 hp3 hQ3 => ?_)
  obtain ⟨e1, e2, ⟨b, e3, hb⟩, h61, hL3, hfI3, hfJ3, hZ3⟩ := hQ3
  cases e3
  rw [e1, e2]
  show YW sb X (C + 3) (S + 200) 591 [none, some (.ref 0), some (.ref 44), some (.ref 94), some (.int (nI (7 * c))), some (.int (nI k)), none] [.int b] T2 I3 J3 R2
  exact lk_tail hC hG2.hT hG2.hR h61 hk hb (fun z => by rw [hfJ3 94 (by decide)]; exact hv z) hc hs dL_law_591 dL_law_593 dL_law_594 dL_law_597 dL_law_599 dL_law_604 dL_law_606 dL_law_609 dL_law_610 dL_law_611 dL_law_612 dL_law_614 dL_law_615 dL_law_616 dL_law_621 (by decide) (fun _ _ => kk _ _ _ _ _ _ (lk_gi hG2 hfI3 hfJ3 hL3) hZ3)
theorem lk_lock {sb N : Nat} {xs : Nat → Int32} {X : aX} {C S : Nat} {T : List aT} {I : aI} {J : aJ} {R : aR} {c : Nat} (hC : YC yL_law cL_law 7 12 438 601024 7293034 sb N xs X) (hG : GI T I J R I c) (hZ : Zr J) (hin : 7 * c + 7 ≤ N) (hN : N ≤ 3584) (hc : C + 3 ≤ 601024) (hs : S + 200 ≤ 7293034) (kk : ∀ (a9 b9 : Option Value) (T2 : List aT) (I2 : aI) (J2 : aJ) (R2 : aR), GI T2 I2 J2 R2 I2 (c + 1) → Zr J2 → YW sb X (C + 3) (S + 200) 2838 [none, some (.ref 0), some (.ref 44), some (.ref 94), some (.int (nI (7 * c))), a9, b9] [] T2 I2 J2 R2) : YW sb X C S 624 [none, some (.ref 0), some (.ref 44), some (.ref 94), some (.int (nI (7 * c))), none, none] [] T I J R := by
  have hT := hG.hT
  obtain ⟨n, sq, g, gq, eq, r, p, pq, k0, h9⟩ := hG
  refine lx_aload_n hC dL_law_624 rfl ?_
  refine lx_sld (z := nI 1) hC dL_law_625 dL_law_626 dL_law_628 dL_law_629 dL_law_630 (by decide) rfl (lx_in hin hN (by decide)) ?_
  refine lx_sld (z := nI 2) hC dL_law_631 dL_law_632 dL_law_634 dL_law_635 dL_law_636 (by decide) rfl (lx_in hin hN (by decide)) ?_
  refine lx_aload_n hC dL_law_637 rfl ?_
  refine lx_callSX (n := 4) (As := [.ref 0, .int (xs (nI (7 * c) + nI 1).toNatClampNeg), .int (xs (nI (7 * c) + nI 2).toNatClampNeg), .ref 94]) hC (m_L_lock hT _ _ (m_X11_lock h9 _ _)) dL_law_638 gC_L_lock gL_L_161 gS_L_lock gN_L ⟨by decide +kernel, by decide +kernel, by decide +kernel⟩ rfl a_le a_le a_le hc hs rfl (fun E T2 I2 J2 R2 hp hQ => by
      obtain ⟨_, _, _, e, _⟩ := hQ
      cases e) (fun v1 T2 I2 J2 R2 hp hQ => ?_)
  obtain ⟨k, v, m2, e, hk, hS, hG2, hfI, hfJ, hv⟩ := hQ
  cases e
  show YW sb X (C + 3) (S + 200) 641 [none, some (.ref 0), some (.ref 44), some (.ref 94), some (.int (nI (7 * c))), none, none] [.int (nI k)] T2 I2 J2 R2
  refine lx_istore (L2 := [none, some (.ref 0), some (.ref 44), some (.ref 94), some (.int (nI (7 * c))), some (.int (nI k)), none]) hC dL_law_641 (by decide) (by decide) rfl ?_
  refine lx_aload_n hC dL_law_643 rfl ?_
  refine lx_sld (z := nI 1) hC dL_law_644 dL_law_645 dL_law_647 dL_law_648 dL_law_649 (by decide) rfl (lx_in hin hN (by decide)) ?_
  refine lx_sld (z := nI 2) hC dL_law_650 dL_law_651 dL_law_653 dL_law_654 dL_law_655 (by decide) rfl (lx_in hin hN (by decide)) ?_
  refine lx_callV (n := 2) (ci := 12) (Tb := TX12) hC rfl (tg_44 hG2.hT) rfl (D_lock hG2.hT hG2.hR h9.mi (lk_leq hfI) (lk_zr hfJ hZ) _ _ hS) dL_law_656 gC_X12_lock gL_L_163 gI_X12_lock gE_X12_lock gN_X12 ⟨by decide +kernel, by decide +kernel, by decide +kernel⟩ rfl a_le a_le a_le hc hs rfl (fun E T3 I3 J3 R3 hp hQ => by
      obtain ⟨_, _, ⟨b, e, _⟩, _⟩ := hQ
      cases e) (fun v2 T3 I3 J3 R3 hp3 hQ3 => ?_)
  obtain ⟨e1, e2, ⟨b, e3, hb⟩, h61, hL3, hfI3, hfJ3, hZ3⟩ := hQ3
  cases e3
  rw [e1, e2]
  show YW sb X (C + 3) (S + 200) 659 [none, some (.ref 0), some (.ref 44), some (.ref 94), some (.int (nI (7 * c))), some (.int (nI k)), none] [.int b] T2 I3 J3 R2
  exact lk_tail hC hG2.hT hG2.hR h61 hk hb (fun z => by rw [hfJ3 94 (by decide)]; exact hv z) hc hs dL_law_659 dL_law_661 dL_law_662 dL_law_665 dL_law_667 dL_law_672 dL_law_674 dL_law_677 dL_law_678 dL_law_679 dL_law_680 dL_law_682 dL_law_683 dL_law_684 dL_law_689 (by decide) (fun _ _ => kk _ _ _ _ _ _ (lk_gi hG2 hfI3 hfJ3 hL3) hZ3)
theorem lk_except {sb N : Nat} {xs : Nat → Int32} {X : aX} {C S : Nat} {T : List aT} {I : aI} {J : aJ} {R : aR} {c : Nat} (hC : YC yL_law cL_law 7 12 438 601024 7293034 sb N xs X) (hG : GI T I J R I c) (hZ : Zr J) (hin : 7 * c + 7 ≤ N) (hN : N ≤ 3584) (hc : C + 3 ≤ 601024) (hs : S + 200 ≤ 7293034) (kk : ∀ (a9 b9 : Option Value) (T2 : List aT) (I2 : aI) (J2 : aJ) (R2 : aR), GI T2 I2 J2 R2 I2 (c + 1) → Zr J2 → YW sb X (C + 3) (S + 200) 2838 [none, some (.ref 0), some (.ref 44), some (.ref 94), some (.int (nI (7 * c))), a9, b9] [] T2 I2 J2 R2) : YW sb X C S 692 [none, some (.ref 0), some (.ref 44), some (.ref 94), some (.int (nI (7 * c))), none, none] [] T I J R := by
  have hT := hG.hT
  obtain ⟨n, sq, g, gq, eq, r, p, pq, k0, h9⟩ := hG
  refine lx_aload_n hC dL_law_692 rfl ?_
  refine lx_sld (z := nI 1) hC dL_law_693 dL_law_694 dL_law_696 dL_law_697 dL_law_698 (by decide) rfl (lx_in hin hN (by decide)) ?_
  refine lx_sld (z := nI 2) hC dL_law_699 dL_law_700 dL_law_702 dL_law_703 dL_law_704 (by decide) rfl (lx_in hin hN (by decide)) ?_
  refine lx_sld (z := nI 3) hC dL_law_705 dL_law_706 dL_law_708 dL_law_709 dL_law_710 (by decide) rfl (lx_in hin hN (by decide)) ?_
  refine lx_aload_n hC dL_law_711 rfl ?_
  refine lx_callSX (n := 5) (As := [.ref 0, .int (xs (nI (7 * c) + nI 1).toNatClampNeg), .int (xs (nI (7 * c) + nI 2).toNatClampNeg), .int (xs (nI (7 * c) + nI 3).toNatClampNeg), .ref 94]) hC (m_L_except hT _ _ _ (m_X11_except h9 _ _ _)) dL_law_712 gC_L_except gL_L_164 gS_L_except gN_L ⟨by decide +kernel, by decide +kernel, by decide +kernel⟩ rfl a_le a_le a_le hc hs rfl (fun E T2 I2 J2 R2 hp hQ => by
      obtain ⟨_, _, _, e, _⟩ := hQ
      cases e) (fun v1 T2 I2 J2 R2 hp hQ => ?_)
  obtain ⟨k, v, m2, e, hk, hS, hG2, hfI, hfJ, hv⟩ := hQ
  cases e
  show YW sb X (C + 3) (S + 200) 715 [none, some (.ref 0), some (.ref 44), some (.ref 94), some (.int (nI (7 * c))), none, none] [.int (nI k)] T2 I2 J2 R2
  refine lx_istore (L2 := [none, some (.ref 0), some (.ref 44), some (.ref 94), some (.int (nI (7 * c))), some (.int (nI k)), none]) hC dL_law_715 (by decide) (by decide) rfl ?_
  refine lx_aload_n hC dL_law_717 rfl ?_
  refine lx_sld (z := nI 1) hC dL_law_718 dL_law_719 dL_law_721 dL_law_722 dL_law_723 (by decide) rfl (lx_in hin hN (by decide)) ?_
  refine lx_sld (z := nI 2) hC dL_law_724 dL_law_725 dL_law_727 dL_law_728 dL_law_729 (by decide) rfl (lx_in hin hN (by decide)) ?_
  refine lx_sld (z := nI 3) hC dL_law_730 dL_law_731 dL_law_733 dL_law_734 dL_law_735 (by decide) rfl (lx_in hin hN (by decide)) ?_
  refine lx_callV (n := 3) (ci := 12) (Tb := TX12) hC rfl (tg_44 hG2.hT) rfl (D_except hG2.hT hG2.hR h9.mi (lk_leq hfI) (lk_zr hfJ hZ) _ _ _ hS) dL_law_736 gC_X12_except gL_L_167 gI_X12_except gE_X12_except gN_X12 ⟨by decide +kernel, by decide +kernel, by decide +kernel⟩ rfl a_le a_le a_le hc hs rfl (fun E T3 I3 J3 R3 hp hQ => by
      obtain ⟨_, _, ⟨b, e, _⟩, _⟩ := hQ
      cases e) (fun v2 T3 I3 J3 R3 hp3 hQ3 => ?_)
  obtain ⟨e1, e2, ⟨b, e3, hb⟩, h61, hL3, hfI3, hfJ3, hZ3⟩ := hQ3
  cases e3
  rw [e1, e2]
  show YW sb X (C + 3) (S + 200) 739 [none, some (.ref 0), some (.ref 44), some (.ref 94), some (.int (nI (7 * c))), some (.int (nI k)), none] [.int b] T2 I3 J3 R2
  exact lk_tail hC hG2.hT hG2.hR h61 hk hb (fun z => by rw [hfJ3 94 (by decide)]; exact hv z) hc hs dL_law_739 dL_law_741 dL_law_742 dL_law_745 dL_law_747 dL_law_752 dL_law_754 dL_law_757 dL_law_758 dL_law_759 dL_law_760 dL_law_762 dL_law_763 dL_law_764 dL_law_769 (by decide) (fun _ _ => kk _ _ _ _ _ _ (lk_gi hG2 hfI3 hfJ3 hL3) hZ3)
theorem lk_pass {sb N : Nat} {xs : Nat → Int32} {X : aX} {C S : Nat} {T : List aT} {I : aI} {J : aJ} {R : aR} {c : Nat} (hC : YC yL_law cL_law 7 12 438 601024 7293034 sb N xs X) (hG : GI T I J R I c) (hZ : Zr J) (hin : 7 * c + 7 ≤ N) (hN : N ≤ 3584) (hc : C + 3 ≤ 601024) (hs : S + 200 ≤ 7293034) (kk : ∀ (a9 b9 : Option Value) (T2 : List aT) (I2 : aI) (J2 : aJ) (R2 : aR), GI T2 I2 J2 R2 I2 (c + 1) → Zr J2 → YW sb X (C + 3) (S + 200) 2838 [none, some (.ref 0), some (.ref 44), some (.ref 94), some (.int (nI (7 * c))), a9, b9] [] T2 I2 J2 R2) : YW sb X C S 772 [none, some (.ref 0), some (.ref 44), some (.ref 94), some (.int (nI (7 * c))), none, none] [] T I J R := by
  have hT := hG.hT
  obtain ⟨n, sq, g, gq, eq, r, p, pq, k0, h9⟩ := hG
  refine lx_aload_n hC dL_law_772 rfl ?_
  refine lx_sld (z := nI 1) hC dL_law_773 dL_law_774 dL_law_776 dL_law_777 dL_law_778 (by decide) rfl (lx_in hin hN (by decide)) ?_
  refine lx_aload_n hC dL_law_779 rfl ?_
  refine lx_callSX (n := 3) (As := [.ref 0, .int (xs (nI (7 * c) + nI 1).toNatClampNeg), .ref 94]) hC (m_L_pass hT _ (m_X11_pass h9 _)) dL_law_780 gC_L_pass gL_L_168 gS_L_pass gN_L ⟨by decide +kernel, by decide +kernel, by decide +kernel⟩ rfl a_le a_le a_le hc hs rfl (fun E T2 I2 J2 R2 hp hQ => by
      obtain ⟨_, _, _, e, _⟩ := hQ
      cases e) (fun v1 T2 I2 J2 R2 hp hQ => ?_)
  obtain ⟨k, v, m2, e, hk, hS, hG2, hfI, hfJ, hv⟩ := hQ
  cases e
  show YW sb X (C + 3) (S + 200) 783 [none, some (.ref 0), some (.ref 44), some (.ref 94), some (.int (nI (7 * c))), none, none] [.int (nI k)] T2 I2 J2 R2
  refine lx_istore (L2 := [none, some (.ref 0), some (.ref 44), some (.ref 94), some (.int (nI (7 * c))), some (.int (nI k)), none]) hC dL_law_783 (by decide) (by decide) rfl ?_
  refine lx_aload_n hC dL_law_785 rfl ?_
  refine lx_sld (z := nI 1) hC dL_law_786 dL_law_787 dL_law_789 dL_law_790 dL_law_791 (by decide) rfl (lx_in hin hN (by decide)) ?_
  refine lx_callV (n := 1) (ci := 12) (Tb := TX12) hC rfl (tg_44 hG2.hT) rfl (D_pass hG2.hT hG2.hR h9.mi (lk_leq hfI) (lk_zr hfJ hZ) _ hS) dL_law_792 gC_X12_pass gL_L_170 gI_X12_pass gE_X12_pass gN_X12 ⟨by decide +kernel, by decide +kernel, by decide +kernel⟩ rfl a_le a_le a_le hc hs rfl (fun E T3 I3 J3 R3 hp hQ => by
      obtain ⟨_, _, ⟨b, e, _⟩, _⟩ := hQ
      cases e) (fun v2 T3 I3 J3 R3 hp3 hQ3 => ?_)
  obtain ⟨e1, e2, ⟨b, e3, hb⟩, h61, hL3, hfI3, hfJ3, hZ3⟩ := hQ3
  cases e3
  rw [e1, e2]
  show YW sb X (C + 3) (S + 200) 795 [none, some (.ref 0), some (.ref 44), some (.ref 94), some (.int (nI (7 * c))), some (.int (nI k)), none] [.int b] T2 I3 J3 R2
  exact lk_tail hC hG2.hT hG2.hR h61 hk hb (fun z => by rw [hfJ3 94 (by decide)]; exact hv z) hc hs dL_law_795 dL_law_797 dL_law_798 dL_law_801 dL_law_803 dL_law_808 dL_law_810 dL_law_813 dL_law_814 dL_law_815 dL_law_816 dL_law_818 dL_law_819 dL_law_820 dL_law_825 (by decide) (fun _ _ => kk _ _ _ _ _ _ (lk_gi hG2 hfI3 hfJ3 hL3) hZ3)
theorem lk_standing {sb N : Nat} {xs : Nat → Int32} {X : aX} {C S : Nat} {T : List aT} {I : aI} {J : aJ} {R : aR} {c : Nat} (hC : YC yL_law cL_law 7 12 438 601024 7293034 sb N xs X) (hG : GI T I J R I c) (hZ : Zr J) (hin : 7 * c + 7 ≤ N) (hN : N ≤ 3584) (hc : C + 3 ≤ 601024) (hs : S + 200 ≤ 7293034) (kk : ∀ (a9 b9 : Option Value) (T2 : List aT) (I2 : aI) (J2 : aJ) (R2 : aR), GI T2 I2 J2 R2 I2 (c + 1) → Zr J2 → YW sb X (C + 3) (S + 200) 2838 [none, some (.ref 0), some (.ref 44), some (.ref 94), some (.int (nI (7 * c))), a9, b9] [] T2 I2 J2 R2) : YW sb X C S 828 [none, some (.ref 0), some (.ref 44), some (.ref 94), some (.int (nI (7 * c))), none, none] [] T I J R := by
  have hT := hG.hT
  obtain ⟨n, sq, g, gq, eq, r, p, pq, k0, h9⟩ := hG
  refine lx_aload_n hC dL_law_828 rfl ?_
  refine lx_sld (z := nI 1) hC dL_law_829 dL_law_830 dL_law_832 dL_law_833 dL_law_834 (by decide) rfl (lx_in hin hN (by decide)) ?_
  refine lx_aload_n hC dL_law_835 rfl ?_
  refine lx_callSX (n := 3) (As := [.ref 0, .int (xs (nI (7 * c) + nI 1).toNatClampNeg), .ref 94]) hC (m_L_standing hT _ (m_X11_standing h9 _)) dL_law_836 gC_L_standing gL_L_171 gS_L_standing gN_L ⟨by decide +kernel, by decide +kernel, by decide +kernel⟩ rfl a_le a_le a_le hc hs rfl (fun E T2 I2 J2 R2 hp hQ => by
      obtain ⟨_, _, _, e, _⟩ := hQ
      cases e) (fun v1 T2 I2 J2 R2 hp hQ => ?_)
  obtain ⟨k, v, m2, e, hk, hS, hG2, hfI, hfJ, hv⟩ := hQ
  cases e
  show YW sb X (C + 3) (S + 200) 839 [none, some (.ref 0), some (.ref 44), some (.ref 94), some (.int (nI (7 * c))), none, none] [.int (nI k)] T2 I2 J2 R2
  refine lx_istore (L2 := [none, some (.ref 0), some (.ref 44), some (.ref 94), some (.int (nI (7 * c))), some (.int (nI k)), none]) hC dL_law_839 (by decide) (by decide) rfl ?_
  refine lx_aload_n hC dL_law_841 rfl ?_
  refine lx_sld (z := nI 1) hC dL_law_842 dL_law_843 dL_law_845 dL_law_846 dL_law_847 (by decide) rfl (lx_in hin hN (by decide)) ?_
  refine lx_callV (n := 1) (ci := 12) (Tb := TX12) hC rfl (tg_44 hG2.hT) rfl (D_standing hG2.hT hG2.hR h9.mi (lk_leq hfI) (lk_zr hfJ hZ) _ hS) dL_law_848 gC_X12_standing gL_L_173 gI_X12_standing gE_X12_standing gN_X12 ⟨by decide +kernel, by decide +kernel, by decide +kernel⟩ rfl a_le a_le a_le hc hs rfl (fun E T3 I3 J3 R3 hp hQ => by
      obtain ⟨_, _, ⟨b, e, _⟩, _⟩ := hQ
      cases e) (fun v2 T3 I3 J3 R3 hp3 hQ3 => ?_)
  obtain ⟨e1, e2, ⟨b, e3, hb⟩, h61, hL3, hfI3, hfJ3, hZ3⟩ := hQ3
  cases e3
  rw [e1, e2]
  show YW sb X (C + 3) (S + 200) 851 [none, some (.ref 0), some (.ref 44), some (.ref 94), some (.int (nI (7 * c))), some (.int (nI k)), none] [.int b] T2 I3 J3 R2
  exact lk_tail hC hG2.hT hG2.hR h61 hk hb (fun z => by rw [hfJ3 94 (by decide)]; exact hv z) hc hs dL_law_851 dL_law_853 dL_law_854 dL_law_857 dL_law_859 dL_law_864 dL_law_866 dL_law_869 dL_law_870 dL_law_871 dL_law_872 dL_law_874 dL_law_875 dL_law_876 dL_law_881 (by decide) (fun _ _ => kk _ _ _ _ _ _ (lk_gi hG2 hfI3 hfJ3 hL3) hZ3)
theorem lk_value {sb N : Nat} {xs : Nat → Int32} {X : aX} {C S : Nat} {T : List aT} {I : aI} {J : aJ} {R : aR} {c : Nat} (hC : YC yL_law cL_law 7 12 438 601024 7293034 sb N xs X) (hG : GI T I J R I c) (hZ : Zr J) (hin : 7 * c + 7 ≤ N) (hN : N ≤ 3584) (hc : C + 3 ≤ 601024) (hs : S + 200 ≤ 7293034) (kk : ∀ (a9 b9 : Option Value) (T2 : List aT) (I2 : aI) (J2 : aJ) (R2 : aR), GI T2 I2 J2 R2 I2 (c + 1) → Zr J2 → YW sb X (C + 3) (S + 200) 2838 [none, some (.ref 0), some (.ref 44), some (.ref 94), some (.int (nI (7 * c))), a9, b9] [] T2 I2 J2 R2) : YW sb X C S 884 [none, some (.ref 0), some (.ref 44), some (.ref 94), some (.int (nI (7 * c))), none, none] [] T I J R := by
  have hT := hG.hT
  obtain ⟨n, sq, g, gq, eq, r, p, pq, k0, h9⟩ := hG
  refine lx_aload_n hC dL_law_884 rfl ?_
  refine lx_sld (z := nI 1) hC dL_law_885 dL_law_886 dL_law_888 dL_law_889 dL_law_890 (by decide) rfl (lx_in hin hN (by decide)) ?_
  refine lx_aload_n hC dL_law_891 rfl ?_
  refine lx_callSX (n := 3) (As := [.ref 0, .int (xs (nI (7 * c) + nI 1).toNatClampNeg), .ref 94]) hC (m_L_value hT _ (m_X11_value h9 _)) dL_law_892 gC_L_value gL_L_174 gS_L_value gN_L ⟨by decide +kernel, by decide +kernel, by decide +kernel⟩ rfl a_le a_le a_le hc hs rfl (fun E T2 I2 J2 R2 hp hQ => by
      obtain ⟨_, _, _, e, _⟩ := hQ
      cases e) (fun v1 T2 I2 J2 R2 hp hQ => ?_)
  obtain ⟨k, v, m2, e, hk, hS, hG2, hfI, hfJ, hv⟩ := hQ
  cases e
  show YW sb X (C + 3) (S + 200) 895 [none, some (.ref 0), some (.ref 44), some (.ref 94), some (.int (nI (7 * c))), none, none] [.int (nI k)] T2 I2 J2 R2
  refine lx_istore (L2 := [none, some (.ref 0), some (.ref 44), some (.ref 94), some (.int (nI (7 * c))), some (.int (nI k)), none]) hC dL_law_895 (by decide) (by decide) rfl ?_
  refine lx_aload_n hC dL_law_897 rfl ?_
  refine lx_sld (z := nI 1) hC dL_law_898 dL_law_899 dL_law_901 dL_law_902 dL_law_903 (by decide) rfl (lx_in hin hN (by decide)) ?_
  refine lx_callV (n := 1) (ci := 12) (Tb := TX12) hC rfl (tg_44 hG2.hT) rfl (D_value hG2.hT hG2.hR h9.mi (lk_leq hfI) (lk_zr hfJ hZ) _ hS) dL_law_904 gC_X12_value gL_L_176 gI_X12_value gE_X12_value gN_X12 ⟨by decide +kernel, by decide +kernel, by decide +kernel⟩ rfl a_le a_le a_le hc hs rfl (fun E T3 I3 J3 R3 hp hQ => by
      obtain ⟨_, _, ⟨b, e, _⟩, _⟩ := hQ
      cases e) (fun v2 T3 I3 J3 R3 hp3 hQ3 => ?_)
  obtain ⟨e1, e2, ⟨b, e3, hb⟩, h61, hL3, hfI3, hfJ3, hZ3⟩ := hQ3
  cases e3
  rw [e1, e2]
  show YW sb X (C + 3) (S + 200) 907 [none, some (.ref 0), some (.ref 44), some (.ref 94), some (.int (nI (7 * c))), some (.int (nI k)), none] [.int b] T2 I3 J3 R2
  exact lk_tail hC hG2.hT hG2.hR h61 hk hb (fun z => by rw [hfJ3 94 (by decide)]; exact hv z) hc hs dL_law_907 dL_law_909 dL_law_910 dL_law_913 dL_law_915 dL_law_920 dL_law_922 dL_law_925 dL_law_926 dL_law_927 dL_law_928 dL_law_930 dL_law_931 dL_law_932 dL_law_937 (by decide) (fun _ _ => kk _ _ _ _ _ _ (lk_gi hG2 hfI3 hfJ3 hL3) hZ3)
theorem lk_set {sb N : Nat} {xs : Nat → Int32} {X : aX} {C S : Nat} {T : List aT} {I : aI} {J : aJ} {R : aR} {c : Nat} (hC : YC yL_law cL_law 7 12 438 601024 7293034 sb N xs X) (hG : GI T I J R I c) (hZ : Zr J) (hin : 7 * c + 7 ≤ N) (hN : N ≤ 3584) (hc : C + 3 ≤ 601024) (hs : S + 200 ≤ 7293034) (kk : ∀ (a9 b9 : Option Value) (T2 : List aT) (I2 : aI) (J2 : aJ) (R2 : aR), GI T2 I2 J2 R2 I2 (c + 1) → Zr J2 → YW sb X (C + 3) (S + 200) 2838 [none, some (.ref 0), some (.ref 44), some (.ref 94), some (.int (nI (7 * c))), a9, b9] [] T2 I2 J2 R2) : YW sb X C S 940 [none, some (.ref 0), some (.ref 44), some (.ref 94), some (.int (nI (7 * c))), none, none] [] T I J R := by
  have hT := hG.hT
  obtain ⟨n, sq, g, gq, eq, r, p, pq, k0, h9⟩ := hG
  refine lx_aload_n hC dL_law_940 rfl ?_
  refine lx_sld (z := nI 1) hC dL_law_941 dL_law_942 dL_law_944 dL_law_945 dL_law_946 (by decide) rfl (lx_in hin hN (by decide)) ?_
  refine lx_aload_n hC dL_law_947 rfl ?_
  refine lx_callSX (n := 3) (As := [.ref 0, .int (xs (nI (7 * c) + nI 1).toNatClampNeg), .ref 94]) hC (m_L_set hT _ (m_X11_set h9 _)) dL_law_948 gC_L_set gL_L_177 gS_L_set gN_L ⟨by decide +kernel, by decide +kernel, by decide +kernel⟩ rfl a_le a_le a_le hc hs rfl (fun E T2 I2 J2 R2 hp hQ => by
      obtain ⟨_, _, _, e, _⟩ := hQ
      cases e) (fun v1 T2 I2 J2 R2 hp hQ => ?_)
  obtain ⟨k, v, m2, e, hk, hS, hG2, hfI, hfJ, hv⟩ := hQ
  cases e
  show YW sb X (C + 3) (S + 200) 951 [none, some (.ref 0), some (.ref 44), some (.ref 94), some (.int (nI (7 * c))), none, none] [.int (nI k)] T2 I2 J2 R2
  refine lx_istore (L2 := [none, some (.ref 0), some (.ref 44), some (.ref 94), some (.int (nI (7 * c))), some (.int (nI k)), none]) hC dL_law_951 (by decide) (by decide) rfl ?_
  refine lx_aload_n hC dL_law_953 rfl ?_
  refine lx_sld (z := nI 1) hC dL_law_954 dL_law_955 dL_law_957 dL_law_958 dL_law_959 (by decide) rfl (lx_in hin hN (by decide)) ?_
  refine lx_callV (n := 1) (ci := 12) (Tb := TX12) hC rfl (tg_44 hG2.hT) rfl (D_set hG2.hT hG2.hR h9.mi (lk_leq hfI) (lk_zr hfJ hZ) _ hS) dL_law_960 gC_X12_set gL_L_179 gI_X12_set gE_X12_set gN_X12 ⟨by decide +kernel, by decide +kernel, by decide +kernel⟩ rfl a_le a_le a_le hc hs rfl (fun E T3 I3 J3 R3 hp hQ => by
      obtain ⟨_, _, ⟨b, e, _⟩, _⟩ := hQ
      cases e) (fun v2 T3 I3 J3 R3 hp3 hQ3 => ?_)
  obtain ⟨e1, e2, ⟨b, e3, hb⟩, h61, hL3, hfI3, hfJ3, hZ3⟩ := hQ3
  cases e3
  rw [e1, e2]
  show YW sb X (C + 3) (S + 200) 963 [none, some (.ref 0), some (.ref 44), some (.ref 94), some (.int (nI (7 * c))), some (.int (nI k)), none] [.int b] T2 I3 J3 R2
  exact lk_tail hC hG2.hT hG2.hR h61 hk hb (fun z => by rw [hfJ3 94 (by decide)]; exact hv z) hc hs dL_law_963 dL_law_965 dL_law_966 dL_law_969 dL_law_971 dL_law_976 dL_law_978 dL_law_981 dL_law_982 dL_law_983 dL_law_984 dL_law_986 dL_law_987 dL_law_988 dL_law_993 (by decide) (fun _ _ => kk _ _ _ _ _ _ (lk_gi hG2 hfI3 hfJ3 hL3) hZ3)
theorem lk_setAnew {sb N : Nat} {xs : Nat → Int32} {X : aX} {C S : Nat} {T : List aT} {I : aI} {J : aJ} {R : aR} {c : Nat} (hC : YC yL_law cL_law 7 12 438 601024 7293034 sb N xs X) (hG : GI T I J R I c) (hZ : Zr J) (hin : 7 * c + 7 ≤ N) (hN : N ≤ 3584) (hc : C + 3 ≤ 601024) (hs : S + 200 ≤ 7293034) (kk : ∀ (a9 b9 : Option Value) (T2 : List aT) (I2 : aI) (J2 : aJ) (R2 : aR), GI T2 I2 J2 R2 I2 (c + 1) → Zr J2 → YW sb X (C + 3) (S + 200) 2838 [none, some (.ref 0), some (.ref 44), some (.ref 94), some (.int (nI (7 * c))), a9, b9] [] T2 I2 J2 R2) : YW sb X C S 996 [none, some (.ref 0), some (.ref 44), some (.ref 94), some (.int (nI (7 * c))), none, none] [] T I J R := by
  have hT := hG.hT
  obtain ⟨n, sq, g, gq, eq, r, p, pq, k0, h9⟩ := hG
  refine lx_aload_n hC dL_law_996 rfl ?_
  refine lx_sld (z := nI 1) hC dL_law_997 dL_law_998 dL_law_1000 dL_law_1001 dL_law_1002 (by decide) rfl (lx_in hin hN (by decide)) ?_
  refine lx_aload_n hC dL_law_1003 rfl ?_
  refine lx_callSX (n := 3) (As := [.ref 0, .int (xs (nI (7 * c) + nI 1).toNatClampNeg), .ref 94]) hC (m_L_setAnew hT _ (m_X11_setAnew h9 _)) dL_law_1004 gC_L_setAnew gL_L_180 gS_L_setAnew gN_L ⟨by decide +kernel, by decide +kernel, by decide +kernel⟩ rfl a_le a_le a_le hc hs rfl (fun E T2 I2 J2 R2 hp hQ => by
      obtain ⟨_, _, _, e, _⟩ := hQ
      cases e) (fun v1 T2 I2 J2 R2 hp hQ => ?_)
  obtain ⟨k, v, m2, e, hk, hS, hG2, hfI, hfJ, hv⟩ := hQ
  cases e
  show YW sb X (C + 3) (S + 200) 1007 [none, some (.ref 0), some (.ref 44), some (.ref 94), some (.int (nI (7 * c))), none, none] [.int (nI k)] T2 I2 J2 R2
  refine lx_istore (L2 := [none, some (.ref 0), some (.ref 44), some (.ref 94), some (.int (nI (7 * c))), some (.int (nI k)), none]) hC dL_law_1007 (by decide) (by decide) rfl ?_
  refine lx_aload_n hC dL_law_1009 rfl ?_
  refine lx_sld (z := nI 1) hC dL_law_1010 dL_law_1011 dL_law_1013 dL_law_1014 dL_law_1015 (by decide) rfl (lx_in hin hN (by decide)) ?_
  refine lx_callV (n := 1) (ci := 12) (Tb := TX12) hC rfl (tg_44 hG2.hT) rfl (D_setAnew hG2.hT hG2.hR h9.mi (lk_leq hfI) (lk_zr hfJ hZ) _ hS) dL_law_1016 gC_X12_setAnew gL_L_182 gI_X12_setAnew gE_X12_setAnew gN_X12 ⟨by decide +kernel, by decide +kernel, by decide +kernel⟩ rfl a_le a_le a_le hc hs rfl (fun E T3 I3 J3 R3 hp hQ => by
      obtain ⟨_, _, ⟨b, e, _⟩, _⟩ := hQ
      cases e) (fun v2 T3 I3 J3 R3 hp3 hQ3 => ?_)
  obtain ⟨e1, e2, ⟨b, e3, hb⟩, h61, hL3, hfI3, hfJ3, hZ3⟩ := hQ3
  cases e3
  rw [e1, e2]
  show YW sb X (C + 3) (S + 200) 1019 [none, some (.ref 0), some (.ref 44), some (.ref 94), some (.int (nI (7 * c))), some (.int (nI k)), none] [.int b] T2 I3 J3 R2
  exact lk_tail hC hG2.hT hG2.hR h61 hk hb (fun z => by rw [hfJ3 94 (by decide)]; exact hv z) hc hs dL_law_1019 dL_law_1021 dL_law_1022 dL_law_1025 dL_law_1027 dL_law_1032 dL_law_1034 dL_law_1037 dL_law_1038 dL_law_1039 dL_law_1040 dL_law_1042 dL_law_1043 dL_law_1044 dL_law_1049 (by decide) (fun _ _ => kk _ _ _ _ _ _ (lk_gi hG2 hfI3 hfJ3 hL3) hZ3)
theorem lk_conflict {sb N : Nat} {xs : Nat → Int32} {X : aX} {C S : Nat} {T : List aT} {I : aI} {J : aJ} {R : aR} {c : Nat} (hC : YC yL_law cL_law 7 12 438 601024 7293034 sb N xs X) (hG : GI T I J R I c) (hZ : Zr J) (hin : 7 * c + 7 ≤ N) (hN : N ≤ 3584) (hc : C + 3 ≤ 601024) (hs : S + 200 ≤ 7293034) (kk : ∀ (a9 b9 : Option Value) (T2 : List aT) (I2 : aI) (J2 : aJ) (R2 : aR), GI T2 I2 J2 R2 I2 (c + 1) → Zr J2 → YW sb X (C + 3) (S + 200) 2838 [none, some (.ref 0), some (.ref 44), some (.ref 94), some (.int (nI (7 * c))), a9, b9] [] T2 I2 J2 R2) : YW sb X C S 1052 [none, some (.ref 0), some (.ref 44), some (.ref 94), some (.int (nI (7 * c))), none, none] [] T I J R := by
  have hT := hG.hT
  obtain ⟨n, sq, g, gq, eq, r, p, pq, k0, h9⟩ := hG
  refine lx_aload_n hC dL_law_1052 rfl ?_
  refine lx_callV (n := 0) (ci := 11) (Tb := TX11) hC rfl (tg_0 hT) rfl (m_X11_conflict h9) dL_law_1053 gC_X11_conflict gL_L_183 gI_X11_conflict gE_X11_conflict gN_X11 ⟨by decide +kernel, by decide +kernel, by decide +kernel⟩ rfl a_le a_le a_le hc hs rfl (fun E T2 I2 J2 R2 hp hQ => by
      obtain ⟨_, _, e, _⟩ := lk_cp hQ
      cases e) (fun v1 T2 I2 J2 R2 hp hQ => ?_)
  obtain ⟨v, m2, e, hS, hG2, hf⟩ := lk_cp hQ
  cases e
  show YW sb X (C + 3) (S + 200) 1056 [none, some (.ref 0), some (.ref 44), some (.ref 94), some (.int (nI (7 * c))), none, none] [.int v] T2 I2 J2 R2
  refine lx_aload_n hC dL_law_1056 rfl ?_
  refine lx_callV (n := 0) (ci := 12) (Tb := TX12) hC rfl (tg_44 hG2.hT) rfl (D_conflict hG2.hT hG2.hR h9.mi (lk_leq (fun o u z => (hf o u z).1)) (lk_zr (fun o u z => (hf o u (by omega)).2) hZ) hS) dL_law_1057 gC_X12_conflict gL_L_186 gI_X12_conflict gE_X12_conflict gN_X12 ⟨by decide +kernel, by decide +kernel, by decide +kernel⟩ rfl a_le a_le a_le hc hs rfl (fun E T3 I3 J3 R3 hp hQ => by
      obtain ⟨_, _, ⟨b, e, _⟩, _⟩ := hQ
      cases e) (fun v2 T3 I3 J3 R3 hp3 hQ3 => ?_)
  obtain ⟨e1, e2, ⟨b, e3, hb⟩, h61, hL3, hfI3, hfJ3, hZ3⟩ := hQ3
  cases e3
  rw [e1, e2]
  show YW sb X (C + 3) (S + 200) 1060 [none, some (.ref 0), some (.ref 44), some (.ref 94), some (.int (nI (7 * c))), none, none] [.int b, .int v] T2 I3 J3 R2
  exact lx_icmp_eq (tgt := 2838) hC dL_law_1060 (by decide) (fun _ => kk _ _ _ _ _ _ (lk_gi hG2 hfI3 hfJ3 hL3) hZ3) (fun h => absurd (hb rfl).symm h)
theorem lk_policy {sb N : Nat} {xs : Nat → Int32} {X : aX} {C S : Nat} {T : List aT} {I : aI} {J : aJ} {R : aR} {c : Nat} (hC : YC yL_law cL_law 7 12 438 601024 7293034 sb N xs X) (hG : GI T I J R I c) (hZ : Zr J) (hin : 7 * c + 7 ≤ N) (hN : N ≤ 3584) (hc : C + 3 ≤ 601024) (hs : S + 200 ≤ 7293034) (kk : ∀ (a9 b9 : Option Value) (T2 : List aT) (I2 : aI) (J2 : aJ) (R2 : aR), GI T2 I2 J2 R2 I2 (c + 1) → Zr J2 → YW sb X (C + 3) (S + 200) 2838 [none, some (.ref 0), some (.ref 44), some (.ref 94), some (.int (nI (7 * c))), a9, b9] [] T2 I2 J2 R2) : YW sb X C S 1065 [none, some (.ref 0), some (.ref 44), some (.ref 94), some (.int (nI (7 * c))), none, none] [] T I J R := by
  have hT := hG.hT
  obtain ⟨n, sq, g, gq, eq, r, p, pq, k0, h9⟩ := hG
  refine lx_aload_n hC dL_law_1065 rfl ?_
  refine lx_sld (z := nI 1) hC dL_law_1066 dL_law_1067 dL_law_1069 dL_law_1070 dL_law_1071 (by decide) rfl (lx_in hin hN (by decide)) ?_
  refine lx_sld (z := nI 2) hC dL_law_1072 dL_law_1073 dL_law_1075 dL_law_1076 dL_law_1077 (by decide) rfl (lx_in hin hN (by decide)) ?_
  refine lx_sld (z := nI 3) hC dL_law_1078 dL_law_1079 dL_law_1081 dL_law_1082 dL_law_1083 (by decide) rfl (lx_in hin hN (by decide)) ?_
  refine lx_aload_n hC dL_law_1084 rfl ?_
  refine lx_callSX (n := 5) (As := [.ref 0, .int (xs (nI (7 * c) + nI 1).toNatClampNeg), .int (xs (nI (7 * c) + nI 2).toNatClampNeg), .int (xs (nI (7 * c) + nI 3).toNatClampNeg), .ref 94]) hC (m_L_policy hT _ _ _ (m_X11_policy h9 _ _ _)) dL_law_1085 gC_L_policy gL_L_187 gS_L_policy gN_L ⟨by decide +kernel, by decide +kernel, by decide +kernel⟩ rfl a_le a_le a_le hc hs rfl (fun E T2 I2 J2 R2 hp hQ => by
      obtain ⟨_, _, _, e, _⟩ := hQ
      cases e) (fun v1 T2 I2 J2 R2 hp hQ => ?_)
  obtain ⟨k, v, m2, e, hk, hS, hG2, hfI, hfJ, hv⟩ := hQ
  cases e
  show YW sb X (C + 3) (S + 200) 1088 [none, some (.ref 0), some (.ref 44), some (.ref 94), some (.int (nI (7 * c))), none, none] [.int (nI k)] T2 I2 J2 R2
  refine lx_istore (L2 := [none, some (.ref 0), some (.ref 44), some (.ref 94), some (.int (nI (7 * c))), some (.int (nI k)), none]) hC dL_law_1088 (by decide) (by decide) rfl ?_
  refine lx_aload_n hC dL_law_1090 rfl ?_
  refine lx_sld (z := nI 1) hC dL_law_1091 dL_law_1092 dL_law_1094 dL_law_1095 dL_law_1096 (by decide) rfl (lx_in hin hN (by decide)) ?_
  refine lx_sld (z := nI 2) hC dL_law_1097 dL_law_1098 dL_law_1100 dL_law_1101 dL_law_1102 (by decide) rfl (lx_in hin hN (by decide)) ?_
  refine lx_sld (z := nI 3) hC dL_law_1103 dL_law_1104 dL_law_1106 dL_law_1107 dL_law_1108 (by decide) rfl (lx_in hin hN (by decide)) ?_
  refine lx_callV (n := 3) (ci := 12) (Tb := TX12) hC rfl (tg_44 hG2.hT) rfl (D_policy hG2.hT hG2.hR h9.mi (lk_leq hfI) (lk_zr hfJ hZ) _ _ _ hS) dL_law_1109 gC_X12_policy gL_L_189 gI_X12_policy gE_X12_policy gN_X12 ⟨by decide +kernel, by decide +kernel, by decide +kernel⟩ rfl a_le a_le a_le hc hs rfl (fun E T3 I3 J3 R3 hp hQ => by
      obtain ⟨_, _, ⟨b, e, _⟩, _⟩ := hQ
      cases e) (fun v2 T3 I3 J3 R3 hp3 hQ3 => ?_)
  obtain ⟨e1, e2, ⟨b, e3, hb⟩, h61, hL3, hfI3, hfJ3, hZ3⟩ := hQ3
  cases e3
  rw [e1, e2]
  show YW sb X (C + 3) (S + 200) 1112 [none, some (.ref 0), some (.ref 44), some (.ref 94), some (.int (nI (7 * c))), some (.int (nI k)), none] [.int b] T2 I3 J3 R2
  exact lk_tail hC hG2.hT hG2.hR h61 hk hb (fun z => by rw [hfJ3 94 (by decide)]; exact hv z) hc hs dL_law_1112 dL_law_1114 dL_law_1115 dL_law_1118 dL_law_1120 dL_law_1125 dL_law_1127 dL_law_1130 dL_law_1131 dL_law_1132 dL_law_1133 dL_law_1135 dL_law_1136 dL_law_1137 dL_law_1142 (by decide) (fun _ _ => kk _ _ _ _ _ _ (lk_gi hG2 hfI3 hfJ3 hL3) hZ3)
theorem lk_proof {sb N : Nat} {xs : Nat → Int32} {X : aX} {C S : Nat} {T : List aT} {I : aI} {J : aJ} {R : aR} {c : Nat} (hC : YC yL_law cL_law 7 12 438 601024 7293034 sb N xs X) (hG : GI T I J R I c) (hZ : Zr J) (hin : 7 * c + 7 ≤ N) (hN : N ≤ 3584) (hc : C + 3 ≤ 601024) (hs : S + 200 ≤ 7293034) (kk : ∀ (a9 b9 : Option Value) (T2 : List aT) (I2 : aI) (J2 : aJ) (R2 : aR), GI T2 I2 J2 R2 I2 (c + 1) → Zr J2 → YW sb X (C + 3) (S + 200) 2838 [none, some (.ref 0), some (.ref 44), some (.ref 94), some (.int (nI (7 * c))), a9, b9] [] T2 I2 J2 R2) : YW sb X C S 1145 [none, some (.ref 0), some (.ref 44), some (.ref 94), some (.int (nI (7 * c))), none, none] [] T I J R := by
  have hT := hG.hT
  obtain ⟨n, sq, g, gq, eq, r, p, pq, k0, h9⟩ := hG
  refine lx_aload_n hC dL_law_1145 rfl ?_
  refine lx_sld (z := nI 1) hC dL_law_1146 dL_law_1147 dL_law_1149 dL_law_1150 dL_law_1151 (by decide) rfl (lx_in hin hN (by decide)) ?_
  refine lx_aload_n hC dL_law_1152 rfl ?_
  refine lx_callSX (n := 3) (As := [.ref 0, .int (xs (nI (7 * c) + nI 1).toNatClampNeg), .ref 94]) hC (m_L_proof hT _ (m_X11_proof h9 _)) dL_law_1153 gC_L_proof gL_L_190 gS_L_proof gN_L ⟨by decide +kernel, by decide +kernel, by decide +kernel⟩ rfl a_le a_le a_le hc hs rfl (fun E T2 I2 J2 R2 hp hQ => by
      obtain ⟨_, _, _, e, _⟩ := hQ
      cases e) (fun v1 T2 I2 J2 R2 hp hQ => ?_)
  obtain ⟨k, v, m2, e, hk, hS, hG2, hfI, hfJ, hv⟩ := hQ
  cases e
  show YW sb X (C + 3) (S + 200) 1156 [none, some (.ref 0), some (.ref 44), some (.ref 94), some (.int (nI (7 * c))), none, none] [.int (nI k)] T2 I2 J2 R2
  refine lx_istore (L2 := [none, some (.ref 0), some (.ref 44), some (.ref 94), some (.int (nI (7 * c))), some (.int (nI k)), none]) hC dL_law_1156 (by decide) (by decide) rfl ?_
  refine lx_aload_n hC dL_law_1158 rfl ?_
  refine lx_sld (z := nI 1) hC dL_law_1159 dL_law_1160 dL_law_1162 dL_law_1163 dL_law_1164 (by decide) rfl (lx_in hin hN (by decide)) ?_
  refine lx_callV (n := 1) (ci := 12) (Tb := TX12) hC rfl (tg_44 hG2.hT) rfl (D_proof hG2.hT hG2.hR h9.mi (lk_leq hfI) (lk_zr hfJ hZ) _ hS) dL_law_1165 gC_X12_proof gL_L_192 gI_X12_proof gE_X12_proof gN_X12 ⟨by decide +kernel, by decide +kernel, by decide +kernel⟩ rfl a_le a_le a_le hc hs rfl (fun E T3 I3 J3 R3 hp hQ => by
      obtain ⟨_, _, ⟨b, e, _⟩, _⟩ := hQ
      cases e) (fun v2 T3 I3 J3 R3 hp3 hQ3 => ?_)
  obtain ⟨e1, e2, ⟨b, e3, hb⟩, h61, hL3, hfI3, hfJ3, hZ3⟩ := hQ3
  cases e3
  rw [e1, e2]
  show YW sb X (C + 3) (S + 200) 1168 [none, some (.ref 0), some (.ref 44), some (.ref 94), some (.int (nI (7 * c))), some (.int (nI k)), none] [.int b] T2 I3 J3 R2
  exact lk_tail hC hG2.hT hG2.hR h61 hk hb (fun z => by rw [hfJ3 94 (by decide)]; exact hv z) hc hs dL_law_1168 dL_law_1170 dL_law_1171 dL_law_1174 dL_law_1176 dL_law_1181 dL_law_1183 dL_law_1186 dL_law_1187 dL_law_1188 dL_law_1189 dL_law_1191 dL_law_1192 dL_law_1193 dL_law_1198 (by decide) (fun _ _ => kk _ _ _ _ _ _ (lk_gi hG2 hfI3 hfJ3 hL3) hZ3)
theorem lk_tainted {sb N : Nat} {xs : Nat → Int32} {X : aX} {C S : Nat} {T : List aT} {I : aI} {J : aJ} {R : aR} {c : Nat} (hC : YC yL_law cL_law 7 12 438 601024 7293034 sb N xs X) (hG : GI T I J R I c) (hZ : Zr J) (hin : 7 * c + 7 ≤ N) (hN : N ≤ 3584) (hc : C + 3 ≤ 601024) (hs : S + 200 ≤ 7293034) (kk : ∀ (a9 b9 : Option Value) (T2 : List aT) (I2 : aI) (J2 : aJ) (R2 : aR), GI T2 I2 J2 R2 I2 (c + 1) → Zr J2 → YW sb X (C + 3) (S + 200) 2838 [none, some (.ref 0), some (.ref 44), some (.ref 94), some (.int (nI (7 * c))), a9, b9] [] T2 I2 J2 R2) : YW sb X C S 1201 [none, some (.ref 0), some (.ref 44), some (.ref 94), some (.int (nI (7 * c))), none, none] [] T I J R := by
  have hT := hG.hT
  obtain ⟨n, sq, g, gq, eq, r, p, pq, k0, h9⟩ := hG
  refine lx_aload_n hC dL_law_1201 rfl ?_
  refine lx_callV (n := 0) (ci := 11) (Tb := TX11) hC rfl (tg_0 hT) rfl (m_X11_tainted h9) dL_law_1202 gC_X11_tainted gL_L_193 gI_X11_tainted gE_X11_tainted gN_X11 ⟨by decide +kernel, by decide +kernel, by decide +kernel⟩ rfl a_le a_le a_le hc hs rfl (fun E T2 I2 J2 R2 hp hQ => by
      obtain ⟨_, _, e, _⟩ := lk_cp hQ
      cases e) (fun v1 T2 I2 J2 R2 hp hQ => ?_)
  obtain ⟨v, m2, e, hS, hG2, hf⟩ := lk_cp hQ
  cases e
  show YW sb X (C + 3) (S + 200) 1205 [none, some (.ref 0), some (.ref 44), some (.ref 94), some (.int (nI (7 * c))), none, none] [.int v] T2 I2 J2 R2
  refine lx_aload_n hC dL_law_1205 rfl ?_
  refine lx_callV (n := 0) (ci := 12) (Tb := TX12) hC rfl (tg_44 hG2.hT) rfl (D_tainted hG2.hT hG2.hR h9.mi (lk_leq (fun o u z => (hf o u z).1)) (lk_zr (fun o u z => (hf o u (by omega)).2) hZ) hS) dL_law_1206 gC_X12_tainted gL_L_196 gI_X12_tainted gE_X12_tainted gN_X12 ⟨by decide +kernel, by decide +kernel, by decide +kernel⟩ rfl a_le a_le a_le hc hs rfl (fun E T3 I3 J3 R3 hp hQ => by
      obtain ⟨_, _, ⟨b, e, _⟩, _⟩ := hQ
      cases e) (fun v2 T3 I3 J3 R3 hp3 hQ3 => ?_)
  obtain ⟨e1, e2, ⟨b, e3, hb⟩, h61, hL3, hfI3, hfJ3, hZ3⟩ := hQ3
  cases e3
  rw [e1, e2]
  show YW sb X (C + 3) (S + 200) 1209 [none, some (.ref 0), some (.ref 44), some (.ref 94), some (.int (nI (7 * c))), none, none] [.int b, .int v] T2 I3 J3 R2
  exact lx_icmp_eq (tgt := 2838) hC dL_law_1209 (by decide) (fun _ => kk _ _ _ _ _ _ (lk_gi hG2 hfI3 hfJ3 hL3) hZ3) (fun h => absurd (hb rfl).symm h)
theorem lk_setType {sb N : Nat} {xs : Nat → Int32} {X : aX} {C S : Nat} {T : List aT} {I : aI} {J : aJ} {R : aR} {c : Nat} (hC : YC yL_law cL_law 7 12 438 601024 7293034 sb N xs X) (hG : GI T I J R I c) (hZ : Zr J) (hin : 7 * c + 7 ≤ N) (hN : N ≤ 3584) (hc : C + 3 ≤ 601024) (hs : S + 200 ≤ 7293034) (kk : ∀ (a9 b9 : Option Value) (T2 : List aT) (I2 : aI) (J2 : aJ) (R2 : aR), GI T2 I2 J2 R2 I2 (c + 1) → Zr J2 → YW sb X (C + 3) (S + 200) 2838 [none, some (.ref 0), some (.ref 44), some (.ref 94), some (.int (nI (7 * c))), a9, b9] [] T2 I2 J2 R2) : YW sb X C S 1214 [none, some (.ref 0), some (.ref 44), some (.ref 94), some (.int (nI (7 * c))), none, none] [] T I J R := by
  have hT := hG.hT
  obtain ⟨n, sq, g, gq, eq, r, p, pq, k0, h9⟩ := hG
  refine lx_aload_n hC dL_law_1214 rfl ?_
  refine lx_sld (z := nI 1) hC dL_law_1215 dL_law_1216 dL_law_1218 dL_law_1219 dL_law_1220 (by decide) rfl (lx_in hin hN (by decide)) ?_
  refine lx_sld (z := nI 2) hC dL_law_1221 dL_law_1222 dL_law_1224 dL_law_1225 dL_law_1226 (by decide) rfl (lx_in hin hN (by decide)) ?_
  refine lx_sld (z := nI 3) hC dL_law_1227 dL_law_1228 dL_law_1230 dL_law_1231 dL_law_1232 (by decide) rfl (lx_in hin hN (by decide)) ?_
  refine lx_sld (z := nI 4) hC dL_law_1233 dL_law_1234 dL_law_1236 dL_law_1237 dL_law_1238 (by decide) rfl (lx_in hin hN (by decide)) ?_
  refine lx_sld (z := nI 5) hC dL_law_1239 dL_law_1240 dL_law_1242 dL_law_1243 dL_law_1244 (by decide) rfl (lx_in hin hN (by decide)) ?_
  refine lx_bool hC dL_law_1245 dL_law_1248 dL_law_1249 dL_law_1252 ?_
  refine lx_sldb (z := nI 6) hC dL_law_1253 dL_law_1254 dL_law_1256 dL_law_1258 dL_law_1259 (by decide) rfl (lx_in hin hN (by decide)) ?_
  refine lx_bool hC dL_law_1260 dL_law_1263 dL_law_1264 dL_law_1267 ?_
  refine lx_callSX (n := 7) (As := [.ref 0, .int (xs (nI (7 * c) + nI 1).toNatClampNeg), .int (xs (nI (7 * c) + nI 2).toNatClampNeg), .int (xs (nI (7 * c) + nI 3).toNatClampNeg), .int (xs (nI (7 * c) + nI 4).toNatClampNeg), .int (if (xs (nI (7 * c) + nI 5).toNatClampNeg) = 0 then (0 : Int32) else 1), .int (if (xs (nI (7 * c) + nI 6).toNatClampNeg) = 0 then (0 : Int32) else 1)]) hC (m_L_setType hT _ _ _ _ _ _ (m_X11_setType h9 _ _ _ _ _ _ lk_bit lk_bit)) dL_law_1268 gC_L_setType gL_L_197 gS_L_setType gN_L ⟨by decide +kernel, by decide +kernel, by decide +kernel⟩ rfl a_le a_le a_le hc hs rfl (fun E T2 I2 J2 R2 hp hQ => by
      obtain ⟨_, _, e, _⟩ := hQ
      cases e) (fun v1 T2 I2 J2 R2 hp hQ => ?_)
  obtain ⟨k, m2, e, hk, hS, hG2, hfI, hfJ⟩ := hQ
  cases e
  show YW sb X (C + 3) (S + 200) 1271 [none, some (.ref 0), some (.ref 44), some (.ref 94), some (.int (nI (7 * c))), none, none] [.int (nI k)] T2 I2 J2 R2
  refine lx_istore (L2 := [none, some (.ref 0), some (.ref 44), some (.ref 94), some (.int (nI (7 * c))), some (.int (nI k)), none]) hC dL_law_1271 (by decide) (by decide) rfl ?_
  refine lx_aload_n hC dL_law_1273 rfl ?_
  refine lx_sld (z := nI 1) hC dL_law_1274 dL_law_1275 dL_law_1277 dL_law_1278 dL_law_1279 (by decide) rfl (lx_in hin hN (by decide)) ?_
  refine lx_sld (z := nI 2) hC dL_law_1280 dL_law_1281 dL_law_1283 dL_law_1284 dL_law_1285 (by decide) rfl (lx_in hin hN (by decide)) ?_
  refine lx_sld (z := nI 3) hC dL_law_1286 dL_law_1287 dL_law_1289 dL_law_1290 dL_law_1291 (by decide) rfl (lx_in hin hN (by decide)) ?_
  refine lx_sld (z := nI 4) hC dL_law_1292 dL_law_1293 dL_law_1295 dL_law_1296 dL_law_1297 (by decide) rfl (lx_in hin hN (by decide)) ?_
  refine lx_sld (z := nI 5) hC dL_law_1298 dL_law_1299 dL_law_1301 dL_law_1302 dL_law_1303 (by decide) rfl (lx_in hin hN (by decide)) ?_
  refine lx_bool hC dL_law_1304 dL_law_1307 dL_law_1308 dL_law_1311 ?_
  refine lx_sldb (z := nI 6) hC dL_law_1312 dL_law_1313 dL_law_1315 dL_law_1317 dL_law_1318 (by decide) rfl (lx_in hin hN (by decide)) ?_
  refine lx_bool hC dL_law_1319 dL_law_1322 dL_law_1323 dL_law_1326 ?_
  refine lx_callV (n := 6) (ci := 12) (Tb := TX12) hC rfl (tg_44 hG2.hT) rfl (D_setType hG2.hT hG2.hR h9.mi (lk_leq hfI) (lk_zr hfJ hZ) _ _ _ _ _ _ lk_bit lk_bit hS) dL_law_1327 gC_X12_setType gL_L_200 gI_X12_setType gE_X12_setType gN_X12 ⟨by decide +kernel, by decide +kernel, by decide +kernel⟩ rfl a_le a_le a_le hc hs rfl (fun E T3 I3 J3 R3 hp hQ => by
      obtain ⟨_, _, e, _⟩ := hQ
      cases e) (fun v2 T3 I3 J3 R3 hp3 hQ3 => ?_)
  obtain ⟨e1, e2, e3, h61, hL3, hfI3, hfJ3, hZ3⟩ := hQ3
  cases e3
  rw [e1, e2]
  show YW sb X (C + 3) (S + 200) 1330 [none, some (.ref 0), some (.ref 44), some (.ref 94), some (.int (nI (7 * c))), some (.int (nI k)), none] [] T2 I3 J3 R2
  refine lk_thrown hC hG2.hT hG2.hR hc hs dL_law_1330 dL_law_1331 rfl ?_
  refine lx_iload hC dL_law_1334 rfl ?_
  refine lx_icmp_eq (tgt := 1341) hC dL_law_1336 (by decide) (fun _ => ?_) (fun h => absurd h61 h)
  exact lx_goto (tgt := 2838) hC dL_law_1341 (by decide) (kk _ _ _ _ _ _ (lk_gi hG2 hfI3 hfJ3 hL3) hZ3)
theorem lk_generator {sb N : Nat} {xs : Nat → Int32} {X : aX} {C S : Nat} {T : List aT} {I : aI} {J : aJ} {R : aR} {c : Nat} (hC : YC yL_law cL_law 7 12 438 601024 7293034 sb N xs X) (hG : GI T I J R I c) (hZ : Zr J) (hin : 7 * c + 7 ≤ N) (hN : N ≤ 3584) (hc : C + 3 ≤ 601024) (hs : S + 200 ≤ 7293034) (kk : ∀ (a9 b9 : Option Value) (T2 : List aT) (I2 : aI) (J2 : aJ) (R2 : aR), GI T2 I2 J2 R2 I2 (c + 1) → Zr J2 → YW sb X (C + 3) (S + 200) 2838 [none, some (.ref 0), some (.ref 44), some (.ref 94), some (.int (nI (7 * c))), a9, b9] [] T2 I2 J2 R2) : YW sb X C S 1344 [none, some (.ref 0), some (.ref 44), some (.ref 94), some (.int (nI (7 * c))), none, none] [] T I J R := by
  have hT := hG.hT
  obtain ⟨n, sq, g, gq, eq, r, p, pq, k0, h9⟩ := hG
  refine lx_aload_n hC dL_law_1344 rfl ?_
  refine lx_sld (z := nI 1) hC dL_law_1345 dL_law_1346 dL_law_1348 dL_law_1349 dL_law_1350 (by decide) rfl (lx_in hin hN (by decide)) ?_
  refine lx_aload_n hC dL_law_1351 rfl ?_
  refine lx_callSX (n := 3) (As := [.ref 0, .int (xs (nI (7 * c) + nI 1).toNatClampNeg), .ref 94]) hC (m_L_generator hT _ (m_X11_generator h9 _)) dL_law_1352 gC_L_generator gL_L_201 gS_L_generator gN_L ⟨by decide +kernel, by decide +kernel, by decide +kernel⟩ rfl a_le a_le a_le hc hs rfl (fun E T2 I2 J2 R2 hp hQ => by
      obtain ⟨_, _, _, e, _⟩ := hQ
      cases e) (fun v1 T2 I2 J2 R2 hp hQ => ?_)
  obtain ⟨k, v, m2, e, hk, hS, hG2, hfI, hfJ, hv⟩ := hQ
  cases e
  show YW sb X (C + 3) (S + 200) 1355 [none, some (.ref 0), some (.ref 44), some (.ref 94), some (.int (nI (7 * c))), none, none] [.int (nI k)] T2 I2 J2 R2
  refine lx_istore (L2 := [none, some (.ref 0), some (.ref 44), some (.ref 94), some (.int (nI (7 * c))), some (.int (nI k)), none]) hC dL_law_1355 (by decide) (by decide) rfl ?_
  refine lx_aload_n hC dL_law_1357 rfl ?_
  refine lx_sld (z := nI 1) hC dL_law_1358 dL_law_1359 dL_law_1361 dL_law_1362 dL_law_1363 (by decide) rfl (lx_in hin hN (by decide)) ?_
  refine lx_callV (n := 1) (ci := 12) (Tb := TX12) hC rfl (tg_44 hG2.hT) rfl (D_generator hG2.hT hG2.hR h9.mi (lk_leq hfI) (lk_zr hfJ hZ) _ hS) dL_law_1364 gC_X12_generator gL_L_203 gI_X12_generator gE_X12_generator gN_X12 ⟨by decide +kernel, by decide +kernel, by decide +kernel⟩ rfl a_le a_le a_le hc hs rfl (fun E T3 I3 J3 R3 hp hQ => by
      obtain ⟨_, _, ⟨b, e, _⟩, _⟩ := hQ
      cases e) (fun v2 T3 I3 J3 R3 hp3 hQ3 => ?_)
  obtain ⟨e1, e2, ⟨b, e3, hb⟩, h61, hL3, hfI3, hfJ3, hZ3⟩ := hQ3
  cases e3
  rw [e1, e2]
  show YW sb X (C + 3) (S + 200) 1367 [none, some (.ref 0), some (.ref 44), some (.ref 94), some (.int (nI (7 * c))), some (.int (nI k)), none] [.int b] T2 I3 J3 R2
  exact lk_tail hC hG2.hT hG2.hR h61 hk hb (fun z => by rw [hfJ3 94 (by decide)]; exact hv z) hc hs dL_law_1367 dL_law_1369 dL_law_1370 dL_law_1373 dL_law_1375 dL_law_1380 dL_law_1382 dL_law_1385 dL_law_1386 dL_law_1387 dL_law_1388 dL_law_1390 dL_law_1391 dL_law_1392 dL_law_1397 (by decide) (fun _ _ => kk _ _ _ _ _ _ (lk_gi hG2 hfI3 hfJ3 hL3) hZ3)
theorem lk_key {sb N : Nat} {xs : Nat → Int32} {X : aX} {C S : Nat} {T : List aT} {I : aI} {J : aJ} {R : aR} {c : Nat} (hC : YC yL_law cL_law 7 12 438 601024 7293034 sb N xs X) (hG : GI T I J R I c) (hZ : Zr J) (hin : 7 * c + 7 ≤ N) (hN : N ≤ 3584) (hc : C + 3 ≤ 601024) (hs : S + 200 ≤ 7293034) (kk : ∀ (a9 b9 : Option Value) (T2 : List aT) (I2 : aI) (J2 : aJ) (R2 : aR), GI T2 I2 J2 R2 I2 (c + 1) → Zr J2 → YW sb X (C + 3) (S + 200) 2838 [none, some (.ref 0), some (.ref 44), some (.ref 94), some (.int (nI (7 * c))), a9, b9] [] T2 I2 J2 R2) : YW sb X C S 1400 [none, some (.ref 0), some (.ref 44), some (.ref 94), some (.int (nI (7 * c))), none, none] [] T I J R := by
  have hT := hG.hT
  obtain ⟨n, sq, g, gq, eq, r, p, pq, k0, h9⟩ := hG
  refine lx_aload_n hC dL_law_1400 rfl ?_
  refine lx_sld (z := nI 1) hC dL_law_1401 dL_law_1402 dL_law_1404 dL_law_1405 dL_law_1406 (by decide) rfl (lx_in hin hN (by decide)) ?_
  refine lx_sld (z := nI 2) hC dL_law_1407 dL_law_1408 dL_law_1410 dL_law_1411 dL_law_1412 (by decide) rfl (lx_in hin hN (by decide)) ?_
  refine lx_sld (z := nI 3) hC dL_law_1413 dL_law_1414 dL_law_1416 dL_law_1417 dL_law_1418 (by decide) rfl (lx_in hin hN (by decide)) ?_
  refine lx_aload_n hC dL_law_1419 rfl ?_
  refine lx_callSX (n := 5) (As := [.ref 0, .int (xs (nI (7 * c) + nI 1).toNatClampNeg), .int (xs (nI (7 * c) + nI 2).toNatClampNeg), .int (xs (nI (7 * c) + nI 3).toNatClampNeg), .ref 94]) hC (m_L_key hT _ _ _ (m_X11_key h9 _ _ _)) dL_law_1420 gC_L_key gL_L_204 gS_L_key gN_L ⟨by decide +kernel, by decide +kernel, by decide +kernel⟩ rfl a_le a_le a_le hc hs rfl (fun E T2 I2 J2 R2 hp hQ => by
      obtain ⟨_, _, _, e, _⟩ := hQ
      cases e) (fun v1 T2 I2 J2 R2 hp hQ => ?_)
  obtain ⟨k, v, m2, e, hk, hS, hG2, hfI, hfJ, hv⟩ := hQ
  cases e
  show YW sb X (C + 3) (S + 200) 1423 [none, some (.ref 0), some (.ref 44), some (.ref 94), some (.int (nI (7 * c))), none, none] [.int (nI k)] T2 I2 J2 R2
  refine lx_istore (L2 := [none, some (.ref 0), some (.ref 44), some (.ref 94), some (.int (nI (7 * c))), some (.int (nI k)), none]) hC dL_law_1423 (by decide) (by decide) rfl ?_
  refine lx_aload_n hC dL_law_1425 rfl ?_
  refine lx_sld (z := nI 1) hC dL_law_1426 dL_law_1427 dL_law_1429 dL_law_1430 dL_law_1431 (by decide) rfl (lx_in hin hN (by decide)) ?_
  refine lx_sld (z := nI 2) hC dL_law_1432 dL_law_1433 dL_law_1435 dL_law_1436 dL_law_1437 (by decide) rfl (lx_in hin hN (by decide)) ?_
  refine lx_sld (z := nI 3) hC dL_law_1438 dL_law_1439 dL_law_1441 dL_law_1442 dL_law_1443 (by decide) rfl (lx_in hin hN (by decide)) ?_
  refine lx_callV (n := 3) (ci := 12) (Tb := TX12) hC rfl (tg_44 hG2.hT) rfl (D_key hG2.hT hG2.hR h9.mi (lk_leq hfI) (lk_zr hfJ hZ) _ _ _ hS) dL_law_1444 gC_X12_key gL_L_206 gI_X12_key gE_X12_key gN_X12 ⟨by decide +kernel, by decide +kernel, by decide +kernel⟩ rfl a_le a_le a_le hc hs rfl (fun E T3 I3 J3 R3 hp hQ => by
      obtain ⟨_, _, ⟨b, e, _⟩, _⟩ := hQ
      cases e) (fun v2 T3 I3 J3 R3 hp3 hQ3 => ?_)
  obtain ⟨e1, e2, ⟨b, e3, hb⟩, h61, hL3, hfI3, hfJ3, hZ3⟩ := hQ3
  cases e3
  rw [e1, e2]
  show YW sb X (C + 3) (S + 200) 1447 [none, some (.ref 0), some (.ref 44), some (.ref 94), some (.int (nI (7 * c))), some (.int (nI k)), none] [.int b] T2 I3 J3 R2
  exact lk_tail hC hG2.hT hG2.hR h61 hk hb (fun z => by rw [hfJ3 94 (by decide)]; exact hv z) hc hs dL_law_1447 dL_law_1449 dL_law_1450 dL_law_1453 dL_law_1455 dL_law_1460 dL_law_1462 dL_law_1465 dL_law_1466 dL_law_1467 dL_law_1468 dL_law_1470 dL_law_1471 dL_law_1472 dL_law_1477 (by decide) (fun _ _ => kk _ _ _ _ _ _ (lk_gi hG2 hfI3 hfJ3 hL3) hZ3)
theorem lk_unkey {sb N : Nat} {xs : Nat → Int32} {X : aX} {C S : Nat} {T : List aT} {I : aI} {J : aJ} {R : aR} {c : Nat} (hC : YC yL_law cL_law 7 12 438 601024 7293034 sb N xs X) (hG : GI T I J R I c) (hZ : Zr J) (hin : 7 * c + 7 ≤ N) (hN : N ≤ 3584) (hc : C + 3 ≤ 601024) (hs : S + 200 ≤ 7293034) (kk : ∀ (a9 b9 : Option Value) (T2 : List aT) (I2 : aI) (J2 : aJ) (R2 : aR), GI T2 I2 J2 R2 I2 (c + 1) → Zr J2 → YW sb X (C + 3) (S + 200) 2838 [none, some (.ref 0), some (.ref 44), some (.ref 94), some (.int (nI (7 * c))), a9, b9] [] T2 I2 J2 R2) : YW sb X C S 1480 [none, some (.ref 0), some (.ref 44), some (.ref 94), some (.int (nI (7 * c))), none, none] [] T I J R := by
  have hT := hG.hT
  obtain ⟨n, sq, g, gq, eq, r, p, pq, k0, h9⟩ := hG
  refine lx_aload_n hC dL_law_1480 rfl ?_
  refine lx_sld (z := nI 1) hC dL_law_1481 dL_law_1482 dL_law_1484 dL_law_1485 dL_law_1486 (by decide) rfl (lx_in hin hN (by decide)) ?_
  refine lx_sld (z := nI 2) hC dL_law_1487 dL_law_1488 dL_law_1490 dL_law_1491 dL_law_1492 (by decide) rfl (lx_in hin hN (by decide)) ?_
  refine lx_aload_n hC dL_law_1493 rfl ?_
  refine lx_callSX (n := 4) (As := [.ref 0, .int (xs (nI (7 * c) + nI 1).toNatClampNeg), .int (xs (nI (7 * c) + nI 2).toNatClampNeg), .ref 94]) hC (m_L_unkey hT _ _ (m_X11_unkey h9 _ _)) dL_law_1494 gC_L_unkey gL_L_207 gS_L_unkey gN_L ⟨by decide +kernel, by decide +kernel, by decide +kernel⟩ rfl a_le a_le a_le hc hs rfl (fun E T2 I2 J2 R2 hp hQ => by
      obtain ⟨_, _, _, e, _⟩ := hQ
      cases e) (fun v1 T2 I2 J2 R2 hp hQ => ?_)
  obtain ⟨k, v, m2, e, hk, hS, hG2, hfI, hfJ, hv⟩ := hQ
  cases e
  show YW sb X (C + 3) (S + 200) 1497 [none, some (.ref 0), some (.ref 44), some (.ref 94), some (.int (nI (7 * c))), none, none] [.int (nI k)] T2 I2 J2 R2
  refine lx_istore (L2 := [none, some (.ref 0), some (.ref 44), some (.ref 94), some (.int (nI (7 * c))), some (.int (nI k)), none]) hC dL_law_1497 (by decide) (by decide) rfl ?_
  refine lx_aload_n hC dL_law_1499 rfl ?_
  refine lx_sld (z := nI 1) hC dL_law_1500 dL_law_1501 dL_law_1503 dL_law_1504 dL_law_1505 (by decide) rfl (lx_in hin hN (by decide)) ?_
  refine lx_sld (z := nI 2) hC dL_law_1506 dL_law_1507 dL_law_1509 dL_law_1510 dL_law_1511 (by decide) rfl (lx_in hin hN (by decide)) ?_
  refine lx_callV (n := 2) (ci := 12) (Tb := TX12) hC rfl (tg_44 hG2.hT) rfl (D_unkey hG2.hT hG2.hR h9.mi (lk_leq hfI) (lk_zr hfJ hZ) _ _ hS) dL_law_1512 gC_X12_unkey gL_L_209 gI_X12_unkey gE_X12_unkey gN_X12 ⟨by decide +kernel, by decide +kernel, by decide +kernel⟩ rfl a_le a_le a_le hc hs rfl (fun E T3 I3 J3 R3 hp hQ => by
      obtain ⟨_, _, ⟨b, e, _⟩, _⟩ := hQ
      cases e) (fun v2 T3 I3 J3 R3 hp3 hQ3 => ?_)
  obtain ⟨e1, e2, ⟨b, e3, hb⟩, h61, hL3, hfI3, hfJ3, hZ3⟩ := hQ3
  cases e3
  rw [e1, e2]
  show YW sb X (C + 3) (S + 200) 1515 [none, some (.ref 0), some (.ref 44), some (.ref 94), some (.int (nI (7 * c))), some (.int (nI k)), none] [.int b] T2 I3 J3 R2
  exact lk_tail hC hG2.hT hG2.hR h61 hk hb (fun z => by rw [hfJ3 94 (by decide)]; exact hv z) hc hs dL_law_1515 dL_law_1517 dL_law_1518 dL_law_1521 dL_law_1523 dL_law_1528 dL_law_1530 dL_law_1533 dL_law_1534 dL_law_1535 dL_law_1536 dL_law_1538 dL_law_1539 dL_law_1540 dL_law_1545 (by decide) (fun _ _ => kk _ _ _ _ _ _ (lk_gi hG2 hfI3 hfJ3 hL3) hZ3)
theorem lk_bind {sb N : Nat} {xs : Nat → Int32} {X : aX} {C S : Nat} {T : List aT} {I : aI} {J : aJ} {R : aR} {c : Nat} (hC : YC yL_law cL_law 7 12 438 601024 7293034 sb N xs X) (hG : GI T I J R I c) (hZ : Zr J) (hin : 7 * c + 7 ≤ N) (hN : N ≤ 3584) (hc : C + 3 ≤ 601024) (hs : S + 200 ≤ 7293034) (kk : ∀ (a9 b9 : Option Value) (T2 : List aT) (I2 : aI) (J2 : aJ) (R2 : aR), GI T2 I2 J2 R2 I2 (c + 1) → Zr J2 → YW sb X (C + 3) (S + 200) 2838 [none, some (.ref 0), some (.ref 44), some (.ref 94), some (.int (nI (7 * c))), a9, b9] [] T2 I2 J2 R2) : YW sb X C S 1548 [none, some (.ref 0), some (.ref 44), some (.ref 94), some (.int (nI (7 * c))), none, none] [] T I J R := by
  have hT := hG.hT
  obtain ⟨n, sq, g, gq, eq, r, p, pq, k0, h9⟩ := hG
  refine lx_aload_n hC dL_law_1548 rfl ?_
  refine lx_sld (z := nI 1) hC dL_law_1549 dL_law_1550 dL_law_1552 dL_law_1553 dL_law_1554 (by decide) rfl (lx_in hin hN (by decide)) ?_
  refine lx_sld (z := nI 2) hC dL_law_1555 dL_law_1556 dL_law_1558 dL_law_1559 dL_law_1560 (by decide) rfl (lx_in hin hN (by decide)) ?_
  refine lx_sld (z := nI 3) hC dL_law_1561 dL_law_1562 dL_law_1564 dL_law_1565 dL_law_1566 (by decide) rfl (lx_in hin hN (by decide)) ?_
  refine lx_aload_n hC dL_law_1567 rfl ?_
  refine lx_callSX (n := 5) (As := [.ref 0, .int (xs (nI (7 * c) + nI 1).toNatClampNeg), .int (xs (nI (7 * c) + nI 2).toNatClampNeg), .int (xs (nI (7 * c) + nI 3).toNatClampNeg), .ref 94]) hC (m_L_bind hT _ _ _ (m_X11_bind h9 _ _ _)) dL_law_1568 gC_L_bind gL_L_210 gS_L_bind gN_L ⟨by decide +kernel, by decide +kernel, by decide +kernel⟩ rfl a_le a_le a_le hc hs rfl (fun E T2 I2 J2 R2 hp hQ => by
      obtain ⟨_, _, _, e, _⟩ := hQ
      cases e) (fun v1 T2 I2 J2 R2 hp hQ => ?_)
  obtain ⟨k, v, m2, e, hk, hS, hG2, hfI, hfJ, hv⟩ := hQ
  cases e
  show YW sb X (C + 3) (S + 200) 1571 [none, some (.ref 0), some (.ref 44), some (.ref 94), some (.int (nI (7 * c))), none, none] [.int (nI k)] T2 I2 J2 R2
  refine lx_istore (L2 := [none, some (.ref 0), some (.ref 44), some (.ref 94), some (.int (nI (7 * c))), some (.int (nI k)), none]) hC dL_law_1571 (by decide) (by decide) rfl ?_
  refine lx_aload_n hC dL_law_1573 rfl ?_
  refine lx_sld (z := nI 1) hC dL_law_1574 dL_law_1575 dL_law_1577 dL_law_1578 dL_law_1579 (by decide) rfl (lx_in hin hN (by decide)) ?_
  refine lx_sld (z := nI 2) hC dL_law_1580 dL_law_1581 dL_law_1583 dL_law_1584 dL_law_1585 (by decide) rfl (lx_in hin hN (by decide)) ?_
  refine lx_sld (z := nI 3) hC dL_law_1586 dL_law_1587 dL_law_1589 dL_law_1590 dL_law_1591 (by decide) rfl (lx_in hin hN (by decide)) ?_
  refine lx_callV (n := 3) (ci := 12) (Tb := TX12) hC rfl (tg_44 hG2.hT) rfl (D_bind hG2.hT hG2.hR h9.mi (lk_leq hfI) (lk_zr hfJ hZ) _ _ _ hS) dL_law_1592 gC_X12_bind gL_L_212 gI_X12_bind gE_X12_bind gN_X12 ⟨by decide +kernel, by decide +kernel, by decide +kernel⟩ rfl a_le a_le a_le hc hs rfl (fun E T3 I3 J3 R3 hp hQ => by
      obtain ⟨_, _, ⟨b, e, _⟩, _⟩ := hQ
      cases e) (fun v2 T3 I3 J3 R3 hp3 hQ3 => ?_)
  obtain ⟨e1, e2, ⟨b, e3, hb⟩, h61, hL3, hfI3, hfJ3, hZ3⟩ := hQ3
  cases e3
  rw [e1, e2]
  show YW sb X (C + 3) (S + 200) 1595 [none, some (.ref 0), some (.ref 44), some (.ref 94), some (.int (nI (7 * c))), some (.int (nI k)), none] [.int b] T2 I3 J3 R2
  exact lk_tail hC hG2.hT hG2.hR h61 hk hb (fun z => by rw [hfJ3 94 (by decide)]; exact hv z) hc hs dL_law_1595 dL_law_1597 dL_law_1598 dL_law_1601 dL_law_1603 dL_law_1608 dL_law_1610 dL_law_1613 dL_law_1614 dL_law_1615 dL_law_1616 dL_law_1618 dL_law_1619 dL_law_1620 dL_law_1625 (by decide) (fun _ _ => kk _ _ _ _ _ _ (lk_gi hG2 hfI3 hfJ3 hL3) hZ3)
theorem lk_upgrade {sb N : Nat} {xs : Nat → Int32} {X : aX} {C S : Nat} {T : List aT} {I : aI} {J : aJ} {R : aR} {c : Nat} (hC : YC yL_law cL_law 7 12 438 601024 7293034 sb N xs X) (hG : GI T I J R I c) (hZ : Zr J) (hin : 7 * c + 7 ≤ N) (hN : N ≤ 3584) (hc : C + 3 ≤ 601024) (hs : S + 200 ≤ 7293034) (kk : ∀ (a9 b9 : Option Value) (T2 : List aT) (I2 : aI) (J2 : aJ) (R2 : aR), GI T2 I2 J2 R2 I2 (c + 1) → Zr J2 → YW sb X (C + 3) (S + 200) 2838 [none, some (.ref 0), some (.ref 44), some (.ref 94), some (.int (nI (7 * c))), a9, b9] [] T2 I2 J2 R2) : YW sb X C S 1628 [none, some (.ref 0), some (.ref 44), some (.ref 94), some (.int (nI (7 * c))), none, none] [] T I J R := by
  have hT := hG.hT
  obtain ⟨n, sq, g, gq, eq, r, p, pq, k0, h9⟩ := hG
  refine lx_aload_n hC dL_law_1628 rfl ?_
  refine lx_sld (z := nI 1) hC dL_law_1629 dL_law_1630 dL_law_1632 dL_law_1633 dL_law_1634 (by decide) rfl (lx_in hin hN (by decide)) ?_
  refine lx_aload_n hC dL_law_1635 rfl ?_
  refine lx_callSX (n := 3) (As := [.ref 0, .int (xs (nI (7 * c) + nI 1).toNatClampNeg), .ref 94]) hC (m_L_upgrade hT _ (m_X11_upgrade h9 _)) dL_law_1636 gC_L_upgrade gL_L_213 gS_L_upgrade gN_L ⟨by decide +kernel, by decide +kernel, by decide +kernel⟩ rfl a_le a_le a_le hc hs rfl (fun E T2 I2 J2 R2 hp hQ => by
      obtain ⟨_, _, _, e, _⟩ := hQ
      cases e) (fun v1 T2 I2 J2 R2 hp hQ => ?_)
  obtain ⟨k, v, m2, e, hk, hS, hG2, hfI, hfJ, hv⟩ := hQ
  cases e
  show YW sb X (C + 3) (S + 200) 1639 [none, some (.ref 0), some (.ref 44), some (.ref 94), some (.int (nI (7 * c))), none, none] [.int (nI k)] T2 I2 J2 R2
  refine lx_istore (L2 := [none, some (.ref 0), some (.ref 44), some (.ref 94), some (.int (nI (7 * c))), some (.int (nI k)), none]) hC dL_law_1639 (by decide) (by decide) rfl ?_
  refine lx_aload_n hC dL_law_1641 rfl ?_
  refine lx_sld (z := nI 1) hC dL_law_1642 dL_law_1643 dL_law_1645 dL_law_1646 dL_law_1647 (by decide) rfl (lx_in hin hN (by decide)) ?_
  refine lx_callV (n := 1) (ci := 12) (Tb := TX12) hC rfl (tg_44 hG2.hT) rfl (D_upgrade hG2.hT hG2.hR h9.mi (lk_leq hfI) (lk_zr hfJ hZ) _ hS) dL_law_1648 gC_X12_upgrade gL_L_215 gI_X12_upgrade gE_X12_upgrade gN_X12 ⟨by decide +kernel, by decide +kernel, by decide +kernel⟩ rfl a_le a_le a_le hc hs rfl (fun E T3 I3 J3 R3 hp hQ => by
      obtain ⟨_, _, ⟨b, e, _⟩, _⟩ := hQ
      cases e) (fun v2 T3 I3 J3 R3 hp3 hQ3 => ?_)
  obtain ⟨e1, e2, ⟨b, e3, hb⟩, h61, hL3, hfI3, hfJ3, hZ3⟩ := hQ3
  cases e3
  rw [e1, e2]
  show YW sb X (C + 3) (S + 200) 1651 [none, some (.ref 0), some (.ref 44), some (.ref 94), some (.int (nI (7 * c))), some (.int (nI k)), none] [.int b] T2 I3 J3 R2
  exact lk_tail hC hG2.hT hG2.hR h61 hk hb (fun z => by rw [hfJ3 94 (by decide)]; exact hv z) hc hs dL_law_1651 dL_law_1653 dL_law_1654 dL_law_1657 dL_law_1659 dL_law_1664 dL_law_1666 dL_law_1669 dL_law_1670 dL_law_1671 dL_law_1672 dL_law_1674 dL_law_1675 dL_law_1676 dL_law_1681 (by decide) (fun _ _ => kk _ _ _ _ _ _ (lk_gi hG2 hfI3 hfJ3 hL3) hZ3)
theorem lk_given {sb N : Nat} {xs : Nat → Int32} {X : aX} {C S : Nat} {T : List aT} {I : aI} {J : aJ} {R : aR} {c : Nat} (hC : YC yL_law cL_law 7 12 438 601024 7293034 sb N xs X) (hG : GI T I J R I c) (hZ : Zr J) (hin : 7 * c + 7 ≤ N) (hN : N ≤ 3584) (hc : C + 3 ≤ 601024) (hs : S + 200 ≤ 7293034) (kk : ∀ (a9 b9 : Option Value) (T2 : List aT) (I2 : aI) (J2 : aJ) (R2 : aR), GI T2 I2 J2 R2 I2 (c + 1) → Zr J2 → YW sb X (C + 3) (S + 200) 2838 [none, some (.ref 0), some (.ref 44), some (.ref 94), some (.int (nI (7 * c))), a9, b9] [] T2 I2 J2 R2) : YW sb X C S 1684 [none, some (.ref 0), some (.ref 44), some (.ref 94), some (.int (nI (7 * c))), none, none] [] T I J R := by
  have hT := hG.hT
  obtain ⟨n, sq, g, gq, eq, r, p, pq, k0, h9⟩ := hG
  refine lx_aload_n hC dL_law_1684 rfl ?_
  refine lx_sld (z := nI 1) hC dL_law_1685 dL_law_1686 dL_law_1688 dL_law_1689 dL_law_1690 (by decide) rfl (lx_in hin hN (by decide)) ?_
  refine lx_sld (z := nI 2) hC dL_law_1691 dL_law_1692 dL_law_1694 dL_law_1695 dL_law_1696 (by decide) rfl (lx_in hin hN (by decide)) ?_
  refine lx_aload_n hC dL_law_1697 rfl ?_
  refine lx_callSX (n := 4) (As := [.ref 0, .int (xs (nI (7 * c) + nI 1).toNatClampNeg), .int (xs (nI (7 * c) + nI 2).toNatClampNeg), .ref 94]) hC (m_L_given hT _ _ (m_X11_given h9 _ _)) dL_law_1698 gC_L_given gL_L_216 gS_L_given gN_L ⟨by decide +kernel, by decide +kernel, by decide +kernel⟩ rfl a_le a_le a_le hc hs rfl (fun E T2 I2 J2 R2 hp hQ => by
      obtain ⟨_, _, _, e, _⟩ := hQ
      cases e) (fun v1 T2 I2 J2 R2 hp hQ => ?_)
  obtain ⟨k, v, m2, e, hk, hS, hG2, hfI, hfJ, hv⟩ := hQ
  cases e
  show YW sb X (C + 3) (S + 200) 1701 [none, some (.ref 0), some (.ref 44), some (.ref 94), some (.int (nI (7 * c))), none, none] [.int (nI k)] T2 I2 J2 R2
  refine lx_istore (L2 := [none, some (.ref 0), some (.ref 44), some (.ref 94), some (.int (nI (7 * c))), some (.int (nI k)), none]) hC dL_law_1701 (by decide) (by decide) rfl ?_
  refine lx_aload_n hC dL_law_1703 rfl ?_
  refine lx_sld (z := nI 1) hC dL_law_1704 dL_law_1705 dL_law_1707 dL_law_1708 dL_law_1709 (by decide) rfl (lx_in hin hN (by decide)) ?_
  refine lx_sld (z := nI 2) hC dL_law_1710 dL_law_1711 dL_law_1713 dL_law_1714 dL_law_1715 (by decide) rfl (lx_in hin hN (by decide)) ?_
  refine lx_callV (n := 2) (ci := 12) (Tb := TX12) hC rfl (tg_44 hG2.hT) rfl (D_given hG2.hT hG2.hR h9.mi (lk_leq hfI) (lk_zr hfJ hZ) _ _ hS) dL_law_1716 gC_X12_given gL_L_218 gI_X12_given gE_X12_given gN_X12 ⟨by decide +kernel, by decide +kernel, by decide +kernel⟩ rfl a_le a_le a_le hc hs rfl (fun E T3 I3 J3 R3 hp hQ => by
      obtain ⟨_, _, ⟨b, e, _⟩, _⟩ := hQ
      cases e) (fun v2 T3 I3 J3 R3 hp3 hQ3 => ?_)
  obtain ⟨e1, e2, ⟨b, e3, hb⟩, h61, hL3, hfI3, hfJ3, hZ3⟩ := hQ3
  cases e3
  rw [e1, e2]
  show YW sb X (C + 3) (S + 200) 1719 [none, some (.ref 0), some (.ref 44), some (.ref 94), some (.int (nI (7 * c))), some (.int (nI k)), none] [.int b] T2 I3 J3 R2
  exact lk_tail hC hG2.hT hG2.hR h61 hk hb (fun z => by rw [hfJ3 94 (by decide)]; exact hv z) hc hs dL_law_1719 dL_law_1721 dL_law_1722 dL_law_1725 dL_law_1727 dL_law_1732 dL_law_1734 dL_law_1737 dL_law_1738 dL_law_1739 dL_law_1740 dL_law_1742 dL_law_1743 dL_law_1744 dL_law_1749 (by decide) (fun _ _ => kk _ _ _ _ _ _ (lk_gi hG2 hfI3 hfJ3 hL3) hZ3)
theorem lk_pending {sb N : Nat} {xs : Nat → Int32} {X : aX} {C S : Nat} {T : List aT} {I : aI} {J : aJ} {R : aR} {c : Nat} (hC : YC yL_law cL_law 7 12 438 601024 7293034 sb N xs X) (hG : GI T I J R I c) (hZ : Zr J) (hin : 7 * c + 7 ≤ N) (hN : N ≤ 3584) (hc : C + 3 ≤ 601024) (hs : S + 200 ≤ 7293034) (kk : ∀ (a9 b9 : Option Value) (T2 : List aT) (I2 : aI) (J2 : aJ) (R2 : aR), GI T2 I2 J2 R2 I2 (c + 1) → Zr J2 → YW sb X (C + 3) (S + 200) 2838 [none, some (.ref 0), some (.ref 44), some (.ref 94), some (.int (nI (7 * c))), a9, b9] [] T2 I2 J2 R2) : YW sb X C S 1752 [none, some (.ref 0), some (.ref 44), some (.ref 94), some (.int (nI (7 * c))), none, none] [] T I J R := by
  have hT := hG.hT
  obtain ⟨n, sq, g, gq, eq, r, p, pq, k0, h9⟩ := hG
  refine lx_aload_n hC dL_law_1752 rfl ?_
  refine lx_callV (n := 0) (ci := 11) (Tb := TX11) hC rfl (tg_0 hT) rfl (m_X11_pending h9) dL_law_1753 gC_X11_pending gL_L_219 gI_X11_pending gE_X11_pending gN_X11 ⟨by decide +kernel, by decide +kernel, by decide +kernel⟩ rfl a_le a_le a_le hc hs rfl (fun E T2 I2 J2 R2 hp hQ => by
      obtain ⟨_, _, e, _⟩ := lk_cp hQ
      cases e) (fun v1 T2 I2 J2 R2 hp hQ => ?_)
  obtain ⟨v, m2, e, hS, hG2, hf⟩ := lk_cp hQ
  cases e
  show YW sb X (C + 3) (S + 200) 1756 [none, some (.ref 0), some (.ref 44), some (.ref 94), some (.int (nI (7 * c))), none, none] [.int v] T2 I2 J2 R2
  refine lx_aload_n hC dL_law_1756 rfl ?_
  refine lx_callV (n := 0) (ci := 12) (Tb := TX12) hC rfl (tg_44 hG2.hT) rfl (D_pending hG2.hT hG2.hR h9.mi (lk_leq (fun o u z => (hf o u z).1)) (lk_zr (fun o u z => (hf o u (by omega)).2) hZ) hS) dL_law_1757 gC_X12_pending gL_L_222 gI_X12_pending gE_X12_pending gN_X12 ⟨by decide +kernel, by decide +kernel, by decide +kernel⟩ rfl a_le a_le a_le hc hs rfl (fun E T3 I3 J3 R3 hp hQ => by
      obtain ⟨_, _, ⟨b, e, _⟩, _⟩ := hQ
      cases e) (fun v2 T3 I3 J3 R3 hp3 hQ3 => ?_)
  obtain ⟨e1, e2, ⟨b, e3, hb⟩, h61, hL3, hfI3, hfJ3, hZ3⟩ := hQ3
  cases e3
  rw [e1, e2]
  show YW sb X (C + 3) (S + 200) 1760 [none, some (.ref 0), some (.ref 44), some (.ref 94), some (.int (nI (7 * c))), none, none] [.int b, .int v] T2 I3 J3 R2
  exact lx_icmp_eq (tgt := 2838) hC dL_law_1760 (by decide) (fun _ => kk _ _ _ _ _ _ (lk_gi hG2 hfI3 hfJ3 hL3) hZ3) (fun h => absurd (hb rfl).symm h)
theorem lk_differing {sb N : Nat} {xs : Nat → Int32} {X : aX} {C S : Nat} {T : List aT} {I : aI} {J : aJ} {R : aR} {c : Nat} (hC : YC yL_law cL_law 7 12 438 601024 7293034 sb N xs X) (hG : GI T I J R I c) (hZ : Zr J) (hin : 7 * c + 7 ≤ N) (hN : N ≤ 3584) (hc : C + 3 ≤ 601024) (hs : S + 200 ≤ 7293034) (kk : ∀ (a9 b9 : Option Value) (T2 : List aT) (I2 : aI) (J2 : aJ) (R2 : aR), GI T2 I2 J2 R2 I2 (c + 1) → Zr J2 → YW sb X (C + 3) (S + 200) 2838 [none, some (.ref 0), some (.ref 44), some (.ref 94), some (.int (nI (7 * c))), a9, b9] [] T2 I2 J2 R2) : YW sb X C S 1765 [none, some (.ref 0), some (.ref 44), some (.ref 94), some (.int (nI (7 * c))), none, none] [] T I J R := by
  have hT := hG.hT
  obtain ⟨n, sq, g, gq, eq, r, p, pq, k0, h9⟩ := hG
  refine lx_aload_n hC dL_law_1765 rfl ?_
  refine lx_callV (n := 0) (ci := 11) (Tb := TX11) hC rfl (tg_0 hT) rfl (m_X11_differing h9) dL_law_1766 gC_X11_differing gL_L_223 gI_X11_differing gE_X11_differing gN_X11 ⟨by decide +kernel, by decide +kernel, by decide +kernel⟩ rfl a_le a_le a_le hc hs rfl (fun E T2 I2 J2 R2 hp hQ => by
      obtain ⟨_, _, e, _⟩ := lk_cp hQ
      cases e) (fun v1 T2 I2 J2 R2 hp hQ => ?_)
  obtain ⟨v, m2, e, hS, hG2, hf⟩ := lk_cp hQ
  cases e
  show YW sb X (C + 3) (S + 200) 1769 [none, some (.ref 0), some (.ref 44), some (.ref 94), some (.int (nI (7 * c))), none, none] [.int v] T2 I2 J2 R2
  refine lx_aload_n hC dL_law_1769 rfl ?_
  refine lx_callV (n := 0) (ci := 12) (Tb := TX12) hC rfl (tg_44 hG2.hT) rfl (D_differing hG2.hT hG2.hR h9.mi (lk_leq (fun o u z => (hf o u z).1)) (lk_zr (fun o u z => (hf o u (by omega)).2) hZ) hS) dL_law_1770 gC_X12_differing gL_L_226 gI_X12_differing gE_X12_differing gN_X12 ⟨by decide +kernel, by decide +kernel, by decide +kernel⟩ rfl a_le a_le a_le hc hs rfl (fun E T3 I3 J3 R3 hp hQ => by
      obtain ⟨_, _, ⟨b, e, _⟩, _⟩ := hQ
      cases e) (fun v2 T3 I3 J3 R3 hp3 hQ3 => ?_)
  obtain ⟨e1, e2, ⟨b, e3, hb⟩, h61, hL3, hfI3, hfJ3, hZ3⟩ := hQ3
  cases e3
  rw [e1, e2]
  show YW sb X (C + 3) (S + 200) 1773 [none, some (.ref 0), some (.ref 44), some (.ref 94), some (.int (nI (7 * c))), none, none] [.int b, .int v] T2 I3 J3 R2
  exact lx_icmp_eq (tgt := 2838) hC dL_law_1773 (by decide) (fun _ => kk _ _ _ _ _ _ (lk_gi hG2 hfI3 hfJ3 hL3) hZ3) (fun h => absurd (hb rfl).symm h)
theorem lk_plan {sb N : Nat} {xs : Nat → Int32} {X : aX} {C S : Nat} {T : List aT} {I : aI} {J : aJ} {R : aR} {c : Nat} (hC : YC yL_law cL_law 7 12 438 601024 7293034 sb N xs X) (hG : GI T I J R I c) (hZ : Zr J) (hin : 7 * c + 7 ≤ N) (hN : N ≤ 3584) (hc : C + 3 ≤ 601024) (hs : S + 200 ≤ 7293034) (kk : ∀ (a9 b9 : Option Value) (T2 : List aT) (I2 : aI) (J2 : aJ) (R2 : aR), GI T2 I2 J2 R2 I2 (c + 1) → Zr J2 → YW sb X (C + 3) (S + 200) 2838 [none, some (.ref 0), some (.ref 44), some (.ref 94), some (.int (nI (7 * c))), a9, b9] [] T2 I2 J2 R2) : YW sb X C S 1778 [none, some (.ref 0), some (.ref 44), some (.ref 94), some (.int (nI (7 * c))), none, none] [] T I J R := by
  have hT := hG.hT
  obtain ⟨n, sq, g, gq, eq, r, p, pq, k0, h9⟩ := hG
  refine lx_aload_n hC dL_law_1778 rfl ?_
  refine lx_sld (z := nI 1) hC dL_law_1779 dL_law_1780 dL_law_1782 dL_law_1783 dL_law_1784 (by decide) rfl (lx_in hin hN (by decide)) ?_
  refine lx_aload_n hC dL_law_1785 rfl ?_
  refine lx_callSX (n := 3) (As := [.ref 0, .int (xs (nI (7 * c) + nI 1).toNatClampNeg), .ref 94]) hC (m_L_plan hT _ (m_X11_plan h9 _)) dL_law_1786 gC_L_plan gL_L_227 gS_L_plan gN_L ⟨by decide +kernel, by decide +kernel, by decide +kernel⟩ rfl a_le a_le a_le hc hs rfl (fun E T2 I2 J2 R2 hp hQ => by
      obtain ⟨_, _, _, e, _⟩ := hQ
      cases e) (fun v1 T2 I2 J2 R2 hp hQ => ?_)
  obtain ⟨k, v, m2, e, hk, hS, hG2, hfI, hfJ, hv⟩ := hQ
  cases e
  show YW sb X (C + 3) (S + 200) 1789 [none, some (.ref 0), some (.ref 44), some (.ref 94), some (.int (nI (7 * c))), none, none] [.int (nI k)] T2 I2 J2 R2
  refine lx_istore (L2 := [none, some (.ref 0), some (.ref 44), some (.ref 94), some (.int (nI (7 * c))), some (.int (nI k)), none]) hC dL_law_1789 (by decide) (by decide) rfl ?_
  refine lx_aload_n hC dL_law_1791 rfl ?_
  refine lx_sld (z := nI 1) hC dL_law_1792 dL_law_1793 dL_law_1795 dL_law_1796 dL_law_1797 (by decide) rfl (lx_in hin hN (by decide)) ?_
  refine lx_callV (n := 1) (ci := 12) (Tb := TX12) hC rfl (tg_44 hG2.hT) rfl (D_plan hG2.hT hG2.hR h9.mi (lk_leq hfI) (lk_zr hfJ hZ) _ hS) dL_law_1798 gC_X12_plan gL_L_229 gI_X12_plan gE_X12_plan gN_X12 ⟨by decide +kernel, by decide +kernel, by decide +kernel⟩ rfl a_le a_le a_le hc hs rfl (fun E T3 I3 J3 R3 hp hQ => by
      obtain ⟨_, _, ⟨b, e, _⟩, _⟩ := hQ
      cases e) (fun v2 T3 I3 J3 R3 hp3 hQ3 => ?_)
  obtain ⟨e1, e2, ⟨b, e3, hb⟩, h61, hL3, hfI3, hfJ3, hZ3⟩ := hQ3
  cases e3
  rw [e1, e2]
  show YW sb X (C + 3) (S + 200) 1801 [none, some (.ref 0), some (.ref 44), some (.ref 94), some (.int (nI (7 * c))), some (.int (nI k)), none] [.int b] T2 I3 J3 R2
  exact lk_tail hC hG2.hT hG2.hR h61 hk hb (fun z => by rw [hfJ3 94 (by decide)]; exact hv z) hc hs dL_law_1801 dL_law_1803 dL_law_1804 dL_law_1807 dL_law_1809 dL_law_1814 dL_law_1816 dL_law_1819 dL_law_1820 dL_law_1821 dL_law_1822 dL_law_1824 dL_law_1825 dL_law_1826 dL_law_1831 (by decide) (fun _ _ => kk _ _ _ _ _ _ (lk_gi hG2 hfI3 hfJ3 hL3) hZ3)
theorem lk_action {sb N : Nat} {xs : Nat → Int32} {X : aX} {C S : Nat} {T : List aT} {I : aI} {J : aJ} {R : aR} {c : Nat} (hC : YC yL_law cL_law 7 12 438 601024 7293034 sb N xs X) (hG : GI T I J R I c) (hZ : Zr J) (hin : 7 * c + 7 ≤ N) (hN : N ≤ 3584) (hc : C + 3 ≤ 601024) (hs : S + 200 ≤ 7293034) (kk : ∀ (a9 b9 : Option Value) (T2 : List aT) (I2 : aI) (J2 : aJ) (R2 : aR), GI T2 I2 J2 R2 I2 (c + 1) → Zr J2 → YW sb X (C + 3) (S + 200) 2838 [none, some (.ref 0), some (.ref 44), some (.ref 94), some (.int (nI (7 * c))), a9, b9] [] T2 I2 J2 R2) : YW sb X C S 1834 [none, some (.ref 0), some (.ref 44), some (.ref 94), some (.int (nI (7 * c))), none, none] [] T I J R := by
  have hT := hG.hT
  obtain ⟨n, sq, g, gq, eq, r, p, pq, k0, h9⟩ := hG
  refine lx_aload_n hC dL_law_1834 rfl ?_
  refine lx_sld (z := nI 1) hC dL_law_1835 dL_law_1836 dL_law_1838 dL_law_1839 dL_law_1840 (by decide) rfl (lx_in hin hN (by decide)) ?_
  refine lx_sld (z := nI 2) hC dL_law_1841 dL_law_1842 dL_law_1844 dL_law_1845 dL_law_1846 (by decide) rfl (lx_in hin hN (by decide)) ?_
  refine lx_aload_n hC dL_law_1847 rfl ?_
  refine lx_callSX (n := 4) (As := [.ref 0, .int (xs (nI (7 * c) + nI 1).toNatClampNeg), .int (xs (nI (7 * c) + nI 2).toNatClampNeg), .ref 94]) hC (m_L_action hT _ _ (m_X11_action h9 _ _)) dL_law_1848 gC_L_action gL_L_230 gS_L_action gN_L ⟨by decide +kernel, by decide +kernel, by decide +kernel⟩ rfl a_le a_le a_le hc hs rfl (fun E T2 I2 J2 R2 hp hQ => by
      obtain ⟨_, _, _, e, _⟩ := hQ
      cases e) (fun v1 T2 I2 J2 R2 hp hQ => ?_)
  obtain ⟨k, v, m2, e, hk, hS, hG2, hfI, hfJ, hv⟩ := hQ
  cases e
  show YW sb X (C + 3) (S + 200) 1851 [none, some (.ref 0), some (.ref 44), some (.ref 94), some (.int (nI (7 * c))), none, none] [.int (nI k)] T2 I2 J2 R2
  refine lx_istore (L2 := [none, some (.ref 0), some (.ref 44), some (.ref 94), some (.int (nI (7 * c))), some (.int (nI k)), none]) hC dL_law_1851 (by decide) (by decide) rfl ?_
  refine lx_aload_n hC dL_law_1853 rfl ?_
  refine lx_sld (z := nI 1) hC dL_law_1854 dL_law_1855 dL_law_1857 dL_law_1858 dL_law_1859 (by decide) rfl (lx_in hin hN (by decide)) ?_
  refine lx_sld (z := nI 2) hC dL_law_1860 dL_law_1861 dL_law_1863 dL_law_1864 dL_law_1865 (by decide) rfl (lx_in hin hN (by decide)) ?_
  refine lx_callV (n := 2) (ci := 12) (Tb := TX12) hC rfl (tg_44 hG2.hT) rfl (D_action hG2.hT hG2.hR h9.mi (lk_leq hfI) (lk_zr hfJ hZ) _ _ hS) dL_law_1866 gC_X12_action gL_L_232 gI_X12_action gE_X12_action gN_X12 ⟨by decide +kernel, by decide +kernel, by decide +kernel⟩ rfl a_le a_le a_le hc hs rfl (fun E T3 I3 J3 R3 hp hQ => by
      obtain ⟨_, _, ⟨b, e, _⟩, _⟩ := hQ
      cases e) (fun v2 T3 I3 J3 R3 hp3 hQ3 => ?_)
  obtain ⟨e1, e2, ⟨b, e3, hb⟩, h61, hL3, hfI3, hfJ3, hZ3⟩ := hQ3
  cases e3
  rw [e1, e2]
  show YW sb X (C + 3) (S + 200) 1869 [none, some (.ref 0), some (.ref 44), some (.ref 94), some (.int (nI (7 * c))), some (.int (nI k)), none] [.int b] T2 I3 J3 R2
  exact lk_tail hC hG2.hT hG2.hR h61 hk hb (fun z => by rw [hfJ3 94 (by decide)]; exact hv z) hc hs dL_law_1869 dL_law_1871 dL_law_1872 dL_law_1875 dL_law_1877 dL_law_1882 dL_law_1884 dL_law_1887 dL_law_1888 dL_law_1889 dL_law_1890 dL_law_1892 dL_law_1893 dL_law_1894 dL_law_1899 (by decide) (fun _ _ => kk _ _ _ _ _ _ (lk_gi hG2 hfI3 hfJ3 hL3) hZ3)
theorem lk_approve {sb N : Nat} {xs : Nat → Int32} {X : aX} {C S : Nat} {T : List aT} {I : aI} {J : aJ} {R : aR} {c : Nat} (hC : YC yL_law cL_law 7 12 438 601024 7293034 sb N xs X) (hG : GI T I J R I c) (hZ : Zr J) (hin : 7 * c + 7 ≤ N) (hN : N ≤ 3584) (hc : C + 3 ≤ 601024) (hs : S + 200 ≤ 7293034) (kk : ∀ (a9 b9 : Option Value) (T2 : List aT) (I2 : aI) (J2 : aJ) (R2 : aR), GI T2 I2 J2 R2 I2 (c + 1) → Zr J2 → YW sb X (C + 3) (S + 200) 2838 [none, some (.ref 0), some (.ref 44), some (.ref 94), some (.int (nI (7 * c))), a9, b9] [] T2 I2 J2 R2) : YW sb X C S 1902 [none, some (.ref 0), some (.ref 44), some (.ref 94), some (.int (nI (7 * c))), none, none] [] T I J R := by
  have hT := hG.hT
  obtain ⟨n, sq, g, gq, eq, r, p, pq, k0, h9⟩ := hG
  refine lx_aload_n hC dL_law_1902 rfl ?_
  refine lx_sld (z := nI 1) hC dL_law_1903 dL_law_1904 dL_law_1906 dL_law_1907 dL_law_1908 (by decide) rfl (lx_in hin hN (by decide)) ?_
  refine lx_sld (z := nI 2) hC dL_law_1909 dL_law_1910 dL_law_1912 dL_law_1913 dL_law_1914 (by decide) rfl (lx_in hin hN (by decide)) ?_
  refine lx_aload_n hC dL_law_1915 rfl ?_
  refine lx_callSX (n := 4) (As := [.ref 0, .int (xs (nI (7 * c) + nI 1).toNatClampNeg), .int (xs (nI (7 * c) + nI 2).toNatClampNeg), .ref 94]) hC (m_L_approve hT _ _ (fun v m2 h => by
      rcases h with ⟨_, _, h, _⟩ | ⟨_, h, _⟩ | ⟨_, h, _⟩
      · (rw [h]; split <;> simp)
      · exact absurd h (by decide)
      · exact absurd h (by decide)) (m_X11_approve h9 _ _)) dL_law_1916 gC_L_approve gL_L_233 gS_L_approve gN_L ⟨by decide +kernel, by decide +kernel, by decide +kernel⟩ rfl a_le a_le a_le hc hs rfl (fun E T2 I2 J2 R2 hp hQ => by
      obtain ⟨_, _, _, e, _⟩ := hQ
      cases e) (fun v1 T2 I2 J2 R2 hp hQ => ?_)
  obtain ⟨k, v, m2, e, hk, hS, hG2, hfI, hfJ, hv⟩ := hQ
  cases e
  show YW sb X (C + 3) (S + 200) 1919 [none, some (.ref 0), some (.ref 44), some (.ref 94), some (.int (nI (7 * c))), none, none] [.int (nI k)] T2 I2 J2 R2
  refine lx_istore (L2 := [none, some (.ref 0), some (.ref 44), some (.ref 94), some (.int (nI (7 * c))), some (.int (nI k)), none]) hC dL_law_1919 (by decide) (by decide) rfl ?_
  refine lx_aload_n hC dL_law_1921 rfl ?_
  refine lx_sld (z := nI 1) hC dL_law_1922 dL_law_1923 dL_law_1925 dL_law_1926 dL_law_1927 (by decide) rfl (lx_in hin hN (by decide)) ?_
  refine lx_sld (z := nI 2) hC dL_law_1928 dL_law_1929 dL_law_1931 dL_law_1932 dL_law_1933 (by decide) rfl (lx_in hin hN (by decide)) ?_
  refine lx_callV (n := 2) (ci := 12) (Tb := TX12) hC rfl (tg_44 hG2.hT) rfl (D_approve hG2.hT hG2.hR h9.mi (lk_leq hfI) (lk_zr hfJ hZ) _ _ hS) dL_law_1934 gC_X12_approve gL_L_235 gI_X12_approve gE_X12_approve gN_X12 ⟨by decide +kernel, by decide +kernel, by decide +kernel⟩ rfl a_le a_le a_le hc hs rfl (fun E T3 I3 J3 R3 hp hQ => by
      obtain ⟨_, _, ⟨b, e, _⟩, _⟩ := hQ
      cases e) (fun v2 T3 I3 J3 R3 hp3 hQ3 => ?_)
  obtain ⟨e1, e2, ⟨b, e3, hb⟩, h61, hL3, hfI3, hfJ3, hZ3⟩ := hQ3
  cases e3
  rw [e1, e2]
  show YW sb X (C + 3) (S + 200) 1937 [none, some (.ref 0), some (.ref 44), some (.ref 94), some (.int (nI (7 * c))), some (.int (nI k)), none] [.int b] T2 I3 J3 R2
  exact lk_tailb hC hG2.hT hG2.hR h61 hk hb (fun z => by rw [hfJ3 94 (by decide)]; exact hv z) (fun z => by
      have h := hS
      rw [z] at h
      rcases h with ⟨_, _, h, _⟩ | ⟨_, h, _⟩ | ⟨_, h, _⟩
      · (rw [h]; split <;> simp)
      · exact absurd h (by decide)
      · exact absurd h (by decide)) hc hs dL_law_1937 dL_law_1939 dL_law_1940 dL_law_1943 dL_law_1945 dL_law_1950 dL_law_1952 dL_law_1955 dL_law_1956 dL_law_1957 dL_law_1958 dL_law_1960 dL_law_1963 dL_law_1964 dL_law_1967 dL_law_1968 dL_law_1969 dL_law_1974 (by decide) (fun _ _ => kk _ _ _ _ _ _ (lk_gi hG2 hfI3 hfJ3 hL3) hZ3)
theorem lk_isStale {sb N : Nat} {xs : Nat → Int32} {X : aX} {C S : Nat} {T : List aT} {I : aI} {J : aJ} {R : aR} {c : Nat} (hC : YC yL_law cL_law 7 12 438 601024 7293034 sb N xs X) (hG : GI T I J R I c) (hZ : Zr J) (hin : 7 * c + 7 ≤ N) (hN : N ≤ 3584) (hc : C + 3 ≤ 601024) (hs : S + 200 ≤ 7293034) (kk : ∀ (a9 b9 : Option Value) (T2 : List aT) (I2 : aI) (J2 : aJ) (R2 : aR), GI T2 I2 J2 R2 I2 (c + 1) → Zr J2 → YW sb X (C + 3) (S + 200) 2838 [none, some (.ref 0), some (.ref 44), some (.ref 94), some (.int (nI (7 * c))), a9, b9] [] T2 I2 J2 R2) : YW sb X C S 1977 [none, some (.ref 0), some (.ref 44), some (.ref 94), some (.int (nI (7 * c))), none, none] [] T I J R := by
  have hT := hG.hT
  obtain ⟨n, sq, g, gq, eq, r, p, pq, k0, h9⟩ := hG
  refine lx_aload_n hC dL_law_1977 rfl ?_
  refine lx_sld (z := nI 1) hC dL_law_1978 dL_law_1979 dL_law_1981 dL_law_1982 dL_law_1983 (by decide) rfl (lx_in hin hN (by decide)) ?_
  refine lx_aload_n hC dL_law_1984 rfl ?_
  refine lx_callSX (n := 3) (As := [.ref 0, .int (xs (nI (7 * c) + nI 1).toNatClampNeg), .ref 94]) hC (m_L_isStale hT _ (fun v m2 h => by
      rcases h with ⟨_, _, ⟨A, _, h⟩, _⟩ | ⟨_, h, _⟩
      · (rw [h]; exact lk_bI _)
      · exact absurd h (by decide)) (m_X11_isStale h9 _)) dL_law_1985 gC_L_isStale gL_L_236 gS_L_isStale gN_L ⟨by decide +kernel, by decide +kernel, by decide +kernel⟩ rfl a_le a_le a_le hc hs rfl (fun E T2 I2 J2 R2 hp hQ => by
      obtain ⟨_, _, _, e, _⟩ := hQ
      cases e) (fun v1 T2 I2 J2 R2 hp hQ => ?_)
  obtain ⟨k, v, m2, e, hk, hS, hG2, hfI, hfJ, hv⟩ := hQ
  cases e
  show YW sb X (C + 3) (S + 200) 1988 [none, some (.ref 0), some (.ref 44), some (.ref 94), some (.int (nI (7 * c))), none, none] [.int (nI k)] T2 I2 J2 R2
  refine lx_istore (L2 := [none, some (.ref 0), some (.ref 44), some (.ref 94), some (.int (nI (7 * c))), some (.int (nI k)), none]) hC dL_law_1988 (by decide) (by decide) rfl ?_
  refine lx_aload_n hC dL_law_1990 rfl ?_
  refine lx_sld (z := nI 1) hC dL_law_1991 dL_law_1992 dL_law_1994 dL_law_1995 dL_law_1996 (by decide) rfl (lx_in hin hN (by decide)) ?_
  refine lx_callV (n := 1) (ci := 12) (Tb := TX12) hC rfl (tg_44 hG2.hT) rfl (D_isStale hG2.hT hG2.hR h9.mi (lk_leq hfI) (lk_zr hfJ hZ) _ hS) dL_law_1997 gC_X12_isStale gL_L_238 gI_X12_isStale gE_X12_isStale gN_X12 ⟨by decide +kernel, by decide +kernel, by decide +kernel⟩ rfl a_le a_le a_le hc hs rfl (fun E T3 I3 J3 R3 hp hQ => by
      obtain ⟨_, _, ⟨b, e, _⟩, _⟩ := hQ
      cases e) (fun v2 T3 I3 J3 R3 hp3 hQ3 => ?_)
  obtain ⟨e1, e2, ⟨b, e3, hb⟩, h61, hL3, hfI3, hfJ3, hZ3⟩ := hQ3
  cases e3
  rw [e1, e2]
  show YW sb X (C + 3) (S + 200) 2000 [none, some (.ref 0), some (.ref 44), some (.ref 94), some (.int (nI (7 * c))), some (.int (nI k)), none] [.int b] T2 I3 J3 R2
  exact lk_tailb hC hG2.hT hG2.hR h61 hk hb (fun z => by rw [hfJ3 94 (by decide)]; exact hv z) (fun z => by
      have h := hS
      rw [z] at h
      rcases h with ⟨_, _, ⟨A, _, h⟩, _⟩ | ⟨_, h, _⟩
      · (rw [h]; exact lk_bI _)
      · exact absurd h (by decide)) hc hs dL_law_2000 dL_law_2002 dL_law_2003 dL_law_2006 dL_law_2008 dL_law_2013 dL_law_2015 dL_law_2018 dL_law_2019 dL_law_2020 dL_law_2021 dL_law_2023 dL_law_2026 dL_law_2027 dL_law_2030 dL_law_2031 dL_law_2032 dL_law_2037 (by decide) (fun _ _ => kk _ _ _ _ _ _ (lk_gi hG2 hfI3 hfJ3 hL3) hZ3)
theorem lk_rebase {sb N : Nat} {xs : Nat → Int32} {X : aX} {C S : Nat} {T : List aT} {I : aI} {J : aJ} {R : aR} {c : Nat} (hC : YC yL_law cL_law 7 12 438 601024 7293034 sb N xs X) (hG : GI T I J R I c) (hZ : Zr J) (hin : 7 * c + 7 ≤ N) (hN : N ≤ 3584) (hc : C + 3 ≤ 601024) (hs : S + 200 ≤ 7293034) (kk : ∀ (a9 b9 : Option Value) (T2 : List aT) (I2 : aI) (J2 : aJ) (R2 : aR), GI T2 I2 J2 R2 I2 (c + 1) → Zr J2 → YW sb X (C + 3) (S + 200) 2838 [none, some (.ref 0), some (.ref 44), some (.ref 94), some (.int (nI (7 * c))), a9, b9] [] T2 I2 J2 R2) : YW sb X C S 2040 [none, some (.ref 0), some (.ref 44), some (.ref 94), some (.int (nI (7 * c))), none, none] [] T I J R := by
  have hT := hG.hT
  obtain ⟨n, sq, g, gq, eq, r, p, pq, k0, h9⟩ := hG
  refine lx_aload_n hC dL_law_2040 rfl ?_
  refine lx_sld (z := nI 1) hC dL_law_2041 dL_law_2042 dL_law_2044 dL_law_2045 dL_law_2046 (by decide) rfl (lx_in hin hN (by decide)) ?_
  refine lx_aload_n hC dL_law_2047 rfl ?_
  refine lx_callSX (n := 3) (As := [.ref 0, .int (xs (nI (7 * c) + nI 1).toNatClampNeg), .ref 94]) hC (m_L_rebase hT _ (fun v m2 h => by
      rcases h with ⟨_, _, A, _, h, _⟩ | ⟨_, h, _⟩ | ⟨_, h, _⟩
      · (rw [h]; exact lk_bI _)
      · exact absurd h (by decide)
      · exact absurd h (by decide)) (m_X11_rebase h9 _)) dL_law_2048 gC_L_rebase gL_L_239 gS_L_rebase gN_L ⟨by decide +kernel, by decide +kernel, by decide +kernel⟩ rfl a_le a_le a_le hc hs rfl (fun E T2 I2 J2 R2 hp hQ => by
      obtain ⟨_, _, _, e, _⟩ := hQ
      cases e) (fun v1 T2 I2 J2 R2 hp hQ => ?_)
  obtain ⟨k, v, m2, e, hk, hS, hG2, hfI, hfJ, hv⟩ := hQ
  cases e
  show YW sb X (C + 3) (S + 200) 2051 [none, some (.ref 0), some (.ref 44), some (.ref 94), some (.int (nI (7 * c))), none, none] [.int (nI k)] T2 I2 J2 R2
  refine lx_istore (L2 := [none, some (.ref 0), some (.ref 44), some (.ref 94), some (.int (nI (7 * c))), some (.int (nI k)), none]) hC dL_law_2051 (by decide) (by decide) rfl ?_
  refine lx_aload_n hC dL_law_2053 rfl ?_
  refine lx_sld (z := nI 1) hC dL_law_2054 dL_law_2055 dL_law_2057 dL_law_2058 dL_law_2059 (by decide) rfl (lx_in hin hN (by decide)) ?_
  refine lx_callV (n := 1) (ci := 12) (Tb := TX12) hC rfl (tg_44 hG2.hT) rfl (D_rebase hG2.hT hG2.hR h9.mi (lk_leq hfI) (lk_zr hfJ hZ) _ hS) dL_law_2060 gC_X12_rebase gL_L_241 gI_X12_rebase gE_X12_rebase gN_X12 ⟨by decide +kernel, by decide +kernel, by decide +kernel⟩ rfl a_le a_le a_le hc hs rfl (fun E T3 I3 J3 R3 hp hQ => by
      obtain ⟨_, _, ⟨b, e, _⟩, _⟩ := hQ
      cases e) (fun v2 T3 I3 J3 R3 hp3 hQ3 => ?_)
  obtain ⟨e1, e2, ⟨b, e3, hb⟩, h61, hL3, hfI3, hfJ3, hZ3⟩ := hQ3
  cases e3
  rw [e1, e2]
  show YW sb X (C + 3) (S + 200) 2063 [none, some (.ref 0), some (.ref 44), some (.ref 94), some (.int (nI (7 * c))), some (.int (nI k)), none] [.int b] T2 I3 J3 R2
  exact lk_tailb hC hG2.hT hG2.hR h61 hk hb (fun z => by rw [hfJ3 94 (by decide)]; exact hv z) (fun z => by
      have h := hS
      rw [z] at h
      rcases h with ⟨_, _, A, _, h, _⟩ | ⟨_, h, _⟩ | ⟨_, h, _⟩
      · (rw [h]; exact lk_bI _)
      · exact absurd h (by decide)
      · exact absurd h (by decide)) hc hs dL_law_2063 dL_law_2065 dL_law_2066 dL_law_2069 dL_law_2071 dL_law_2076 dL_law_2078 dL_law_2081 dL_law_2082 dL_law_2083 dL_law_2084 dL_law_2086 dL_law_2089 dL_law_2090 dL_law_2093 dL_law_2094 dL_law_2095 dL_law_2100 (by decide) (fun _ _ => kk _ _ _ _ _ _ (lk_gi hG2 hfI3 hfJ3 hL3) hZ3)
theorem lk_apply {sb N : Nat} {xs : Nat → Int32} {X : aX} {C S : Nat} {T : List aT} {I : aI} {J : aJ} {R : aR} {c : Nat} (hC : YC yL_law cL_law 7 12 438 601024 7293034 sb N xs X) (hG : GI T I J R I c) (hZ : Zr J) (hin : 7 * c + 7 ≤ N) (hN : N ≤ 3584) (hc : C + 3 ≤ 601024) (hs : S + 200 ≤ 7293034) (kk : ∀ (a9 b9 : Option Value) (T2 : List aT) (I2 : aI) (J2 : aJ) (R2 : aR), GI T2 I2 J2 R2 I2 (c + 1) → Zr J2 → YW sb X (C + 3) (S + 200) 2838 [none, some (.ref 0), some (.ref 44), some (.ref 94), some (.int (nI (7 * c))), a9, b9] [] T2 I2 J2 R2) : YW sb X C S 2103 [none, some (.ref 0), some (.ref 44), some (.ref 94), some (.int (nI (7 * c))), none, none] [] T I J R := by
  have hT := hG.hT
  obtain ⟨n, sq, g, gq, eq, r, p, pq, k0, h9⟩ := hG
  refine lx_aload_n hC dL_law_2103 rfl ?_
  refine lx_sld (z := nI 1) hC dL_law_2104 dL_law_2105 dL_law_2107 dL_law_2108 dL_law_2109 (by decide) rfl (lx_in hin hN (by decide)) ?_
  refine lx_aload_n hC dL_law_2110 rfl ?_
  refine lx_callSX (n := 3) (As := [.ref 0, .int (xs (nI (7 * c) + nI 1).toNatClampNeg), .ref 94]) hC (m_L_apply hT _ (m_X11_apply h9 (by omega) _)) dL_law_2111 gC_L_apply gL_L_242 gS_L_apply gN_L ⟨by decide +kernel, by decide +kernel, by decide +kernel⟩ rfl a_le a_le a_le hc hs rfl (fun E T2 I2 J2 R2 hp hQ => by
      obtain ⟨_, _, _, e, _⟩ := hQ
      cases e) (fun v1 T2 I2 J2 R2 hp hQ => ?_)
  obtain ⟨k, v, m2, e, hk, hS, hG2, hfI, hfJ, hv⟩ := hQ
  cases e
  show YW sb X (C + 3) (S + 200) 2114 [none, some (.ref 0), some (.ref 44), some (.ref 94), some (.int (nI (7 * c))), none, none] [.int (nI k)] T2 I2 J2 R2
  refine lx_istore (L2 := [none, some (.ref 0), some (.ref 44), some (.ref 94), some (.int (nI (7 * c))), some (.int (nI k)), none]) hC dL_law_2114 (by decide) (by decide) rfl ?_
  refine lx_aload_n hC dL_law_2116 rfl ?_
  refine lx_sld (z := nI 1) hC dL_law_2117 dL_law_2118 dL_law_2120 dL_law_2121 dL_law_2122 (by decide) rfl (lx_in hin hN (by decide)) ?_
  refine lx_callV (n := 1) (ci := 12) (Tb := TX12) hC rfl (tg_44 hG2.hT) rfl (D_apply hG2.hT hG2.hR h9.mi (lk_leq hfI) (lk_zr hfJ hZ) (by omega) _ hS) dL_law_2123 gC_X12_apply gL_L_244 gI_X12_apply gE_X12_apply gN_X12 ⟨by decide +kernel, by decide +kernel, by decide +kernel⟩ rfl a_le a_le a_le hc hs rfl (fun E T3 I3 J3 R3 hp hQ => by
      obtain ⟨_, _, ⟨b, e, _⟩, _⟩ := hQ
      cases e) (fun v2 T3 I3 J3 R3 hp3 hQ3 => ?_)
  obtain ⟨e1, e2, ⟨b, e3, hb⟩, h61, hL3, hfI3, hfJ3, hZ3⟩ := hQ3
  cases e3
  rw [e1, e2]
  show YW sb X (C + 3) (S + 200) 2126 [none, some (.ref 0), some (.ref 44), some (.ref 94), some (.int (nI (7 * c))), some (.int (nI k)), none] [.int b] T2 I3 J3 R2
  exact lk_tail hC hG2.hT hG2.hR h61 hk hb (fun z => by rw [hfJ3 94 (by decide)]; exact hv z) hc hs dL_law_2126 dL_law_2128 dL_law_2129 dL_law_2132 dL_law_2134 dL_law_2139 dL_law_2141 dL_law_2144 dL_law_2145 dL_law_2146 dL_law_2147 dL_law_2149 dL_law_2150 dL_law_2151 dL_law_2156 (by decide) (fun _ _ => kk _ _ _ _ _ _ (lk_gi hG2 hfI3 hfJ3 hL3) hZ3)
theorem lk_step {sb N : Nat} {xs : Nat → Int32} {X : aX} {C S : Nat} {T : List aT} {I : aI} {J : aJ} {R : aR} {c : Nat} (hC : YC yL_law cL_law 7 12 438 601024 7293034 sb N xs X) (hG : GI T I J R I c) (hZ : Zr J) (hin : 7 * c + 7 ≤ N) (hN : N ≤ 3584) (hc : C + 3 ≤ 601024) (hs : S + 200 ≤ 7293034) (kk : ∀ (a9 b9 : Option Value) (T2 : List aT) (I2 : aI) (J2 : aJ) (R2 : aR), GI T2 I2 J2 R2 I2 (c + 1) → Zr J2 → YW sb X (C + 3) (S + 200) 2838 [none, some (.ref 0), some (.ref 44), some (.ref 94), some (.int (nI (7 * c))), a9, b9] [] T2 I2 J2 R2) : YW sb X C S 2159 [none, some (.ref 0), some (.ref 44), some (.ref 94), some (.int (nI (7 * c))), none, none] [] T I J R := by
  have hT := hG.hT
  obtain ⟨n, sq, g, gq, eq, r, p, pq, k0, h9⟩ := hG
  refine lx_aload_n hC dL_law_2159 rfl ?_
  refine lx_sld (z := nI 1) hC dL_law_2160 dL_law_2161 dL_law_2163 dL_law_2164 dL_law_2165 (by decide) rfl (lx_in hin hN (by decide)) ?_
  refine lx_aload_n hC dL_law_2166 rfl ?_
  refine lx_callSX (n := 3) (As := [.ref 0, .int (xs (nI (7 * c) + nI 1).toNatClampNeg), .ref 94]) hC (m_L_step hT _ (m_X11_step h9 _)) dL_law_2167 gC_L_step gL_L_245 gS_L_step gN_L ⟨by decide +kernel, by decide +kernel, by decide +kernel⟩ rfl a_le a_le a_le hc hs rfl (fun E T2 I2 J2 R2 hp hQ => by
      obtain ⟨_, _, _, e, _⟩ := hQ
      cases e) (fun v1 T2 I2 J2 R2 hp hQ => ?_)
  obtain ⟨k, v, m2, e, hk, hS, hG2, hfI, hfJ, hv⟩ := hQ
  cases e
  show YW sb X (C + 3) (S + 200) 2170 [none, some (.ref 0), some (.ref 44), some (.ref 94), some (.int (nI (7 * c))), none, none] [.int (nI k)] T2 I2 J2 R2
  refine lx_istore (L2 := [none, some (.ref 0), some (.ref 44), some (.ref 94), some (.int (nI (7 * c))), some (.int (nI k)), none]) hC dL_law_2170 (by decide) (by decide) rfl ?_
  refine lx_aload_n hC dL_law_2172 rfl ?_
  refine lx_sld (z := nI 1) hC dL_law_2173 dL_law_2174 dL_law_2176 dL_law_2177 dL_law_2178 (by decide) rfl (lx_in hin hN (by decide)) ?_
  refine lx_callV (n := 1) (ci := 12) (Tb := TX12) hC rfl (tg_44 hG2.hT) rfl (D_step hG2.hT hG2.hR h9.mi (lk_leq hfI) (lk_zr hfJ hZ) _ hS) dL_law_2179 gC_X12_step gL_L_247 gI_X12_step gE_X12_step gN_X12 ⟨by decide +kernel, by decide +kernel, by decide +kernel⟩ rfl a_le a_le a_le hc hs rfl (fun E T3 I3 J3 R3 hp hQ => by
      obtain ⟨_, _, ⟨b, e, _⟩, _⟩ := hQ
      cases e) (fun v2 T3 I3 J3 R3 hp3 hQ3 => ?_)
  obtain ⟨e1, e2, ⟨b, e3, hb⟩, h61, hL3, hfI3, hfJ3, hZ3⟩ := hQ3
  cases e3
  rw [e1, e2]
  show YW sb X (C + 3) (S + 200) 2182 [none, some (.ref 0), some (.ref 44), some (.ref 94), some (.int (nI (7 * c))), some (.int (nI k)), none] [.int b] T2 I3 J3 R2
  exact lk_tail hC hG2.hT hG2.hR h61 hk hb (fun z => by rw [hfJ3 94 (by decide)]; exact hv z) hc hs dL_law_2182 dL_law_2184 dL_law_2185 dL_law_2188 dL_law_2190 dL_law_2195 dL_law_2197 dL_law_2200 dL_law_2201 dL_law_2202 dL_law_2203 dL_law_2205 dL_law_2206 dL_law_2207 dL_law_2212 (by decide) (fun _ _ => kk _ _ _ _ _ _ (lk_gi hG2 hfI3 hfJ3 hL3) hZ3)
theorem lk_isApplying {sb N : Nat} {xs : Nat → Int32} {X : aX} {C S : Nat} {T : List aT} {I : aI} {J : aJ} {R : aR} {c : Nat} (hC : YC yL_law cL_law 7 12 438 601024 7293034 sb N xs X) (hG : GI T I J R I c) (hZ : Zr J) (hin : 7 * c + 7 ≤ N) (hN : N ≤ 3584) (hc : C + 3 ≤ 601024) (hs : S + 200 ≤ 7293034) (kk : ∀ (a9 b9 : Option Value) (T2 : List aT) (I2 : aI) (J2 : aJ) (R2 : aR), GI T2 I2 J2 R2 I2 (c + 1) → Zr J2 → YW sb X (C + 3) (S + 200) 2838 [none, some (.ref 0), some (.ref 44), some (.ref 94), some (.int (nI (7 * c))), a9, b9] [] T2 I2 J2 R2) : YW sb X C S 2215 [none, some (.ref 0), some (.ref 44), some (.ref 94), some (.int (nI (7 * c))), none, none] [] T I J R := by
  have hT := hG.hT
  obtain ⟨n, sq, g, gq, eq, r, p, pq, k0, h9⟩ := hG
  refine lx_aload_n hC dL_law_2215 rfl ?_
  refine lx_callV (n := 0) (ci := 11) (Tb := TX11) hC rfl (tg_0 hT) rfl (m_X11_isApplying h9) dL_law_2216 gC_X11_isApplying gL_L_248 gI_X11_isApplying gE_X11_isApplying gN_X11 ⟨by decide +kernel, by decide +kernel, by decide +kernel⟩ rfl a_le a_le a_le hc hs rfl (fun E T2 I2 J2 R2 hp hQ => by
      obtain ⟨_, _, e, _⟩ := lk_cp hQ
      cases e) (fun v1 T2 I2 J2 R2 hp hQ => ?_)
  obtain ⟨v, m2, e, hS, hG2, hf⟩ := lk_cp hQ
  cases e
  show YW sb X (C + 3) (S + 200) 2219 [none, some (.ref 0), some (.ref 44), some (.ref 94), some (.int (nI (7 * c))), none, none] [.int v] T2 I2 J2 R2
  refine lx_aload_n hC dL_law_2219 rfl ?_
  refine lx_callV (n := 0) (ci := 12) (Tb := TX12) hC rfl (tg_44 hG2.hT) rfl (D_isApplying hG2.hT hG2.hR h9.mi (lk_leq (fun o u z => (hf o u z).1)) (lk_zr (fun o u z => (hf o u (by omega)).2) hZ) hS) dL_law_2220 gC_X12_isApplying gL_L_252 gI_X12_isApplying gE_X12_isApplying gN_X12 ⟨by decide +kernel, by decide +kernel, by decide +kernel⟩ rfl a_le a_le a_le hc hs rfl (fun E T3 I3 J3 R3 hp hQ => by
      obtain ⟨_, _, ⟨b, e, _⟩, _⟩ := hQ
      cases e) (fun v2 T3 I3 J3 R3 hp3 hQ3 => ?_)
  obtain ⟨e1, e2, ⟨b, e3, hb⟩, h61, hL3, hfI3, hfJ3, hZ3⟩ := hQ3
  cases e3
  rw [e1, e2]
  show YW sb X (C + 3) (S + 200) 2223 [none, some (.ref 0), some (.ref 44), some (.ref 94), some (.int (nI (7 * c))), none, none] [.int b, .int v] T2 I3 J3 R2
  exact lx_icmp_eq (tgt := 2838) hC dL_law_2223 (by decide) (fun _ => kk _ _ _ _ _ _ (lk_gi hG2 hfI3 hfJ3 hL3) hZ3) (fun h => absurd (hb rfl).symm h)
theorem lk_isLocked {sb N : Nat} {xs : Nat → Int32} {X : aX} {C S : Nat} {T : List aT} {I : aI} {J : aJ} {R : aR} {c : Nat} (hC : YC yL_law cL_law 7 12 438 601024 7293034 sb N xs X) (hG : GI T I J R I c) (hZ : Zr J) (hin : 7 * c + 7 ≤ N) (hN : N ≤ 3584) (hc : C + 3 ≤ 601024) (hs : S + 200 ≤ 7293034) (kk : ∀ (a9 b9 : Option Value) (T2 : List aT) (I2 : aI) (J2 : aJ) (R2 : aR), GI T2 I2 J2 R2 I2 (c + 1) → Zr J2 → YW sb X (C + 3) (S + 200) 2838 [none, some (.ref 0), some (.ref 44), some (.ref 94), some (.int (nI (7 * c))), a9, b9] [] T2 I2 J2 R2) : YW sb X C S 2228 [none, some (.ref 0), some (.ref 44), some (.ref 94), some (.int (nI (7 * c))), none, none] [] T I J R := by
  have hT := hG.hT
  obtain ⟨n, sq, g, gq, eq, r, p, pq, k0, h9⟩ := hG
  refine lx_aload_n hC dL_law_2228 rfl ?_
  refine lx_callV (n := 0) (ci := 11) (Tb := TX11) hC rfl (tg_0 hT) rfl (m_X11_isLocked h9) dL_law_2229 gC_X11_isLocked gL_L_253 gI_X11_isLocked gE_X11_isLocked gN_X11 ⟨by decide +kernel, by decide +kernel, by decide +kernel⟩ rfl a_le a_le a_le hc hs rfl (fun E T2 I2 J2 R2 hp hQ => by
      obtain ⟨_, _, e, _⟩ := lk_cp hQ
      cases e) (fun v1 T2 I2 J2 R2 hp hQ => ?_)
  obtain ⟨v, m2, e, hS, hG2, hf⟩ := lk_cp hQ
  cases e
  show YW sb X (C + 3) (S + 200) 2232 [none, some (.ref 0), some (.ref 44), some (.ref 94), some (.int (nI (7 * c))), none, none] [.int v] T2 I2 J2 R2
  refine lx_aload_n hC dL_law_2232 rfl ?_
  refine lx_callV (n := 0) (ci := 12) (Tb := TX12) hC rfl (tg_44 hG2.hT) rfl (D_isLocked hG2.hT hG2.hR h9.mi (lk_leq (fun o u z => (hf o u z).1)) (lk_zr (fun o u z => (hf o u (by omega)).2) hZ) hS) dL_law_2233 gC_X12_isLocked gL_L_256 gI_X12_isLocked gE_X12_isLocked gN_X12 ⟨by decide +kernel, by decide +kernel, by decide +kernel⟩ rfl a_le a_le a_le hc hs rfl (fun E T3 I3 J3 R3 hp hQ => by
      obtain ⟨_, _, ⟨b, e, _⟩, _⟩ := hQ
      cases e) (fun v2 T3 I3 J3 R3 hp3 hQ3 => ?_)
  obtain ⟨e1, e2, ⟨b, e3, hb⟩, h61, hL3, hfI3, hfJ3, hZ3⟩ := hQ3
  cases e3
  rw [e1, e2]
  show YW sb X (C + 3) (S + 200) 2236 [none, some (.ref 0), some (.ref 44), some (.ref 94), some (.int (nI (7 * c))), none, none] [.int b, .int v] T2 I3 J3 R2
  exact lx_icmp_eq (tgt := 2838) hC dL_law_2236 (by decide) (fun _ => kk _ _ _ _ _ _ (lk_gi hG2 hfI3 hfJ3 hL3) hZ3) (fun h => absurd (hb rfl).symm h)
theorem lk_serial {sb N : Nat} {xs : Nat → Int32} {X : aX} {C S : Nat} {T : List aT} {I : aI} {J : aJ} {R : aR} {c : Nat} (hC : YC yL_law cL_law 7 12 438 601024 7293034 sb N xs X) (hG : GI T I J R I c) (hZ : Zr J) (hin : 7 * c + 7 ≤ N) (hN : N ≤ 3584) (hc : C + 3 ≤ 601024) (hs : S + 200 ≤ 7293034) (kk : ∀ (a9 b9 : Option Value) (T2 : List aT) (I2 : aI) (J2 : aJ) (R2 : aR), GI T2 I2 J2 R2 I2 (c + 1) → Zr J2 → YW sb X (C + 3) (S + 200) 2838 [none, some (.ref 0), some (.ref 44), some (.ref 94), some (.int (nI (7 * c))), a9, b9] [] T2 I2 J2 R2) : YW sb X C S 2241 [none, some (.ref 0), some (.ref 44), some (.ref 94), some (.int (nI (7 * c))), none, none] [] T I J R := by
  have hT := hG.hT
  obtain ⟨n, sq, g, gq, eq, r, p, pq, k0, h9⟩ := hG
  refine lx_aload_n hC dL_law_2241 rfl ?_
  refine lx_callV (n := 0) (ci := 11) (Tb := TX11) hC rfl (tg_0 hT) rfl (m_X11_serial h9) dL_law_2242 gC_X11_serial gL_L_257 gI_X11_serial gE_X11_serial gN_X11 ⟨by decide +kernel, by decide +kernel, by decide +kernel⟩ rfl a_le a_le a_le hc hs rfl (fun E T2 I2 J2 R2 hp hQ => by
      obtain ⟨_, _, e, _⟩ := lk_cp hQ
      cases e) (fun v1 T2 I2 J2 R2 hp hQ => ?_)
  obtain ⟨v, m2, e, hS, hG2, hf⟩ := lk_cp hQ
  cases e
  show YW sb X (C + 3) (S + 200) 2245 [none, some (.ref 0), some (.ref 44), some (.ref 94), some (.int (nI (7 * c))), none, none] [.int v] T2 I2 J2 R2
  refine lx_aload_n hC dL_law_2245 rfl ?_
  refine lx_callV (n := 0) (ci := 12) (Tb := TX12) hC rfl (tg_44 hG2.hT) rfl (D_serial hG2.hT hG2.hR h9.mi (lk_leq (fun o u z => (hf o u z).1)) (lk_zr (fun o u z => (hf o u (by omega)).2) hZ) hS) dL_law_2246 gC_X12_serial gL_L_260 gI_X12_serial gE_X12_serial gN_X12 ⟨by decide +kernel, by decide +kernel, by decide +kernel⟩ rfl a_le a_le a_le hc hs rfl (fun E T3 I3 J3 R3 hp hQ => by
      obtain ⟨_, _, ⟨b, e, _⟩, _⟩ := hQ
      cases e) (fun v2 T3 I3 J3 R3 hp3 hQ3 => ?_)
  obtain ⟨e1, e2, ⟨b, e3, hb⟩, h61, hL3, hfI3, hfJ3, hZ3⟩ := hQ3
  cases e3
  rw [e1, e2]
  show YW sb X (C + 3) (S + 200) 2249 [none, some (.ref 0), some (.ref 44), some (.ref 94), some (.int (nI (7 * c))), none, none] [.int b, .int v] T2 I3 J3 R2
  exact lx_icmp_eq (tgt := 2838) hC dL_law_2249 (by decide) (fun _ => kk _ _ _ _ _ _ (lk_gi hG2 hfI3 hfJ3 hL3) hZ3) (fun h => absurd (hb rfl).symm h)
theorem lk_entry {sb N : Nat} {xs : Nat → Int32} {X : aX} {C S : Nat} {T : List aT} {I : aI} {J : aJ} {R : aR} {c : Nat} (hC : YC yL_law cL_law 7 12 438 601024 7293034 sb N xs X) (hG : GI T I J R I c) (hZ : Zr J) (hin : 7 * c + 7 ≤ N) (hN : N ≤ 3584) (hc : C + 3 ≤ 601024) (hs : S + 200 ≤ 7293034) (kk : ∀ (a9 b9 : Option Value) (T2 : List aT) (I2 : aI) (J2 : aJ) (R2 : aR), GI T2 I2 J2 R2 I2 (c + 1) → Zr J2 → YW sb X (C + 3) (S + 200) 2838 [none, some (.ref 0), some (.ref 44), some (.ref 94), some (.int (nI (7 * c))), a9, b9] [] T2 I2 J2 R2) : YW sb X C S 2254 [none, some (.ref 0), some (.ref 44), some (.ref 94), some (.int (nI (7 * c))), none, none] [] T I J R := by
  have hT := hG.hT
  obtain ⟨n, sq, g, gq, eq, r, p, pq, k0, h9⟩ := hG
  refine lx_aload_n hC dL_law_2254 rfl ?_
  refine lx_sld (z := nI 1) hC dL_law_2255 dL_law_2256 dL_law_2258 dL_law_2259 dL_law_2260 (by decide) rfl (lx_in hin hN (by decide)) ?_
  refine lx_aload_n hC dL_law_2261 rfl ?_
  refine lx_callSX (n := 3) (As := [.ref 0, .int (xs (nI (7 * c) + nI 1).toNatClampNeg), .ref 94]) hC (m_L_entry hT _ (m_X11_entry h9 _)) dL_law_2262 gC_L_entry gL_L_261 gS_L_entry gN_L ⟨by decide +kernel, by decide +kernel, by decide +kernel⟩ rfl a_le a_le a_le hc hs rfl (fun E T2 I2 J2 R2 hp hQ => by
      obtain ⟨_, _, _, e, _⟩ := hQ
      cases e) (fun v1 T2 I2 J2 R2 hp hQ => ?_)
  obtain ⟨k, v, m2, e, hk, hS, hG2, hfI, hfJ, hv⟩ := hQ
  cases e
  show YW sb X (C + 3) (S + 200) 2265 [none, some (.ref 0), some (.ref 44), some (.ref 94), some (.int (nI (7 * c))), none, none] [.int (nI k)] T2 I2 J2 R2
  refine lx_istore (L2 := [none, some (.ref 0), some (.ref 44), some (.ref 94), some (.int (nI (7 * c))), some (.int (nI k)), none]) hC dL_law_2265 (by decide) (by decide) rfl ?_
  refine lx_aload_n hC dL_law_2267 rfl ?_
  refine lx_sld (z := nI 1) hC dL_law_2268 dL_law_2269 dL_law_2271 dL_law_2272 dL_law_2273 (by decide) rfl (lx_in hin hN (by decide)) ?_
  refine lx_callV (n := 1) (ci := 12) (Tb := TX12) hC rfl (tg_44 hG2.hT) rfl (D_entry hG2.hT hG2.hR h9.mi (lk_leq hfI) (lk_zr hfJ hZ) _ hS) dL_law_2274 gC_X12_entry gL_L_263 gI_X12_entry gE_X12_entry gN_X12 ⟨by decide +kernel, by decide +kernel, by decide +kernel⟩ rfl a_le a_le a_le hc hs rfl (fun E T3 I3 J3 R3 hp hQ => by
      obtain ⟨_, _, ⟨b, e, _⟩, _⟩ := hQ
      cases e) (fun v2 T3 I3 J3 R3 hp3 hQ3 => ?_)
  obtain ⟨e1, e2, ⟨b, e3, hb⟩, h61, hL3, hfI3, hfJ3, hZ3⟩ := hQ3
  cases e3
  rw [e1, e2]
  show YW sb X (C + 3) (S + 200) 2277 [none, some (.ref 0), some (.ref 44), some (.ref 94), some (.int (nI (7 * c))), some (.int (nI k)), none] [.int b] T2 I3 J3 R2
  exact lk_tail hC hG2.hT hG2.hR h61 hk hb (fun z => by rw [hfJ3 94 (by decide)]; exact hv z) hc hs dL_law_2277 dL_law_2279 dL_law_2280 dL_law_2283 dL_law_2285 dL_law_2290 dL_law_2292 dL_law_2295 dL_law_2296 dL_law_2297 dL_law_2298 dL_law_2300 dL_law_2301 dL_law_2302 dL_law_2307 (by decide) (fun _ _ => kk _ _ _ _ _ _ (lk_gi hG2 hfI3 hfJ3 hL3) hZ3)
theorem lk_stored {sb N : Nat} {xs : Nat → Int32} {X : aX} {C S : Nat} {T : List aT} {I : aI} {J : aJ} {R : aR} {c : Nat} (hC : YC yL_law cL_law 7 12 438 601024 7293034 sb N xs X) (hG : GI T I J R I c) (hZ : Zr J) (hin : 7 * c + 7 ≤ N) (hN : N ≤ 3584) (hc : C + 3 ≤ 601024) (hs : S + 200 ≤ 7293034) (kk : ∀ (a9 b9 : Option Value) (T2 : List aT) (I2 : aI) (J2 : aJ) (R2 : aR), GI T2 I2 J2 R2 I2 (c + 1) → Zr J2 → YW sb X (C + 3) (S + 200) 2838 [none, some (.ref 0), some (.ref 44), some (.ref 94), some (.int (nI (7 * c))), a9, b9] [] T2 I2 J2 R2) : YW sb X C S 2310 [none, some (.ref 0), some (.ref 44), some (.ref 94), some (.int (nI (7 * c))), none, none] [] T I J R := by
  have hT := hG.hT
  obtain ⟨n, sq, g, gq, eq, r, p, pq, k0, h9⟩ := hG
  refine lx_aload_n hC dL_law_2310 rfl ?_
  refine lx_sld (z := nI 1) hC dL_law_2311 dL_law_2312 dL_law_2314 dL_law_2315 dL_law_2316 (by decide) rfl (lx_in hin hN (by decide)) ?_
  refine lx_sld (z := nI 2) hC dL_law_2317 dL_law_2318 dL_law_2320 dL_law_2321 dL_law_2322 (by decide) rfl (lx_in hin hN (by decide)) ?_
  refine lx_aload_n hC dL_law_2323 rfl ?_
  refine lx_callSX (n := 4) (As := [.ref 0, .int (xs (nI (7 * c) + nI 1).toNatClampNeg), .int (xs (nI (7 * c) + nI 2).toNatClampNeg), .ref 94]) hC (m_L_stored hT _ _ (m_X11_stored h9 _ _)) dL_law_2324 gC_L_stored gL_L_264 gS_L_stored gN_L ⟨by decide +kernel, by decide +kernel, by decide +kernel⟩ rfl a_le a_le a_le hc hs rfl (fun E T2 I2 J2 R2 hp hQ => by
      obtain ⟨_, _, _, e, _⟩ := hQ
      cases e) (fun v1 T2 I2 J2 R2 hp hQ => ?_)
  obtain ⟨k, v, m2, e, hk, hS, hG2, hfI, hfJ, hv⟩ := hQ
  cases e
  show YW sb X (C + 3) (S + 200) 2327 [none, some (.ref 0), some (.ref 44), some (.ref 94), some (.int (nI (7 * c))), none, none] [.int (nI k)] T2 I2 J2 R2
  refine lx_istore (L2 := [none, some (.ref 0), some (.ref 44), some (.ref 94), some (.int (nI (7 * c))), some (.int (nI k)), none]) hC dL_law_2327 (by decide) (by decide) rfl ?_
  refine lx_aload_n hC dL_law_2329 rfl ?_
  refine lx_sld (z := nI 1) hC dL_law_2330 dL_law_2331 dL_law_2333 dL_law_2334 dL_law_2335 (by decide) rfl (lx_in hin hN (by decide)) ?_
  refine lx_sld (z := nI 2) hC dL_law_2336 dL_law_2337 dL_law_2339 dL_law_2340 dL_law_2341 (by decide) rfl (lx_in hin hN (by decide)) ?_
  refine lx_callV (n := 2) (ci := 12) (Tb := TX12) hC rfl (tg_44 hG2.hT) rfl (D_stored hG2.hT hG2.hR h9.mi (lk_leq hfI) (lk_zr hfJ hZ) _ _ hS) dL_law_2342 gC_X12_stored gL_L_266 gI_X12_stored gE_X12_stored gN_X12 ⟨by decide +kernel, by decide +kernel, by decide +kernel⟩ rfl a_le a_le a_le hc hs rfl (fun E T3 I3 J3 R3 hp hQ => by
      obtain ⟨_, _, ⟨b, e, _⟩, _⟩ := hQ
      cases e) (fun v2 T3 I3 J3 R3 hp3 hQ3 => ?_)
  obtain ⟨e1, e2, ⟨b, e3, hb⟩, h61, hL3, hfI3, hfJ3, hZ3⟩ := hQ3
  cases e3
  rw [e1, e2]
  show YW sb X (C + 3) (S + 200) 2345 [none, some (.ref 0), some (.ref 44), some (.ref 94), some (.int (nI (7 * c))), some (.int (nI k)), none] [.int b] T2 I3 J3 R2
  exact lk_tail hC hG2.hT hG2.hR h61 hk hb (fun z => by rw [hfJ3 94 (by decide)]; exact hv z) hc hs dL_law_2345 dL_law_2347 dL_law_2348 dL_law_2351 dL_law_2353 dL_law_2358 dL_law_2360 dL_law_2363 dL_law_2364 dL_law_2365 dL_law_2366 dL_law_2368 dL_law_2369 dL_law_2370 dL_law_2375 (by decide) (fun _ _ => kk _ _ _ _ _ _ (lk_gi hG2 hfI3 hfJ3 hL3) hZ3)
theorem lk_real {sb N : Nat} {xs : Nat → Int32} {X : aX} {C S : Nat} {T : List aT} {I : aI} {J : aJ} {R : aR} {c : Nat} (hC : YC yL_law cL_law 7 12 438 601024 7293034 sb N xs X) (hG : GI T I J R I c) (hZ : Zr J) (hin : 7 * c + 7 ≤ N) (hN : N ≤ 3584) (hc : C + 3 ≤ 601024) (hs : S + 200 ≤ 7293034) (kk : ∀ (a9 b9 : Option Value) (T2 : List aT) (I2 : aI) (J2 : aJ) (R2 : aR), GI T2 I2 J2 R2 I2 (c + 1) → Zr J2 → YW sb X (C + 3) (S + 200) 2838 [none, some (.ref 0), some (.ref 44), some (.ref 94), some (.int (nI (7 * c))), a9, b9] [] T2 I2 J2 R2) : YW sb X C S 2378 [none, some (.ref 0), some (.ref 44), some (.ref 94), some (.int (nI (7 * c))), none, none] [] T I J R := by
  have hT := hG.hT
  obtain ⟨n, sq, g, gq, eq, r, p, pq, k0, h9⟩ := hG
  refine lx_aload_n hC dL_law_2378 rfl ?_
  refine lx_sld (z := nI 1) hC dL_law_2379 dL_law_2380 dL_law_2382 dL_law_2383 dL_law_2384 (by decide) rfl (lx_in hin hN (by decide)) ?_
  refine lx_sld (z := nI 2) hC dL_law_2385 dL_law_2386 dL_law_2388 dL_law_2389 dL_law_2390 (by decide) rfl (lx_in hin hN (by decide)) ?_
  refine lx_aload_n hC dL_law_2391 rfl ?_
  refine lx_callSX (n := 4) (As := [.ref 0, .int (xs (nI (7 * c) + nI 1).toNatClampNeg), .int (xs (nI (7 * c) + nI 2).toNatClampNeg), .ref 94]) hC (m_L_real hT _ _ (m_X11_real h9 _ _)) dL_law_2392 gC_L_real gL_L_267 gS_L_real gN_L ⟨by decide +kernel, by decide +kernel, by decide +kernel⟩ rfl a_le a_le a_le hc hs rfl (fun E T2 I2 J2 R2 hp hQ => by
      obtain ⟨_, _, _, e, _⟩ := hQ
      cases e) (fun v1 T2 I2 J2 R2 hp hQ => ?_)
  obtain ⟨k, v, m2, e, hk, hS, hG2, hfI, hfJ, hv⟩ := hQ
  cases e
  show YW sb X (C + 3) (S + 200) 2395 [none, some (.ref 0), some (.ref 44), some (.ref 94), some (.int (nI (7 * c))), none, none] [.int (nI k)] T2 I2 J2 R2
  refine lx_istore (L2 := [none, some (.ref 0), some (.ref 44), some (.ref 94), some (.int (nI (7 * c))), some (.int (nI k)), none]) hC dL_law_2395 (by decide) (by decide) rfl ?_
  refine lx_aload_n hC dL_law_2397 rfl ?_
  refine lx_sld (z := nI 1) hC dL_law_2398 dL_law_2399 dL_law_2401 dL_law_2402 dL_law_2403 (by decide) rfl (lx_in hin hN (by decide)) ?_
  refine lx_sld (z := nI 2) hC dL_law_2404 dL_law_2405 dL_law_2407 dL_law_2408 dL_law_2409 (by decide) rfl (lx_in hin hN (by decide)) ?_
  refine lx_callV (n := 2) (ci := 12) (Tb := TX12) hC rfl (tg_44 hG2.hT) rfl (D_real hG2.hT hG2.hR h9.mi (lk_leq hfI) (lk_zr hfJ hZ) _ _ hS) dL_law_2410 gC_X12_real gL_L_269 gI_X12_real gE_X12_real gN_X12 ⟨by decide +kernel, by decide +kernel, by decide +kernel⟩ rfl a_le a_le a_le hc hs rfl (fun E T3 I3 J3 R3 hp hQ => by
      obtain ⟨_, _, ⟨b, e, _⟩, _⟩ := hQ
      cases e) (fun v2 T3 I3 J3 R3 hp3 hQ3 => ?_)
  obtain ⟨e1, e2, ⟨b, e3, hb⟩, h61, hL3, hfI3, hfJ3, hZ3⟩ := hQ3
  cases e3
  rw [e1, e2]
  show YW sb X (C + 3) (S + 200) 2413 [none, some (.ref 0), some (.ref 44), some (.ref 94), some (.int (nI (7 * c))), some (.int (nI k)), none] [.int b] T2 I3 J3 R2
  exact lk_tail hC hG2.hT hG2.hR h61 hk hb (fun z => by rw [hfJ3 94 (by decide)]; exact hv z) hc hs dL_law_2413 dL_law_2415 dL_law_2416 dL_law_2419 dL_law_2421 dL_law_2426 dL_law_2428 dL_law_2431 dL_law_2432 dL_law_2433 dL_law_2434 dL_law_2436 dL_law_2437 dL_law_2438 dL_law_2443 (by decide) (fun _ _ => kk _ _ _ _ _ _ (lk_gi hG2 hfI3 hfJ3 hL3) hZ3)
theorem lk_resources {sb N : Nat} {xs : Nat → Int32} {X : aX} {C S : Nat} {T : List aT} {I : aI} {J : aJ} {R : aR} {c : Nat} (hC : YC yL_law cL_law 7 12 438 601024 7293034 sb N xs X) (hG : GI T I J R I c) (hZ : Zr J) (hin : 7 * c + 7 ≤ N) (hN : N ≤ 3584) (hc : C + 3 ≤ 601024) (hs : S + 200 ≤ 7293034) (kk : ∀ (a9 b9 : Option Value) (T2 : List aT) (I2 : aI) (J2 : aJ) (R2 : aR), GI T2 I2 J2 R2 I2 (c + 1) → Zr J2 → YW sb X (C + 3) (S + 200) 2838 [none, some (.ref 0), some (.ref 44), some (.ref 94), some (.int (nI (7 * c))), a9, b9] [] T2 I2 J2 R2) : YW sb X C S 2446 [none, some (.ref 0), some (.ref 44), some (.ref 94), some (.int (nI (7 * c))), none, none] [] T I J R := by
  have hT := hG.hT
  obtain ⟨n, sq, g, gq, eq, r, p, pq, k0, h9⟩ := hG
  refine lx_aload_n hC dL_law_2446 rfl ?_
  refine lx_callV (n := 0) (ci := 11) (Tb := TX11) hC rfl (tg_0 hT) rfl (m_X11_resources h9) dL_law_2447 gC_X11_resources gL_L_270 gI_X11_resources gE_X11_resources gN_X11 ⟨by decide +kernel, by decide +kernel, by decide +kernel⟩ rfl a_le a_le a_le hc hs rfl (fun E T2 I2 J2 R2 hp hQ => by
      obtain ⟨_, _, e, _⟩ := lk_cp hQ
      cases e) (fun v1 T2 I2 J2 R2 hp hQ => ?_)
  obtain ⟨v, m2, e, hS, hG2, hf⟩ := lk_cp hQ
  cases e
  show YW sb X (C + 3) (S + 200) 2450 [none, some (.ref 0), some (.ref 44), some (.ref 94), some (.int (nI (7 * c))), none, none] [.int v] T2 I2 J2 R2
  refine lx_aload_n hC dL_law_2450 rfl ?_
  refine lx_callV (n := 0) (ci := 12) (Tb := TX12) hC rfl (tg_44 hG2.hT) rfl (D_resources hG2.hT hG2.hR h9.mi (lk_leq (fun o u z => (hf o u z).1)) (lk_zr (fun o u z => (hf o u (by omega)).2) hZ) hS) dL_law_2451 gC_X12_resources gL_L_273 gI_X12_resources gE_X12_resources gN_X12 ⟨by decide +kernel, by decide +kernel, by decide +kernel⟩ rfl a_le a_le a_le hc hs rfl (fun E T3 I3 J3 R3 hp hQ => by
      obtain ⟨_, _, ⟨b, e, _⟩, _⟩ := hQ
      cases e) (fun v2 T3 I3 J3 R3 hp3 hQ3 => ?_)
  obtain ⟨e1, e2, ⟨b, e3, hb⟩, h61, hL3, hfI3, hfJ3, hZ3⟩ := hQ3
  cases e3
  rw [e1, e2]
  show YW sb X (C + 3) (S + 200) 2454 [none, some (.ref 0), some (.ref 44), some (.ref 94), some (.int (nI (7 * c))), none, none] [.int b, .int v] T2 I3 J3 R2
  exact lx_icmp_eq (tgt := 2838) hC dL_law_2454 (by decide) (fun _ => kk _ _ _ _ _ _ (lk_gi hG2 hfI3 hfJ3 hL3) hZ3) (fun h => absurd (hb rfl).symm h)
theorem lk_change {sb N : Nat} {xs : Nat → Int32} {X : aX} {C S : Nat} {T : List aT} {I : aI} {J : aJ} {R : aR} {c : Nat} (hC : YC yL_law cL_law 7 12 438 601024 7293034 sb N xs X) (hG : GI T I J R I c) (hZ : Zr J) (hin : 7 * c + 7 ≤ N) (hN : N ≤ 3584) (hc : C + 3 ≤ 601024) (hs : S + 200 ≤ 7293034) (kk : ∀ (a9 b9 : Option Value) (T2 : List aT) (I2 : aI) (J2 : aJ) (R2 : aR), GI T2 I2 J2 R2 I2 (c + 1) → Zr J2 → YW sb X (C + 3) (S + 200) 2838 [none, some (.ref 0), some (.ref 44), some (.ref 94), some (.int (nI (7 * c))), a9, b9] [] T2 I2 J2 R2) : YW sb X C S 2459 [none, some (.ref 0), some (.ref 44), some (.ref 94), some (.int (nI (7 * c))), none, none] [] T I J R := by
  have hT := hG.hT
  obtain ⟨n, sq, g, gq, eq, r, p, pq, k0, h9⟩ := hG
  refine lx_aload_n hC dL_law_2459 rfl ?_
  refine lx_sld (z := nI 1) hC dL_law_2460 dL_law_2461 dL_law_2463 dL_law_2464 dL_law_2465 (by decide) rfl (lx_in hin hN (by decide)) ?_
  refine lx_sld (z := nI 2) hC dL_law_2466 dL_law_2467 dL_law_2469 dL_law_2470 dL_law_2471 (by decide) rfl (lx_in hin hN (by decide)) ?_
  refine lx_sld (z := nI 3) hC dL_law_2472 dL_law_2473 dL_law_2475 dL_law_2476 dL_law_2477 (by decide) rfl (lx_in hin hN (by decide)) ?_
  refine lx_aload_n hC dL_law_2478 rfl ?_
  refine lx_callSX (n := 5) (As := [.ref 0, .int (xs (nI (7 * c) + nI 1).toNatClampNeg), .int (xs (nI (7 * c) + nI 2).toNatClampNeg), .int (xs (nI (7 * c) + nI 3).toNatClampNeg), .ref 94]) hC (m_L_change hT _ _ _ (m_X11_change h9 _ _ _)) dL_law_2479 gC_L_change gL_L_274 gS_L_change gN_L ⟨by decide +kernel, by decide +kernel, by decide +kernel⟩ rfl a_le a_le a_le hc hs rfl (fun E T2 I2 J2 R2 hp hQ => by
      obtain ⟨_, _, _, e, _⟩ := hQ
      cases e) (fun v1 T2 I2 J2 R2 hp hQ => ?_)
  obtain ⟨k, v, m2, e, hk, hS, hG2, hfI, hfJ, hv⟩ := hQ
  cases e
  show YW sb X (C + 3) (S + 200) 2482 [none, some (.ref 0), some (.ref 44), some (.ref 94), some (.int (nI (7 * c))), none, none] [.int (nI k)] T2 I2 J2 R2
  refine lx_istore (L2 := [none, some (.ref 0), some (.ref 44), some (.ref 94), some (.int (nI (7 * c))), some (.int (nI k)), none]) hC dL_law_2482 (by decide) (by decide) rfl ?_
  refine lx_aload_n hC dL_law_2484 rfl ?_
  refine lx_sld (z := nI 1) hC dL_law_2485 dL_law_2486 dL_law_2488 dL_law_2489 dL_law_2490 (by decide) rfl (lx_in hin hN (by decide)) ?_
  refine lx_sld (z := nI 2) hC dL_law_2491 dL_law_2492 dL_law_2494 dL_law_2495 dL_law_2496 (by decide) rfl (lx_in hin hN (by decide)) ?_
  refine lx_sld (z := nI 3) hC dL_law_2497 dL_law_2498 dL_law_2500 dL_law_2501 dL_law_2502 (by decide) rfl (lx_in hin hN (by decide)) ?_
  refine lx_callV (n := 3) (ci := 12) (Tb := TX12) hC rfl (tg_44 hG2.hT) rfl (D_change hG2.hT hG2.hR h9.mi (lk_leq hfI) (lk_zr hfJ hZ) _ _ _ hS) dL_law_2503 gC_X12_change gL_L_276 gI_X12_change gE_X12_change gN_X12 ⟨by decide +kernel, by decide +kernel, by decide +kernel⟩ rfl a_le a_le a_le hc hs rfl (fun E T3 I3 J3 R3 hp hQ => by
      obtain ⟨_, _, ⟨b, e, _⟩, _⟩ := hQ
      cases e) (fun v2 T3 I3 J3 R3 hp3 hQ3 => ?_)
  obtain ⟨e1, e2, ⟨b, e3, hb⟩, h61, hL3, hfI3, hfJ3, hZ3⟩ := hQ3
  cases e3
  rw [e1, e2]
  show YW sb X (C + 3) (S + 200) 2506 [none, some (.ref 0), some (.ref 44), some (.ref 94), some (.int (nI (7 * c))), some (.int (nI k)), none] [.int b] T2 I3 J3 R2
  exact lk_tail hC hG2.hT hG2.hR h61 hk hb (fun z => by rw [hfJ3 94 (by decide)]; exact hv z) hc hs dL_law_2506 dL_law_2508 dL_law_2509 dL_law_2512 dL_law_2514 dL_law_2519 dL_law_2521 dL_law_2524 dL_law_2525 dL_law_2526 dL_law_2527 dL_law_2529 dL_law_2530 dL_law_2531 dL_law_2536 (by decide) (fun _ _ => kk _ _ _ _ _ _ (lk_gi hG2 hfI3 hfJ3 hL3) hZ3)
theorem lk_destroy {sb N : Nat} {xs : Nat → Int32} {X : aX} {C S : Nat} {T : List aT} {I : aI} {J : aJ} {R : aR} {c : Nat} (hC : YC yL_law cL_law 7 12 438 601024 7293034 sb N xs X) (hG : GI T I J R I c) (hZ : Zr J) (hin : 7 * c + 7 ≤ N) (hN : N ≤ 3584) (hc : C + 3 ≤ 601024) (hs : S + 200 ≤ 7293034) (kk : ∀ (a9 b9 : Option Value) (T2 : List aT) (I2 : aI) (J2 : aJ) (R2 : aR), GI T2 I2 J2 R2 I2 (c + 1) → Zr J2 → YW sb X (C + 3) (S + 200) 2838 [none, some (.ref 0), some (.ref 44), some (.ref 94), some (.int (nI (7 * c))), a9, b9] [] T2 I2 J2 R2) : YW sb X C S 2539 [none, some (.ref 0), some (.ref 44), some (.ref 94), some (.int (nI (7 * c))), none, none] [] T I J R := by
  have hT := hG.hT
  obtain ⟨n, sq, g, gq, eq, r, p, pq, k0, h9⟩ := hG
  refine lx_aload_n hC dL_law_2539 rfl ?_
  refine lx_sld (z := nI 1) hC dL_law_2540 dL_law_2541 dL_law_2543 dL_law_2544 dL_law_2545 (by decide) rfl (lx_in hin hN (by decide)) ?_
  refine lx_aload_n hC dL_law_2546 rfl ?_
  refine lx_callSX (n := 3) (As := [.ref 0, .int (xs (nI (7 * c) + nI 1).toNatClampNeg), .ref 94]) hC (m_L_destroy hT _ (fun v m2 h => by
      rcases h with ⟨_, _, h, _⟩ | ⟨_, h, _⟩
      · (rw [h]; split <;> simp)
      · exact absurd h (by decide)) (m_X11_destroy h9 _)) dL_law_2547 gC_L_destroy gL_L_277 gS_L_destroy gN_L ⟨by decide +kernel, by decide +kernel, by decide +kernel⟩ rfl a_le a_le a_le hc hs rfl (fun E T2 I2 J2 R2 hp hQ => by
      obtain ⟨_, _, _, e, _⟩ := hQ
      cases e) (fun v1 T2 I2 J2 R2 hp hQ => ?_)
  obtain ⟨k, v, m2, e, hk, hS, hG2, hfI, hfJ, hv⟩ := hQ
  cases e
  show YW sb X (C + 3) (S + 200) 2550 [none, some (.ref 0), some (.ref 44), some (.ref 94), some (.int (nI (7 * c))), none, none] [.int (nI k)] T2 I2 J2 R2
  refine lx_istore (L2 := [none, some (.ref 0), some (.ref 44), some (.ref 94), some (.int (nI (7 * c))), some (.int (nI k)), none]) hC dL_law_2550 (by decide) (by decide) rfl ?_
  refine lx_aload_n hC dL_law_2552 rfl ?_
  refine lx_sld (z := nI 1) hC dL_law_2553 dL_law_2554 dL_law_2556 dL_law_2557 dL_law_2558 (by decide) rfl (lx_in hin hN (by decide)) ?_
  refine lx_callV (n := 1) (ci := 12) (Tb := TX12) hC rfl (tg_44 hG2.hT) rfl (D_destroy hG2.hT hG2.hR h9.mi (lk_leq hfI) (lk_zr hfJ hZ) _ hS) dL_law_2559 gC_X12_destroy gL_L_279 gI_X12_destroy gE_X12_destroy gN_X12 ⟨by decide +kernel, by decide +kernel, by decide +kernel⟩ rfl a_le a_le a_le hc hs rfl (fun E T3 I3 J3 R3 hp hQ => by
      obtain ⟨_, _, ⟨b, e, _⟩, _⟩ := hQ
      cases e) (fun v2 T3 I3 J3 R3 hp3 hQ3 => ?_)
  obtain ⟨e1, e2, ⟨b, e3, hb⟩, h61, hL3, hfI3, hfJ3, hZ3⟩ := hQ3
  cases e3
  rw [e1, e2]
  show YW sb X (C + 3) (S + 200) 2562 [none, some (.ref 0), some (.ref 44), some (.ref 94), some (.int (nI (7 * c))), some (.int (nI k)), none] [.int b] T2 I3 J3 R2
  exact lk_tailb hC hG2.hT hG2.hR h61 hk hb (fun z => by rw [hfJ3 94 (by decide)]; exact hv z) (fun z => by
      have h := hS
      rw [z] at h
      rcases h with ⟨_, _, h, _⟩ | ⟨_, h, _⟩
      · (rw [h]; split <;> simp)
      · exact absurd h (by decide)) hc hs dL_law_2562 dL_law_2564 dL_law_2565 dL_law_2568 dL_law_2570 dL_law_2575 dL_law_2577 dL_law_2580 dL_law_2581 dL_law_2582 dL_law_2583 dL_law_2585 dL_law_2588 dL_law_2589 dL_law_2592 dL_law_2593 dL_law_2594 dL_law_2599 (by decide) (fun _ _ => kk _ _ _ _ _ _ (lk_gi hG2 hfI3 hfJ3 hL3) hZ3)
theorem lk_make {sb N : Nat} {xs : Nat → Int32} {X : aX} {C S : Nat} {T : List aT} {I : aI} {J : aJ} {R : aR} {c : Nat} (hC : YC yL_law cL_law 7 12 438 601024 7293034 sb N xs X) (hG : GI T I J R I c) (hZ : Zr J) (hin : 7 * c + 7 ≤ N) (hN : N ≤ 3584) (hc : C + 3 ≤ 601024) (hs : S + 200 ≤ 7293034) (kk : ∀ (a9 b9 : Option Value) (T2 : List aT) (I2 : aI) (J2 : aJ) (R2 : aR), GI T2 I2 J2 R2 I2 (c + 1) → Zr J2 → YW sb X (C + 3) (S + 200) 2838 [none, some (.ref 0), some (.ref 44), some (.ref 94), some (.int (nI (7 * c))), a9, b9] [] T2 I2 J2 R2) : YW sb X C S 2602 [none, some (.ref 0), some (.ref 44), some (.ref 94), some (.int (nI (7 * c))), none, none] [] T I J R := by
  have hT := hG.hT
  obtain ⟨n, sq, g, gq, eq, r, p, pq, k0, h9⟩ := hG
  refine lx_aload_n hC dL_law_2602 rfl ?_
  refine lx_sld (z := nI 1) hC dL_law_2603 dL_law_2604 dL_law_2606 dL_law_2607 dL_law_2608 (by decide) rfl (lx_in hin hN (by decide)) ?_
  refine lx_aload_n hC dL_law_2609 rfl ?_
  refine lx_callSX (n := 3) (As := [.ref 0, .int (xs (nI (7 * c) + nI 1).toNatClampNeg), .ref 94]) hC (m_L_make hT _ (m_X11_make h9 _)) dL_law_2610 gC_L_make gL_L_280 gS_L_make gN_L ⟨by decide +kernel, by decide +kernel, by decide +kernel⟩ rfl a_le a_le a_le hc hs rfl (fun E T2 I2 J2 R2 hp hQ => by
      obtain ⟨_, _, _, e, _⟩ := hQ
      cases e) (fun v1 T2 I2 J2 R2 hp hQ => ?_)
  obtain ⟨k, v, m2, e, hk, hS, hG2, hfI, hfJ, hv⟩ := hQ
  cases e
  show YW sb X (C + 3) (S + 200) 2613 [none, some (.ref 0), some (.ref 44), some (.ref 94), some (.int (nI (7 * c))), none, none] [.int (nI k)] T2 I2 J2 R2
  refine lx_istore (L2 := [none, some (.ref 0), some (.ref 44), some (.ref 94), some (.int (nI (7 * c))), some (.int (nI k)), none]) hC dL_law_2613 (by decide) (by decide) rfl ?_
  refine lx_aload_n hC dL_law_2615 rfl ?_
  refine lx_sld (z := nI 1) hC dL_law_2616 dL_law_2617 dL_law_2619 dL_law_2620 dL_law_2621 (by decide) rfl (lx_in hin hN (by decide)) ?_
  refine lx_callV (n := 1) (ci := 12) (Tb := TX12) hC rfl (tg_44 hG2.hT) rfl (D_make hG2.hT hG2.hR h9.mi (lk_leq hfI) (lk_zr hfJ hZ) _ hS) dL_law_2622 gC_X12_make gL_L_282 gI_X12_make gE_X12_make gN_X12 ⟨by decide +kernel, by decide +kernel, by decide +kernel⟩ rfl a_le a_le a_le hc hs rfl (fun E T3 I3 J3 R3 hp hQ => by
      obtain ⟨_, _, ⟨b, e, _⟩, _⟩ := hQ
      cases e) (fun v2 T3 I3 J3 R3 hp3 hQ3 => ?_)
  obtain ⟨e1, e2, ⟨b, e3, hb⟩, h61, hL3, hfI3, hfJ3, hZ3⟩ := hQ3
  cases e3
  rw [e1, e2]
  show YW sb X (C + 3) (S + 200) 2625 [none, some (.ref 0), some (.ref 44), some (.ref 94), some (.int (nI (7 * c))), some (.int (nI k)), none] [.int b] T2 I3 J3 R2
  exact lk_tail hC hG2.hT hG2.hR h61 hk hb (fun z => by rw [hfJ3 94 (by decide)]; exact hv z) hc hs dL_law_2625 dL_law_2627 dL_law_2628 dL_law_2631 dL_law_2633 dL_law_2638 dL_law_2640 dL_law_2643 dL_law_2644 dL_law_2645 dL_law_2646 dL_law_2648 dL_law_2649 dL_law_2650 dL_law_2655 (by decide) (fun _ _ => kk _ _ _ _ _ _ (lk_gi hG2 hfI3 hfJ3 hL3) hZ3)
theorem lk_read {sb N : Nat} {xs : Nat → Int32} {X : aX} {C S : Nat} {T : List aT} {I : aI} {J : aJ} {R : aR} {c : Nat} (hC : YC yL_law cL_law 7 12 438 601024 7293034 sb N xs X) (hG : GI T I J R I c) (hZ : Zr J) (hin : 7 * c + 7 ≤ N) (hN : N ≤ 3584) (hc : C + 3 ≤ 601024) (hs : S + 200 ≤ 7293034) (kk : ∀ (a9 b9 : Option Value) (T2 : List aT) (I2 : aI) (J2 : aJ) (R2 : aR), GI T2 I2 J2 R2 I2 (c + 1) → Zr J2 → YW sb X (C + 3) (S + 200) 2838 [none, some (.ref 0), some (.ref 44), some (.ref 94), some (.int (nI (7 * c))), a9, b9] [] T2 I2 J2 R2) : YW sb X C S 2658 [none, some (.ref 0), some (.ref 44), some (.ref 94), some (.int (nI (7 * c))), none, none] [] T I J R := by
  have hT := hG.hT
  obtain ⟨n, sq, g, gq, eq, r, p, pq, k0, h9⟩ := hG
  refine lx_aload_n hC dL_law_2658 rfl ?_
  refine lx_aload_n hC dL_law_2659 rfl ?_
  refine lx_callSX (n := 2) (As := [.ref 0, .ref 94]) hC (m_L_read hT (m_X11_read h9)) dL_law_2660 gC_L_read gL_L_283 gS_L_read gN_L ⟨by decide +kernel, by decide +kernel, by decide +kernel⟩ rfl a_le a_le a_le hc hs rfl (fun E T2 I2 J2 R2 hp hQ => by
      obtain ⟨_, _, _, e, _⟩ := hQ
      cases e) (fun v1 T2 I2 J2 R2 hp hQ => ?_)
  obtain ⟨k, v, m2, e, hk, hS, hG2, hfI, hfJ, hv⟩ := hQ
  cases e
  show YW sb X (C + 3) (S + 200) 2663 [none, some (.ref 0), some (.ref 44), some (.ref 94), some (.int (nI (7 * c))), none, none] [.int (nI k)] T2 I2 J2 R2
  refine lx_istore (L2 := [none, some (.ref 0), some (.ref 44), some (.ref 94), some (.int (nI (7 * c))), some (.int (nI k)), none]) hC dL_law_2663 (by decide) (by decide) rfl ?_
  refine lx_aload_n hC dL_law_2665 rfl ?_
  refine lx_callV (n := 0) (ci := 12) (Tb := TX12) hC rfl (tg_44 hG2.hT) rfl (D_read hG2.hT hG2.hR h9.mi (lk_leq hfI) (lk_zr hfJ hZ) hS) dL_law_2666 gC_X12_read gL_L_286 gI_X12_read gE_X12_read gN_X12 ⟨by decide +kernel, by decide +kernel, by decide +kernel⟩ rfl a_le a_le a_le hc hs rfl (fun E T3 I3 J3 R3 hp hQ => by
      obtain ⟨_, _, ⟨b, e, _⟩, _⟩ := hQ
      cases e) (fun v2 T3 I3 J3 R3 hp3 hQ3 => ?_)
  obtain ⟨e1, e2, ⟨b, e3, hb⟩, h61, hL3, hfI3, hfJ3, hZ3⟩ := hQ3
  cases e3
  rw [e1, e2]
  show YW sb X (C + 3) (S + 200) 2669 [none, some (.ref 0), some (.ref 44), some (.ref 94), some (.int (nI (7 * c))), some (.int (nI k)), none] [.int b] T2 I3 J3 R2
  exact lk_tail hC hG2.hT hG2.hR h61 hk hb (fun z => by rw [hfJ3 94 (by decide)]; exact hv z) hc hs dL_law_2669 dL_law_2671 dL_law_2672 dL_law_2675 dL_law_2677 dL_law_2682 dL_law_2684 dL_law_2687 dL_law_2688 dL_law_2689 dL_law_2690 dL_law_2692 dL_law_2693 dL_law_2694 dL_law_2699 (by decide) (fun _ _ => kk _ _ _ _ _ _ (lk_gi hG2 hfI3 hfJ3 hL3) hZ3)
theorem lk_move {sb N : Nat} {xs : Nat → Int32} {X : aX} {C S : Nat} {T : List aT} {I : aI} {J : aJ} {R : aR} {c : Nat} (hC : YC yL_law cL_law 7 12 438 601024 7293034 sb N xs X) (hG : GI T I J R I c) (hZ : Zr J) (hin : 7 * c + 7 ≤ N) (hN : N ≤ 3584) (hc : C + 3 ≤ 601024) (hs : S + 200 ≤ 7293034) (kk : ∀ (a9 b9 : Option Value) (T2 : List aT) (I2 : aI) (J2 : aJ) (R2 : aR), GI T2 I2 J2 R2 I2 (c + 1) → Zr J2 → YW sb X (C + 3) (S + 200) 2838 [none, some (.ref 0), some (.ref 44), some (.ref 94), some (.int (nI (7 * c))), a9, b9] [] T2 I2 J2 R2) : YW sb X C S 2702 [none, some (.ref 0), some (.ref 44), some (.ref 94), some (.int (nI (7 * c))), none, none] [] T I J R := by
  have hT := hG.hT
  obtain ⟨n, sq, g, gq, eq, r, p, pq, k0, h9⟩ := hG
  refine lx_aload_n hC dL_law_2702 rfl ?_
  refine lx_sld (z := nI 1) hC dL_law_2703 dL_law_2704 dL_law_2706 dL_law_2707 dL_law_2708 (by decide) rfl (lx_in hin hN (by decide)) ?_
  refine lx_sld (z := nI 2) hC dL_law_2709 dL_law_2710 dL_law_2712 dL_law_2713 dL_law_2714 (by decide) rfl (lx_in hin hN (by decide)) ?_
  refine lx_aload_n hC dL_law_2715 rfl ?_
  refine lx_callSX (n := 4) (As := [.ref 0, .int (xs (nI (7 * c) + nI 1).toNatClampNeg), .int (xs (nI (7 * c) + nI 2).toNatClampNeg), .ref 94]) hC (m_L_move hT _ _ (m_X11_move h9 _ _)) dL_law_2716 gC_L_move gL_L_287 gS_L_move gN_L ⟨by decide +kernel, by decide +kernel, by decide +kernel⟩ rfl a_le a_le a_le hc hs rfl (fun E T2 I2 J2 R2 hp hQ => by
      obtain ⟨_, _, _, e, _⟩ := hQ
      cases e) (fun v1 T2 I2 J2 R2 hp hQ => ?_)
  obtain ⟨k, v, m2, e, hk, hS, hG2, hfI, hfJ, hv⟩ := hQ
  cases e
  show YW sb X (C + 3) (S + 200) 2719 [none, some (.ref 0), some (.ref 44), some (.ref 94), some (.int (nI (7 * c))), none, none] [.int (nI k)] T2 I2 J2 R2
  refine lx_istore (L2 := [none, some (.ref 0), some (.ref 44), some (.ref 94), some (.int (nI (7 * c))), some (.int (nI k)), none]) hC dL_law_2719 (by decide) (by decide) rfl ?_
  refine lx_aload_n hC dL_law_2721 rfl ?_
  refine lx_sld (z := nI 1) hC dL_law_2722 dL_law_2723 dL_law_2725 dL_law_2726 dL_law_2727 (by decide) rfl (lx_in hin hN (by decide)) ?_
  refine lx_sld (z := nI 2) hC dL_law_2728 dL_law_2729 dL_law_2731 dL_law_2732 dL_law_2733 (by decide) rfl (lx_in hin hN (by decide)) ?_
  refine lx_callV (n := 2) (ci := 12) (Tb := TX12) hC rfl (tg_44 hG2.hT) rfl (D_move hG2.hT hG2.hR h9.mi (lk_leq hfI) (lk_zr hfJ hZ) _ _ hS) dL_law_2734 gC_X12_move gL_L_289 gI_X12_move gE_X12_move gN_X12 ⟨by decide +kernel, by decide +kernel, by decide +kernel⟩ rfl a_le a_le a_le hc hs rfl (fun E T3 I3 J3 R3 hp hQ => by
      obtain ⟨_, _, ⟨b, e, _⟩, _⟩ := hQ
      cases e) (fun v2 T3 I3 J3 R3 hp3 hQ3 => ?_)
  obtain ⟨e1, e2, ⟨b, e3, hb⟩, h61, hL3, hfI3, hfJ3, hZ3⟩ := hQ3
  cases e3
  rw [e1, e2]
  show YW sb X (C + 3) (S + 200) 2737 [none, some (.ref 0), some (.ref 44), some (.ref 94), some (.int (nI (7 * c))), some (.int (nI k)), none] [.int b] T2 I3 J3 R2
  exact lk_tail hC hG2.hT hG2.hR h61 hk hb (fun z => by rw [hfJ3 94 (by decide)]; exact hv z) hc hs dL_law_2737 dL_law_2739 dL_law_2740 dL_law_2743 dL_law_2745 dL_law_2750 dL_law_2752 dL_law_2755 dL_law_2756 dL_law_2757 dL_law_2758 dL_law_2760 dL_law_2761 dL_law_2762 dL_law_2767 (by decide) (fun _ _ => kk _ _ _ _ _ _ (lk_gi hG2 hfI3 hfJ3 hL3) hZ3)
theorem lk_take {sb N : Nat} {xs : Nat → Int32} {X : aX} {C S : Nat} {T : List aT} {I : aI} {J : aJ} {R : aR} {c : Nat} (hC : YC yL_law cL_law 7 12 438 601024 7293034 sb N xs X) (hG : GI T I J R I c) (hZ : Zr J) (hin : 7 * c + 7 ≤ N) (hN : N ≤ 3584) (hc : C + 3 ≤ 601024) (hs : S + 200 ≤ 7293034) (kk : ∀ (a9 b9 : Option Value) (T2 : List aT) (I2 : aI) (J2 : aJ) (R2 : aR), GI T2 I2 J2 R2 I2 (c + 1) → Zr J2 → YW sb X (C + 3) (S + 200) 2838 [none, some (.ref 0), some (.ref 44), some (.ref 94), some (.int (nI (7 * c))), a9, b9] [] T2 I2 J2 R2) : YW sb X C S 2770 [none, some (.ref 0), some (.ref 44), some (.ref 94), some (.int (nI (7 * c))), none, none] [] T I J R := by
  have hT := hG.hT
  obtain ⟨n, sq, g, gq, eq, r, p, pq, k0, h9⟩ := hG
  refine lx_aload_n hC dL_law_2770 rfl ?_
  refine lx_sld (z := nI 1) hC dL_law_2771 dL_law_2772 dL_law_2774 dL_law_2775 dL_law_2776 (by decide) rfl (lx_in hin hN (by decide)) ?_
  refine lx_sld (z := nI 2) hC dL_law_2777 dL_law_2778 dL_law_2780 dL_law_2781 dL_law_2782 (by decide) rfl (lx_in hin hN (by decide)) ?_
  refine lx_aload_n hC dL_law_2783 rfl ?_
  refine lx_callSX (n := 4) (As := [.ref 0, .int (xs (nI (7 * c) + nI 1).toNatClampNeg), .int (xs (nI (7 * c) + nI 2).toNatClampNeg), .ref 94]) hC (m_L_take hT _ _ (m_X11_take h9 _ _)) dL_law_2784 gC_L_take gL_L_290 gS_L_take gN_L ⟨by decide +kernel, by decide +kernel, by decide +kernel⟩ rfl a_le a_le a_le hc hs rfl (fun E T2 I2 J2 R2 hp hQ => by
      obtain ⟨_, _, _, e, _⟩ := hQ
      cases e) (fun v1 T2 I2 J2 R2 hp hQ => ?_)
  obtain ⟨k, v, m2, e, hk, hS, hG2, hfI, hfJ, hv⟩ := hQ
  cases e
  show YW sb X (C + 3) (S + 200) 2787 [none, some (.ref 0), some (.ref 44), some (.ref 94), some (.int (nI (7 * c))), none, none] [.int (nI k)] T2 I2 J2 R2
  refine lx_istore (L2 := [none, some (.ref 0), some (.ref 44), some (.ref 94), some (.int (nI (7 * c))), some (.int (nI k)), none]) hC dL_law_2787 (by decide) (by decide) rfl ?_
  refine lx_aload_n hC dL_law_2789 rfl ?_
  refine lx_sld (z := nI 1) hC dL_law_2790 dL_law_2791 dL_law_2793 dL_law_2794 dL_law_2795 (by decide) rfl (lx_in hin hN (by decide)) ?_
  refine lx_sld (z := nI 2) hC dL_law_2796 dL_law_2797 dL_law_2799 dL_law_2800 dL_law_2801 (by decide) rfl (lx_in hin hN (by decide)) ?_
  refine lx_callV (n := 2) (ci := 12) (Tb := TX12) hC rfl (tg_44 hG2.hT) rfl (D_take hG2.hT hG2.hR h9.mi (lk_leq hfI) (lk_zr hfJ hZ) _ _ hS) dL_law_2802 gC_X12_take gL_L_292 gI_X12_take gE_X12_take gN_X12 ⟨by decide +kernel, by decide +kernel, by decide +kernel⟩ rfl a_le a_le a_le hc hs rfl (fun E T3 I3 J3 R3 hp hQ => by
      obtain ⟨_, _, ⟨b, e, _⟩, _⟩ := hQ
      cases e) (fun v2 T3 I3 J3 R3 hp3 hQ3 => ?_)
  obtain ⟨e1, e2, ⟨b, e3, hb⟩, h61, hL3, hfI3, hfJ3, hZ3⟩ := hQ3
  cases e3
  rw [e1, e2]
  show YW sb X (C + 3) (S + 200) 2805 [none, some (.ref 0), some (.ref 44), some (.ref 94), some (.int (nI (7 * c))), some (.int (nI k)), none] [.int b] T2 I3 J3 R2
  exact lk_tail hC hG2.hT hG2.hR h61 hk hb (fun z => by rw [hfJ3 94 (by decide)]; exact hv z) hc hs dL_law_2805 dL_law_2807 dL_law_2808 dL_law_2811 dL_law_2813 dL_law_2818 dL_law_2820 dL_law_2823 dL_law_2824 dL_law_2825 dL_law_2826 dL_law_2828 dL_law_2829 dL_law_2830 dL_law_2835 (by decide) (fun _ _ => kk _ _ _ _ _ _ (lk_gi hG2 hfI3 hfJ3 hL3) hZ3)
