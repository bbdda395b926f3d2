theorem nd_ex {m : aI} {mj : aJ} {g : Nat} (hg : g ≤ 4) (hso : SO3 m) : ∀ k, k ≤ 16 * g → ∃ N, NdR m mj N k
  | 0, _ => ⟨fun _ => 0, fun x hx => absurd hx (Nat.not_lt_zero _)⟩
  | k + 1, hk => by
    obtain ⟨zzN, zzh⟩ := nd_ex hg hso k (by omega)
    exact ⟨_, zzh.put hg (by omega) hso⟩
/-- how many names differ -/
def DfQ (m : aI) (n g : Nat) (v : Int32) : Prop := ∃ m0 M P S mj w N, StEq m m0 ∧ SolR m0 M n P S ∧ mj 88 = S ∧ TnL M (fun _ => P) n w ∧ NdR (gst m M) mj N (16 * g) ∧ v = if cPv (a_ur (gst m M) 91 N) mj n g w = true then nI (cntT (fun x => decide (0 < N x)) (16 * g)) else -1
theorem m_diffG {T : List aT} {I : aI} {J : aJ} {R : aR} {m : aI} {c n : Nat} {sq : Nat → Nat} {g : Nat} {gq eq : Nat → Nat} {r p : Nat} {pq : Nat → Nat} {k : Nat} (h9 : G9 T I J R m c n sq g gq eq r p pq k) {m0 M : aI} {P S : Nat → Int64} (hs : StEq m m0) (hso : SolR m0 M n P S) (hD : CDr I R M n sq) (h57 : I 8 2 = M 44 57) (hfo : ∀ f, f < 10 → I 11 f = sVl (M 44 57) S f) (htn : TnL M (fun _ => P) n (I 8 3)) : MX2_countDiffering 0 0 [.ref 33] T I J R (aRelV (fun v I2 J2 => J2 = J ∧ (∀ o, o < 33 ∨ 37 < o → I2 o = I o) ∧ ∃ d, DfQ m n g d ∧ v = some (.int d)) T R) := by
  obtain ⟨q1, q2, q3, q4, q5, q6, q7, q8, q9⟩ := h9.gsq (mj := fun _ => S) hD h57 hfo rfl
  obtain ⟨zzN, zzh⟩ := nd_ex (m := gst m M) (mj := fun _ => S) q5.1.1 q5.1.2.2.1 (16 * g) (Nat.le_refl _)
  have zzS : InvS (gst m M) g := h9.es.2.1.cgm (gst_lo (by decide) (by decide)) (gst_lo (by decide) (by decide)) (gst_lo (by decide) (by decide)) (gst_lo (by decide) (by decide)) (gst_lo (by decide) (by decide))
  have ea : ∀ o, o ≠ 91 → a_ur (gst m M) 91 zzN o = gst m M o := fun o a => a_ur_ne a
  have zzC : CmpOK (a_ur (gst m M) 91 zzN) (fun _ => S) g := fun x hx => by rw [a_ur_self]; exact zzh x hx
  refine AMet.mono (m_X2_countDiffering (m := a_ur (gst m M) 91 zzN) (mj := fun _ => S) h9.hT h9.hR q1.m91 q5.m91.1 q2.m91 (q3.cgm (ea 69 (by decide)) (ea 70 (by decide)) (ea 71 (by decide)) (ea 72 (by decide)) (ea 73 (by decide))) (fun f hf => ?_) q5.m91.2.1 (q6.cgm (fun o a b => ea o (by omega))) (SW_cgr q7 (fun o a b => ea o (by omega)) (by rw [ea 44 (by decide)])) (fun s hs9 => by rw [ea 86 (by decide)]; exact q8 s hs9) (by rw [ea 44 (by decide)]; exact q9) zzC zzS.m91) (fun o T2 I2 J2 R2 hp hQ => ?_)
  · rw [q4 f hf]; show _ = (if a_ur (gst m M) 91 zzN 44 57 = 0 then _ else _); rw [ea 44 (by decide)]
  · obtain ⟨v, zz1, zz2, zz3, zzJ, zz4, zz5⟩ := hQ
    obtain ⟨zzB, zz6⟩ := zz4
    refine ⟨v, zz1, zz2, zz3, zzJ, fun o ho => by rw [zz6, a_ur_ne (by omega)], _, ⟨m0, M, P, S, fun _ => S, I 8 3, zzN, hs, hso, rfl, htn, zzh, rfl⟩, ?_⟩
    rw [zz5, show (dfB (a_ur (gst m M) 91 zzN)) = (fun x => decide (0 < zzN x)) from funext fun x => by show decide (0 < a_ur (gst m M) 91 zzN 91 x) = _; rw [a_ur_self]]
set_option maxRecDepth 100000 in
theorem m_X11_differing {T : List aT} {I : aI} {J : aJ} {R : aR} {m : aI} {c n : Nat} {sq : Nat → Nat} {g : Nat} {gq eq : Nat → Nat} {r p : Nat} {pq : Nat → Nat} {k : Nat} (h9 : G9 T I J R m c n sq g gq eq r p pq k)  : MX11_differing 3 200 [.ref 0] T I J R (CP [] I J m c (fun k v m2 => k = 0 ∧ DfQ m n g v ∧ m2 = m)) := by
  refine a_met (by decide +kernel) a_le (fun X hC hq => ?_)
  show AW X 0 0 0 [some (.ref 0)] [] T I J R
  have hT := h9.hT
  have hR := h9.hR
  refine aw_aload_n hC dX11_differing_0 rfl ?_
  refine aw_getR hC dX11_differing_1 aF_X11_21 rfl (tg_0 hT) (pr_0_1 hR) ?_
  refine kX11_113 hC rfl (m_settleG h9) dX11_differing_4 (tg_8 hT) rfl a_le a_le a_le a_le a_le rfl aRelT_x (aRelT_k (fun v9 T9 I9 J9 R9 hp9 hQ => ?_))
  obtain ⟨ev9, hT9, hf9, hg9, m0, hs9, hl9⟩ := hQ
  rw [ev9, hT9]
  have hR9 := hg9.hR
  obtain ⟨M, P, S, hso, hD9, hC9, hP9, hS9, h57, hfo, htn, hcf, hSM, hcs, h53, hfx⟩ := hl9.use hs9 h9.bk hg9.cb.1
  show AW X 0 0 7 [some (.ref 0)] [] T I9 J9 R9
  refine aw_aload_n hC dX11_differing_7 rfl ?_
  refine aw_getR hC dX11_differing_8 aF_X11_37 rfl (tg_0 hT) (pr_0_3 hR9) ?_
  refine kX11_272 hC rfl (m_diffG hg9 hs9 hso hD9 h57 hfo htn) dX11_differing_11 (tg_33 hT) rfl a_le a_le a_le a_le a_le rfl aRelV_x (aRelV_k (fun v9 I8 J8 hQ => ?_))
  obtain ⟨hJ8, hI8, d8, hd8, ev8⟩ := hQ
  rw [ev8, hJ8]
  have hg8 := hg9.cmp (I2 := I8) hI8
  show AW X 0 0 14 [some (.ref 0)] [.int d8] T I8 J9 R9
  exact aw_ireturn hC hq rfl dX11_differing_14 a_le a_le (CP.ok ⟨rfl, hd8, rfl⟩ (fun o u v => ⟨(hI8 o (by omega)).trans (hf9 o u v).1, (hf9 o u v).2⟩) hg8.gi)
