set_option maxRecDepth 100000 in
theorem rf_1_A {X : aX} (hC : aC yL_refuses cL_refuses 24 (some .boolean) 10 230 1000 66000 [] X) {m : aI} {n q g r p : Nat} {sv pv lv : Int32} (hn : iN m 44 0 = n) (hq : iN m 44 14 = q) (hg : iN m 44 20 = g) (hr : iN m 44 25 = r) (hp : iN m 44 36 = p) (hb : n ≤ 30 ∧ q ≤ 8 ∧ g ≤ 4 ∧ r ≤ 60 ∧ p ≤ 40 ∧ iN m 63 0 ≤ 8 ∧ iN m 79 0 ≤ 128) {T : List aT} {I : aI} {J : aJ} {R : aR} (h0 : GX T I J R m) (kk : ∀ {T I J R}, GX T I J R m → AW X 417 27800 1491 [some (.ref 0), some (.int (nI n)), some (.int (nI q)), some (.int (nI g)), some (.int (nI p)), some (.int sv), some (.int (nI r)), some (.int pv), some (.int lv), some (.int 2147483647), some (.int 1), some (.int (-2147483648)), some (.int 3), some (.int 4), some (.int 6), some (.int 10), some (.int 64), some (.int (nI (16 * g))), some (.int (nI g)), some (.int (nI r)), some (.int (nI p)), some (.int 31), some (.int 4), some (.int 1)] [] T I J R) : AW X 234 15600 31 [some (.ref 0), some (.int (nI n)), some (.int (nI q)), some (.int (nI g)), some (.int (nI p)), some (.int sv), some (.int (nI r)), some (.int pv), some (.int lv), some (.int 2147483647), some (.int 1), some (.int (-1)), some (.int (-1)), some (.int (-1)), some (.int (-1)), some (.int (-1)), some (.int (-1)), some (.int (-1)), some (.int (-1)), some (.int (-1)), some (.int (-1)), some (.int 0), some (.int (-2)), some (.int 1)] [] T I J R := by
  refine aw_iload hC dL_refuses_31 rfl ?_
  refine aw_iconst (v := 4) hC dL_refuses_33 (by decide) ?_
  refine aw_icmp_ge (tgt := 1813) hC dL_refuses_34 (by decide) (fun z9 => absurd z9 (by decide)) (fun _ => ?_)
  refine aw_iload hC dL_refuses_37 rfl ?_
  refine aw_if_ne (tgt := 46) hC dL_refuses_39 (by decide) (fun _ => ?_) (fun z9 => absurd z9 (by decide))
  refine aw_iload hC dL_refuses_46 rfl ?_
  refine aw_iconst (v := 2) hC dL_refuses_48 (by decide) ?_
  refine aw_icmp_ne (tgt := 57) hC dL_refuses_49 (by decide) (fun _ => ?_) (fun z9 => absurd z9 (by decide))
  refine aw_iload hC dL_refuses_57 rfl ?_
  refine aw_ineg hC dL_refuses_59 ?_
  rw [show (-2147483647 : Int32) = (-2147483647) from by decide]
  refine aw_iconst (v := 1) hC dL_refuses_60 (by decide) ?_
  refine aw_isub hC dL_refuses_61 ?_
  rw [show ((-2147483647) - 1 : Int32) = (-2147483648) from by decide]
  refine aw_istore (L2 := [some (.ref 0), some (.int (nI n)), some (.int (nI q)), some (.int (nI g)), some (.int (nI p)), some (.int sv), some (.int (nI r)), some (.int pv), some (.int lv), some (.int 2147483647), some (.int 1), some (.int (-2147483648)), some (.int (-1)), some (.int (-1)), some (.int (-1)), some (.int (-1)), some (.int (-1)), some (.int (-1)), some (.int (-1)), some (.int (-1)), some (.int (-1)), some (.int 0), some (.int (-2)), some (.int 1)]) hC dL_refuses_62 (by decide) rfl ?_
  refine aw_iload hC dL_refuses_64 rfl ?_
  refine aw_iconst (v := 1) hC dL_refuses_66 (by decide) ?_
  refine aw_icmp_ne (tgt := 74) hC dL_refuses_67 (by decide) (fun z9 => absurd z9 (by decide)) (fun _ => ?_)
  refine aw_iconst (v := 3) hC dL_refuses_70 (by decide) ?_
  refine aw_goto (tgt := 76) hC dL_refuses_71 (by decide) ?_
  refine aw_istore (L2 := [some (.ref 0), some (.int (nI n)), some (.int (nI q)), some (.int (nI g)), some (.int (nI p)), some (.int sv), some (.int (nI r)), some (.int pv), some (.int lv), some (.int 2147483647), some (.int 1), some (.int (-2147483648)), some (.int 3), some (.int (-1)), some (.int (-1)), some (.int (-1)), some (.int (-1)), some (.int (-1)), some (.int (-1)), some (.int (-1)), some (.int (-1)), some (.int 0), some (.int (-2)), some (.int 1)]) hC dL_refuses_76 (by decide) rfl ?_
  refine aw_iload hC dL_refuses_78 rfl ?_
  refine aw_iconst (v := 1) hC dL_refuses_80 (by decide) ?_
  refine aw_icmp_ne (tgt := 88) hC dL_refuses_81 (by decide) (fun z9 => absurd z9 (by decide)) (fun _ => ?_)
  refine aw_iconst (v := 4) hC dL_refuses_84 (by decide) ?_
  refine aw_goto (tgt := 90) hC dL_refuses_85 (by decide) ?_
  refine aw_istore (L2 := [some (.ref 0), some (.int (nI n)), some (.int (nI q)), some (.int (nI g)), some (.int (nI p)), some (.int sv), some (.int (nI r)), some (.int pv), some (.int lv), some (.int 2147483647), some (.int 1), some (.int (-2147483648)), some (.int 3), some (.int 4), some (.int (-1)), some (.int (-1)), some (.int (-1)), some (.int (-1)), some (.int (-1)), some (.int (-1)), some (.int (-1)), some (.int 0), some (.int (-2)), some (.int 1)]) hC dL_refuses_90 (by decide) rfl ?_
  refine aw_iload hC dL_refuses_92 rfl ?_
  refine aw_iconst (v := 1) hC dL_refuses_94 (by decide) ?_
  refine aw_icmp_ne (tgt := 103) hC dL_refuses_95 (by decide) (fun z9 => absurd z9 (by decide)) (fun _ => ?_)
  refine aw_bipush (v := 6) hC dL_refuses_98 (by decide) ?_
  refine aw_goto (tgt := 105) hC dL_refuses_100 (by decide) ?_
  refine aw_istore (L2 := [some (.ref 0), some (.int (nI n)), some (.int (nI q)), some (.int (nI g)), some (.int (nI p)), some (.int sv), some (.int (nI r)), some (.int pv), some (.int lv), some (.int 2147483647), some (.int 1), some (.int (-2147483648)), some (.int 3), some (.int 4), some (.int 6), some (.int (-1)), some (.int (-1)), some (.int (-1)), some (.int (-1)), some (.int (-1)), some (.int (-1)), some (.int 0), some (.int (-2)), some (.int 1)]) hC dL_refuses_105 (by decide) rfl ?_
  refine aw_iload hC dL_refuses_107 rfl ?_
  refine aw_iconst (v := 1) hC dL_refuses_109 (by decide) ?_
  refine aw_icmp_ne (tgt := 118) hC dL_refuses_110 (by decide) (fun z9 => absurd z9 (by decide)) (fun _ => ?_)
  refine aw_bipush (v := 10) hC dL_refuses_113 (by decide) ?_
  refine aw_goto (tgt := 120) hC dL_refuses_115 (by decide) ?_
  refine aw_istore (L2 := [some (.ref 0), some (.int (nI n)), some (.int (nI q)), some (.int (nI g)), some (.int (nI p)), some (.int sv), some (.int (nI r)), some (.int pv), some (.int lv), some (.int 2147483647), some (.int 1), some (.int (-2147483648)), some (.int 3), some (.int 4), some (.int 6), some (.int 10), some (.int (-1)), some (.int (-1)), some (.int (-1)), some (.int (-1)), some (.int (-1)), some (.int 0), some (.int (-2)), some (.int 1)]) hC dL_refuses_120 (by decide) rfl ?_
  refine aw_iload hC dL_refuses_122 rfl ?_
  refine aw_iconst (v := 1) hC dL_refuses_124 (by decide) ?_
  refine aw_icmp_ne (tgt := 133) hC dL_refuses_125 (by decide) (fun z9 => absurd z9 (by decide)) (fun _ => ?_)
  refine aw_bipush (v := 64) hC dL_refuses_128 (by decide) ?_
  refine aw_goto (tgt := 135) hC dL_refuses_130 (by decide) ?_
  refine aw_istore (L2 := [some (.ref 0), some (.int (nI n)), some (.int (nI q)), some (.int (nI g)), some (.int (nI p)), some (.int sv), some (.int (nI r)), some (.int pv), some (.int lv), some (.int 2147483647), some (.int 1), some (.int (-2147483648)), some (.int 3), some (.int 4), some (.int 6), some (.int 10), some (.int 64), some (.int (-1)), some (.int (-1)), some (.int (-1)), some (.int (-1)), some (.int 0), some (.int (-2)), some (.int 1)]) hC dL_refuses_135 (by decide) rfl ?_
  refine aw_iload hC dL_refuses_137 rfl ?_
  refine aw_iconst (v := 1) hC dL_refuses_139 (by decide) ?_
  refine aw_icmp_ne (tgt := 150) hC dL_refuses_140 (by decide) (fun z9 => absurd z9 (by decide)) (fun _ => ?_)
  refine aw_bipush (v := 16) hC dL_refuses_143 (by decide) ?_
  refine aw_iload_n hC dL_refuses_145 rfl ?_
  refine aw_imul hC dL_refuses_146 ?_
  rw [show (16 * nI g : Int32) = nI (16 * g) from pk_mul 16 g]
  refine aw_goto (tgt := 152) hC dL_refuses_147 (by decide) ?_
  refine aw_istore (L2 := [some (.ref 0), some (.int (nI n)), some (.int (nI q)), some (.int (nI g)), some (.int (nI p)), some (.int sv), some (.int (nI r)), some (.int pv), some (.int lv), some (.int 2147483647), some (.int 1), some (.int (-2147483648)), some (.int 3), some (.int 4), some (.int 6), some (.int 10), some (.int 64), some (.int (nI (16 * g))), some (.int (-1)), some (.int (-1)), some (.int (-1)), some (.int 0), some (.int (-2)), some (.int 1)]) hC dL_refuses_152 (by decide) rfl ?_
  refine aw_iload hC dL_refuses_154 rfl ?_
  refine aw_iconst (v := 1) hC dL_refuses_156 (by decide) ?_
  refine aw_icmp_ne (tgt := 164) hC dL_refuses_157 (by decide) (fun z9 => absurd z9 (by decide)) (fun _ => ?_)
  refine aw_iload_n hC dL_refuses_160 rfl ?_
  refine aw_goto (tgt := 166) hC dL_refuses_161 (by decide) ?_
  refine aw_istore (L2 := [some (.ref 0), some (.int (nI n)), some (.int (nI q)), some (.int (nI g)), some (.int (nI p)), some (.int sv), some (.int (nI r)), some (.int pv), some (.int lv), some (.int 2147483647), some (.int 1), some (.int (-2147483648)), some (.int 3), some (.int 4), some (.int 6), some (.int 10), some (.int 64), some (.int (nI (16 * g))), some (.int (nI g)), some (.int (-1)), some (.int (-1)), some (.int 0), some (.int (-2)), some (.int 1)]) hC dL_refuses_166 (by decide) rfl ?_
  refine aw_iload hC dL_refuses_168 rfl ?_
  refine aw_iconst (v := 1) hC dL_refuses_170 (by decide) ?_
  refine aw_icmp_ne (tgt := 179) hC dL_refuses_171 (by decide) (fun z9 => absurd z9 (by decide)) (fun _ => ?_)
  refine aw_iload hC dL_refuses_174 rfl ?_
  refine aw_goto (tgt := 181) hC dL_refuses_176 (by decide) ?_
  refine aw_istore (L2 := [some (.ref 0), some (.int (nI n)), some (.int (nI q)), some (.int (nI g)), some (.int (nI p)), some (.int sv), some (.int (nI r)), some (.int pv), some (.int lv), some (.int 2147483647), some (.int 1), some (.int (-2147483648)), some (.int 3), some (.int 4), some (.int 6), some (.int 10), some (.int 64), some (.int (nI (16 * g))), some (.int (nI g)), some (.int (nI r)), some (.int (-1)), some (.int 0), some (.int (-2)), some (.int 1)]) hC dL_refuses_181 (by decide) rfl ?_
  refine aw_iload hC dL_refuses_183 rfl ?_
  refine aw_iconst (v := 1) hC dL_refuses_185 (by decide) ?_
  refine aw_icmp_ne (tgt := 194) hC dL_refuses_186 (by decide) (fun z9 => absurd z9 (by decide)) (fun _ => ?_)
  refine aw_iload hC dL_refuses_189 rfl ?_
  refine aw_goto (tgt := 196) hC dL_refuses_191 (by decide) ?_
  refine aw_istore (L2 := [some (.ref 0), some (.int (nI n)), some (.int (nI q)), some (.int (nI g)), some (.int (nI p)), some (.int sv), some (.int (nI r)), some (.int pv), some (.int lv), some (.int 2147483647), some (.int 1), some (.int (-2147483648)), some (.int 3), some (.int 4), some (.int 6), some (.int 10), some (.int 64), some (.int (nI (16 * g))), some (.int (nI g)), some (.int (nI r)), some (.int (nI p)), some (.int 0), some (.int (-2)), some (.int 1)]) hC dL_refuses_196 (by decide) rfl ?_
  refine aw_iload hC dL_refuses_198 rfl ?_
  refine aw_if_ne (tgt := 207) hC dL_refuses_200 (by decide) (fun _ => ?_) (fun z9 => absurd z9 (by decide))
  refine aw_iload hC dL_refuses_207 rfl ?_
  refine aw_iconst (v := 1) hC dL_refuses_209 (by decide) ?_
  refine aw_icmp_ne (tgt := 218) hC dL_refuses_210 (by decide) (fun z9 => absurd z9 (by decide)) (fun _ => ?_)
  refine aw_bipush (v := 31) hC dL_refuses_213 (by decide) ?_
  refine aw_goto (tgt := 220) hC dL_refuses_215 (by decide) ?_
  refine aw_istore (L2 := [some (.ref 0), some (.int (nI n)), some (.int (nI q)), some (.int (nI g)), some (.int (nI p)), some (.int sv), some (.int (nI r)), some (.int pv), some (.int lv), some (.int 2147483647), some (.int 1), some (.int (-2147483648)), some (.int 3), some (.int 4), some (.int 6), some (.int 10), some (.int 64), some (.int (nI (16 * g))), some (.int (nI g)), some (.int (nI r)), some (.int (nI p)), some (.int 31), some (.int (-2)), some (.int 1)]) hC dL_refuses_220 (by decide) rfl ?_
  refine aw_iload hC dL_refuses_222 rfl ?_
  refine aw_if_ne (tgt := 232) hC dL_refuses_224 (by decide) (fun _ => ?_) (fun z9 => absurd z9 (by decide))
  refine aw_iload hC dL_refuses_232 rfl ?_
  refine aw_iconst (v := 1) hC dL_refuses_234 (by decide) ?_
  refine aw_icmp_ne (tgt := 242) hC dL_refuses_235 (by decide) (fun z9 => absurd z9 (by decide)) (fun _ => ?_)
  refine aw_iconst (v := 4) hC dL_refuses_238 (by decide) ?_
  refine aw_goto (tgt := 244) hC dL_refuses_239 (by decide) ?_
  refine aw_istore (L2 := [some (.ref 0), some (.int (nI n)), some (.int (nI q)), some (.int (nI g)), some (.int (nI p)), some (.int sv), some (.int (nI r)), some (.int pv), some (.int lv), some (.int 2147483647), some (.int 1), some (.int (-2147483648)), some (.int 3), some (.int 4), some (.int 6), some (.int 10), some (.int 64), some (.int (nI (16 * g))), some (.int (nI g)), some (.int (nI r)), some (.int (nI p)), some (.int 31), some (.int 4), some (.int 1)]) hC dL_refuses_244 (by decide) rfl ?_
  refine aw_aload_n hC dL_refuses_246 rfl ?_
  refine aw_iconst (v := 0) hC dL_refuses_247 (by decide) ?_
  refine aw_iload hC dL_refuses_248 rfl ?_
  refine aw_iconst (v := 0) hC dL_refuses_250 (by decide) ?_
  refine aw_iconst (v := 0) hC dL_refuses_251 (by decide) ?_
  refine aw_iconst (v := 0) hC dL_refuses_252 (by decide) ?_
  refine aw_iconst (v := 0) hC dL_refuses_253 (by decide) ?_
  refine kL_157 hC rfl (m_L_act_0 h0 (x_tell_exI h0 (by decide))) dL_refuses_254 rfl a_le a_le a_le a_le a_le rfl ekx (ekp (fun T I J R h0 => ?_))
  show AW X 237 15800 257 [some (.ref 0), some (.int (nI n)), some (.int (nI q)), some (.int (nI g)), some (.int (nI p)), some (.int sv), some (.int (nI r)), some (.int pv), some (.int lv), some (.int 2147483647), some (.int 1), some (.int (-2147483648)), some (.int 3), some (.int 4), some (.int 6), some (.int 10), some (.int 64), some (.int (nI (16 * g))), some (.int (nI g)), some (.int (nI r)), some (.int (nI p)), some (.int 31), some (.int 4), some (.int 1)] [.int (-71)] T I J R
  refine aw_bipush (v := (-71)) hC dL_refuses_257 (by decide) ?_
  refine aw_icmp_ne (tgt := 646) hC dL_refuses_259 (by decide) (fun z9 => absurd z9 (by decide)) (fun _ => ?_)
  refine aw_aload_n hC dL_refuses_262 rfl ?_
  refine aw_iconst (v := 0) hC dL_refuses_263 (by decide) ?_
  refine aw_iconst (v := 0) hC dL_refuses_264 (by decide) ?_
  refine aw_iconst (v := 0) hC dL_refuses_265 (by decide) ?_
  refine aw_iload hC dL_refuses_266 rfl ?_
  refine aw_bipush (v := (-9)) hC dL_refuses_268 (by decide) ?_
  refine aw_iconst (v := 0) hC dL_refuses_270 (by decide) ?_
  refine kL_157 hC rfl (m_L_act_0 h0 (x_tell_1 h0 ⟨by decide, if_pos (by decide)⟩)) dL_refuses_271 rfl a_le a_le a_le a_le a_le rfl ekx (ekp (fun T I J R h0 => ?_))
  show AW X 240 16000 274 [some (.ref 0), some (.int (nI n)), some (.int (nI q)), some (.int (nI g)), some (.int (nI p)), some (.int sv), some (.int (nI r)), some (.int pv), some (.int lv), some (.int 2147483647), some (.int 1), some (.int (-2147483648)), some (.int 3), some (.int 4), some (.int 6), some (.int 10), some (.int 64), some (.int (nI (16 * g))), some (.int (nI g)), some (.int (nI r)), some (.int (nI p)), some (.int 31), some (.int 4), some (.int 1)] [.int (-71)] T I J R
  refine aw_bipush (v := (-71)) hC dL_refuses_274 (by decide) ?_
  refine aw_icmp_ne (tgt := 646) hC dL_refuses_276 (by decide) (fun z9 => absurd z9 (by decide)) (fun _ => ?_)
  refine aw_aload_n hC dL_refuses_279 rfl ?_
  refine aw_iconst (v := 0) hC dL_refuses_280 (by decide) ?_
  refine aw_iconst (v := 0) hC dL_refuses_281 (by decide) ?_
  refine aw_bipush (v := 12) hC dL_refuses_282 (by decide) ?_
  refine aw_iload hC dL_refuses_284 rfl ?_
  refine aw_iconst (v := 0) hC dL_refuses_286 (by decide) ?_
  refine aw_iconst (v := 0) hC dL_refuses_287 (by decide) ?_
  refine kL_157 hC rfl (m_L_act_0 h0 (x_tell_1 h0 ⟨by decide, if_pos (by decide)⟩)) dL_refuses_288 rfl a_le a_le a_le a_le a_le rfl ekx (ekp (fun T I J R h0 => ?_))
  show AW X 243 16200 291 [some (.ref 0), some (.int (nI n)), some (.int (nI q)), some (.int (nI g)), some (.int (nI p)), some (.int sv), some (.int (nI r)), some (.int pv), some (.int lv), some (.int 2147483647), some (.int 1), some (.int (-2147483648)), some (.int 3), some (.int 4), some (.int 6), some (.int 10), some (.int 64), some (.int (nI (16 * g))), some (.int (nI g)), some (.int (nI r)), some (.int (nI p)), some (.int 31), some (.int 4), some (.int 1)] [.int (-71)] T I J R
  refine aw_bipush (v := (-71)) hC dL_refuses_291 (by decide) ?_
  refine aw_icmp_ne (tgt := 646) hC dL_refuses_293 (by decide) (fun z9 => absurd z9 (by decide)) (fun _ => ?_)
  refine aw_aload_n hC dL_refuses_296 rfl ?_
  refine aw_iconst (v := 0) hC dL_refuses_297 (by decide) ?_
  refine aw_iconst (v := 0) hC dL_refuses_298 (by decide) ?_
  refine aw_iconst (v := 5) hC dL_refuses_299 (by decide) ?_
  refine aw_iconst (v := 0) hC dL_refuses_300 (by decide) ?_
  refine aw_iload hC dL_refuses_301 rfl ?_
  refine aw_bipush (v := 99) hC dL_refuses_303 (by decide) ?_
  refine kL_157 hC rfl (m_L_act_0 h0 (x_tell_1 h0 ⟨by decide, if_pos (by decide)⟩)) dL_refuses_305 rfl a_le a_le a_le a_le a_le rfl ekx (ekp (fun T I J R h0 => ?_))
  show AW X 246 16400 308 [some (.ref 0), some (.int (nI n)), some (.int (nI q)), some (.int (nI g)), some (.int (nI p)), some (.int sv), some (.int (nI r)), some (.int pv), some (.int lv), some (.int 2147483647), some (.int 1), some (.int (-2147483648)), some (.int 3), some (.int 4), some (.int 6), some (.int 10), some (.int 64), some (.int (nI (16 * g))), some (.int (nI g)), some (.int (nI r)), some (.int (nI p)), some (.int 31), some (.int 4), some (.int 1)] [.int (-71)] T I J R
  refine aw_bipush (v := (-71)) hC dL_refuses_308 (by decide) ?_
  refine aw_icmp_ne (tgt := 646) hC dL_refuses_310 (by decide) (fun z9 => absurd z9 (by decide)) (fun _ => ?_)
  refine aw_aload_n hC dL_refuses_313 rfl ?_
  refine aw_iconst (v := 0) hC dL_refuses_314 (by decide) ?_
  refine aw_iconst (v := 0) hC dL_refuses_315 (by decide) ?_
  refine aw_bipush (v := 6) hC dL_refuses_316 (by decide) ?_
  refine aw_iconst (v := 0) hC dL_refuses_318 (by decide) ?_
  refine aw_iload hC dL_refuses_319 rfl ?_
  refine aw_iconst (v := 1) hC dL_refuses_321 (by decide) ?_
  refine kL_157 hC rfl (m_L_act_0 h0 (x_tell_1 h0 ⟨by decide, if_pos (by decide)⟩)) dL_refuses_322 rfl a_le a_le a_le a_le a_le rfl ekx (ekp (fun T I J R h0 => ?_))
  show AW X 249 16600 325 [some (.ref 0), some (.int (nI n)), some (.int (nI q)), some (.int (nI g)), some (.int (nI p)), some (.int sv), some (.int (nI r)), some (.int pv), some (.int lv), some (.int 2147483647), some (.int 1), some (.int (-2147483648)), some (.int 3), some (.int 4), some (.int 6), some (.int 10), some (.int 64), some (.int (nI (16 * g))), some (.int (nI g)), some (.int (nI r)), some (.int (nI p)), some (.int 31), some (.int 4), some (.int 1)] [.int (-71)] T I J R
  refine aw_bipush (v := (-71)) hC dL_refuses_325 (by decide) ?_
  refine aw_icmp_ne (tgt := 646) hC dL_refuses_327 (by decide) (fun z9 => absurd z9 (by decide)) (fun _ => ?_)
  refine aw_aload_n hC dL_refuses_330 rfl ?_
  refine aw_iconst (v := 0) hC dL_refuses_331 (by decide) ?_
  refine aw_iconst (v := 0) hC dL_refuses_332 (by decide) ?_
  refine aw_iload hC dL_refuses_333 rfl ?_
  refine aw_iconst (v := 1) hC dL_refuses_335 (by decide) ?_
  refine aw_icmp_ne (tgt := 344) hC dL_refuses_336 (by decide) (fun z9 => absurd z9 (by decide)) (fun _ => ?_)
  refine aw_bipush (v := 13) hC dL_refuses_339 (by decide) ?_
  refine aw_goto (tgt := 346) hC dL_refuses_341 (by decide) ?_
  refine aw_iload hC dL_refuses_346 rfl ?_
  refine aw_iconst (v := 0) hC dL_refuses_348 (by decide) ?_
  refine aw_iconst (v := 0) hC dL_refuses_349 (by decide) ?_
  refine kL_157 hC rfl (m_L_act_0 h0 (x_tell_1 h0 ⟨by decide, if_pos (by decide)⟩)) dL_refuses_350 rfl a_le a_le a_le a_le a_le rfl ekx (ekp (fun T I J R h0 => ?_))
  show AW X 252 16800 353 [some (.ref 0), some (.int (nI n)), some (.int (nI q)), some (.int (nI g)), some (.int (nI p)), some (.int sv), some (.int (nI r)), some (.int pv), some (.int lv), some (.int 2147483647), some (.int 1), some (.int (-2147483648)), some (.int 3), some (.int 4), some (.int 6), some (.int 10), some (.int 64), some (.int (nI (16 * g))), some (.int (nI g)), some (.int (nI r)), some (.int (nI p)), some (.int 31), some (.int 4), some (.int 1)] [.int (-71)] T I J R
  refine aw_bipush (v := (-71)) hC dL_refuses_353 (by decide) ?_
  refine aw_icmp_ne (tgt := 646) hC dL_refuses_355 (by decide) (fun z9 => absurd z9 (by decide)) (fun _ => ?_)
  refine aw_aload_n hC dL_refuses_358 rfl ?_
  refine aw_iconst (v := 0) hC dL_refuses_359 (by decide) ?_
  refine aw_iconst (v := 0) hC dL_refuses_360 (by decide) ?_
  refine aw_iload hC dL_refuses_361 rfl ?_
  refine aw_iconst (v := 1) hC dL_refuses_363 (by decide) ?_
  refine aw_icmp_ne (tgt := 372) hC dL_refuses_364 (by decide) (fun z9 => absurd z9 (by decide)) (fun _ => ?_)
  refine aw_bipush (v := 13) hC dL_refuses_367 (by decide) ?_
  refine aw_goto (tgt := 374) hC dL_refuses_369 (by decide) ?_
  refine aw_iconst (v := 0) hC dL_refuses_374 (by decide) ?_
  refine aw_iconst (v := 0) hC dL_refuses_375 (by decide) ?_
  refine aw_iconst (v := 0) hC dL_refuses_376 (by decide) ?_
  refine kL_157 hC rfl (m_L_act_0 h0 (x_tell_2 h0 ⟨by decide, (if_neg (by decide)).trans (if_pos (by decide))⟩)) dL_refuses_377 rfl a_le a_le a_le a_le a_le rfl ekx (ekp (fun T I J R h0 => ?_))
  show AW X 255 17000 380 [some (.ref 0), some (.int (nI n)), some (.int (nI q)), some (.int (nI g)), some (.int (nI p)), some (.int sv), some (.int (nI r)), some (.int pv), some (.int lv), some (.int 2147483647), some (.int 1), some (.int (-2147483648)), some (.int 3), some (.int 4), some (.int 6), some (.int 10), some (.int 64), some (.int (nI (16 * g))), some (.int (nI g)), some (.int (nI r)), some (.int (nI p)), some (.int 31), some (.int 4), some (.int 1)] [.int (-72)] T I J R
  refine aw_bipush (v := (-72)) hC dL_refuses_380 (by decide) ?_
  refine aw_icmp_ne (tgt := 646) hC dL_refuses_382 (by decide) (fun z9 => absurd z9 (by decide)) (fun _ => ?_)
  refine aw_aload_n hC dL_refuses_385 rfl ?_
  refine aw_iconst (v := 0) hC dL_refuses_386 (by decide) ?_
  refine aw_iconst (v := 0) hC dL_refuses_387 (by decide) ?_
  refine aw_iconst (v := 0) hC dL_refuses_388 (by decide) ?_
  refine aw_iconst (v := 0) hC dL_refuses_389 (by decide) ?_
  refine aw_iload hC dL_refuses_390 rfl ?_
  refine aw_iconst (v := 0) hC dL_refuses_392 (by decide) ?_
  refine kL_157 hC rfl (m_L_act_0 h0 (x_tell_2 h0 ⟨by decide, (if_neg (by decide)).trans (if_pos (by decide))⟩)) dL_refuses_393 rfl a_le a_le a_le a_le a_le rfl ekx (ekp (fun T I J R h0 => ?_))
  show AW X 258 17200 396 [some (.ref 0), some (.int (nI n)), some (.int (nI q)), some (.int (nI g)), some (.int (nI p)), some (.int sv), some (.int (nI r)), some (.int pv), some (.int lv), some (.int 2147483647), some (.int 1), some (.int (-2147483648)), some (.int 3), some (.int 4), some (.int 6), some (.int 10), some (.int 64), some (.int (nI (16 * g))), some (.int (nI g)), some (.int (nI r)), some (.int (nI p)), some (.int 31), some (.int 4), some (.int 1)] [.int (-72)] T I J R
  refine aw_bipush (v := (-72)) hC dL_refuses_396 (by decide) ?_
  refine aw_icmp_ne (tgt := 646) hC dL_refuses_398 (by decide) (fun z9 => absurd z9 (by decide)) (fun _ => ?_)
  refine aw_aload_n hC dL_refuses_401 rfl ?_
  refine aw_iconst (v := 0) hC dL_refuses_402 (by decide) ?_
  refine aw_iconst (v := 0) hC dL_refuses_403 (by decide) ?_
  refine aw_iconst (v := 0) hC dL_refuses_404 (by decide) ?_
  refine aw_iconst (v := 0) hC dL_refuses_405 (by decide) ?_
  refine aw_iconst (v := 0) hC dL_refuses_406 (by decide) ?_
  refine aw_iload hC dL_refuses_407 rfl ?_
  refine aw_iconst (v := 1) hC dL_refuses_409 (by decide) ?_
  refine aw_icmp_ne (tgt := 417) hC dL_refuses_410 (by decide) (fun z9 => absurd z9 (by decide)) (fun _ => ?_)
  refine aw_iconst (v := 1) hC dL_refuses_413 (by decide) ?_
  refine aw_goto (tgt := 419) hC dL_refuses_414 (by decide) ?_
  refine kL_157 hC rfl (m_L_act_0 h0 (x_tell_2 h0 ⟨by decide, (if_neg (by decide)).trans (if_pos (by decide))⟩)) dL_refuses_419 rfl a_le a_le a_le a_le a_le rfl ekx (ekp (fun T I J R h0 => ?_))
  show AW X 261 17400 422 [some (.ref 0), some (.int (nI n)), some (.int (nI q)), some (.int (nI g)), some (.int (nI p)), some (.int sv), some (.int (nI r)), some (.int pv), some (.int lv), some (.int 2147483647), some (.int 1), some (.int (-2147483648)), some (.int 3), some (.int 4), some (.int 6), some (.int 10), some (.int 64), some (.int (nI (16 * g))), some (.int (nI g)), some (.int (nI r)), some (.int (nI p)), some (.int 31), some (.int 4), some (.int 1)] [.int (-72)] T I J R
  refine aw_bipush (v := (-72)) hC dL_refuses_422 (by decide) ?_
  refine aw_icmp_ne (tgt := 646) hC dL_refuses_424 (by decide) (fun z9 => absurd z9 (by decide)) (fun _ => ?_)
  refine aw_aload_n hC dL_refuses_427 rfl ?_
  refine aw_iconst (v := 0) hC dL_refuses_428 (by decide) ?_
  refine aw_iconst (v := 0) hC dL_refuses_429 (by decide) ?_
  refine aw_iconst (v := 1) hC dL_refuses_430 (by decide) ?_
  refine aw_iconst (v := 0) hC dL_refuses_431 (by decide) ?_
  refine aw_bipush (v := 9) hC dL_refuses_432 (by decide) ?_
  refine aw_iload hC dL_refuses_434 rfl ?_
  refine aw_iconst (v := 1) hC dL_refuses_436 (by decide) ?_
  refine aw_icmp_ne (tgt := 445) hC dL_refuses_437 (by decide) (fun z9 => absurd z9 (by decide)) (fun _ => ?_)
  refine aw_bipush (v := 8) hC dL_refuses_440 (by decide) ?_
  refine aw_goto (tgt := 457) hC dL_refuses_442 (by decide) ?_
  refine kL_157 hC rfl (m_L_act_0 h0 (x_tell_2 h0 ⟨by decide, (if_neg (by decide)).trans (if_pos (by decide))⟩)) dL_refuses_457 rfl a_le a_le a_le a_le a_le rfl ekx (ekp (fun T I J R h0 => ?_))
  show AW X 264 17600 460 [some (.ref 0), some (.int (nI n)), some (.int (nI q)), some (.int (nI g)), some (.int (nI p)), some (.int sv), some (.int (nI r)), some (.int pv), some (.int lv), some (.int 2147483647), some (.int 1), some (.int (-2147483648)), some (.int 3), some (.int 4), some (.int 6), some (.int 10), some (.int 64), some (.int (nI (16 * g))), some (.int (nI g)), some (.int (nI r)), some (.int (nI p)), some (.int 31), some (.int 4), some (.int 1)] [.int (-72)] T I J R
  refine aw_bipush (v := (-72)) hC dL_refuses_460 (by decide) ?_
  refine aw_icmp_ne (tgt := 646) hC dL_refuses_462 (by decide) (fun z9 => absurd z9 (by decide)) (fun _ => ?_)
  refine aw_aload_n hC dL_refuses_465 rfl ?_
  refine aw_iconst (v := 0) hC dL_refuses_466 (by decide) ?_
  refine aw_iconst (v := 0) hC dL_refuses_467 (by decide) ?_
  refine aw_iconst (v := 2) hC dL_refuses_468 (by decide) ?_
  refine aw_iconst (v := 0) hC dL_refuses_469 (by decide) ?_
  refine aw_bipush (v := 9) hC dL_refuses_470 (by decide) ?_
  refine aw_iload hC dL_refuses_472 rfl ?_
  refine kL_157 hC rfl (m_L_act_0 h0 (x_tell_2 h0 ⟨by decide, (if_neg (by decide)).trans (if_pos (by decide))⟩)) dL_refuses_474 rfl a_le a_le a_le a_le a_le rfl ekx (ekp (fun T I J R h0 => ?_))
  show AW X 267 17800 477 [some (.ref 0), some (.int (nI n)), some (.int (nI q)), some (.int (nI g)), some (.int (nI p)), some (.int sv), some (.int (nI r)), some (.int pv), some (.int lv), some (.int 2147483647), some (.int 1), some (.int (-2147483648)), some (.int 3), some (.int 4), some (.int 6), some (.int 10), some (.int 64), some (.int (nI (16 * g))), some (.int (nI g)), some (.int (nI r)), some (.int (nI p)), some (.int 31), some (.int 4), some (.int 1)] [.int (-72)] T I J R
  refine aw_bipush (v := (-72)) hC dL_refuses_477 (by decide) ?_
  refine aw_icmp_ne (tgt := 646) hC dL_refuses_479 (by decide) (fun z9 => absurd z9 (by decide)) (fun _ => ?_)
  refine aw_aload_n hC dL_refuses_482 rfl ?_
  refine aw_iconst (v := 0) hC dL_refuses_483 (by decide) ?_
  refine aw_iconst (v := 0) hC dL_refuses_484 (by decide) ?_
  refine aw_iconst (v := 5) hC dL_refuses_485 (by decide) ?_
  refine aw_iconst (v := 0) hC dL_refuses_486 (by decide) ?_
  refine aw_iconst (v := 1) hC dL_refuses_487 (by decide) ?_
  refine aw_iload hC dL_refuses_488 rfl ?_
  refine aw_if_ne (tgt := 498) hC dL_refuses_490 (by decide) (fun _ => ?_) (fun z9 => absurd z9 (by decide))
  refine aw_iload hC dL_refuses_498 rfl ?_
  refine aw_iconst (v := 1) hC dL_refuses_500 (by decide) ?_
  refine aw_icmp_ne (tgt := 509) hC dL_refuses_501 (by decide) (fun z9 => absurd z9 (by decide)) (fun _ => ?_)
  refine aw_bipush (v := 64) hC dL_refuses_504 (by decide) ?_
  refine aw_goto (tgt := 511) hC dL_refuses_506 (by decide) ?_
  refine kL_157 hC rfl (m_L_act_0 h0 (x_tell_2 h0 ⟨by decide, (if_neg (by decide)).trans (if_pos (by decide))⟩)) dL_refuses_511 rfl a_le a_le a_le a_le a_le rfl ekx (ekp (fun T I J R h0 => ?_))
  show AW X 270 18000 514 [some (.ref 0), some (.int (nI n)), some (.int (nI q)), some (.int (nI g)), some (.int (nI p)), some (.int sv), some (.int (nI r)), some (.int pv), some (.int lv), some (.int 2147483647), some (.int 1), some (.int (-2147483648)), some (.int 3), some (.int 4), some (.int 6), some (.int 10), some (.int 64), some (.int (nI (16 * g))), some (.int (nI g)), some (.int (nI r)), some (.int (nI p)), some (.int 31), some (.int 4), some (.int 1)] [.int (-72)] T I J R
  refine aw_bipush (v := (-72)) hC dL_refuses_514 (by decide) ?_
  refine aw_icmp_ne (tgt := 646) hC dL_refuses_516 (by decide) (fun z9 => absurd z9 (by decide)) (fun _ => ?_)
  refine aw_aload_n hC dL_refuses_519 rfl ?_
  refine aw_iconst (v := 0) hC dL_refuses_520 (by decide) ?_
  refine aw_iconst (v := 0) hC dL_refuses_521 (by decide) ?_
  refine aw_bipush (v := 12) hC dL_refuses_522 (by decide) ?_
  refine aw_iconst (v := 0) hC dL_refuses_524 (by decide) ?_
  refine aw_iload hC dL_refuses_525 rfl ?_
  refine aw_if_ne (tgt := 534) hC dL_refuses_527 (by decide) (fun _ => ?_) (fun z9 => absurd z9 (by decide))
  refine aw_iload hC dL_refuses_534 rfl ?_
  refine aw_iconst (v := 1) hC dL_refuses_536 (by decide) ?_
  refine aw_icmp_ne (tgt := 544) hC dL_refuses_537 (by decide) (fun z9 => absurd z9 (by decide)) (fun _ => ?_)
  refine aw_iconst (v := 4) hC dL_refuses_540 (by decide) ?_
  refine aw_goto (tgt := 546) hC dL_refuses_541 (by decide) ?_
  refine aw_iconst (v := 0) hC dL_refuses_546 (by decide) ?_
  refine kL_157 hC rfl (m_L_act_0 h0 (x_tell_2 h0 ⟨by decide, (if_neg (by decide)).trans (if_pos (by decide))⟩)) dL_refuses_547 rfl a_le a_le a_le a_le a_le rfl ekx (ekp (fun T I J R h0 => ?_))
  show AW X 273 18200 550 [some (.ref 0), some (.int (nI n)), some (.int (nI q)), some (.int (nI g)), some (.int (nI p)), some (.int sv), some (.int (nI r)), some (.int pv), some (.int lv), some (.int 2147483647), some (.int 1), some (.int (-2147483648)), some (.int 3), some (.int 4), some (.int 6), some (.int 10), some (.int 64), some (.int (nI (16 * g))), some (.int (nI g)), some (.int (nI r)), some (.int (nI p)), some (.int 31), some (.int 4), some (.int 1)] [.int (-72)] T I J R
  refine aw_bipush (v := (-72)) hC dL_refuses_550 (by decide) ?_
  refine aw_icmp_ne (tgt := 646) hC dL_refuses_552 (by decide) (fun z9 => absurd z9 (by decide)) (fun _ => ?_)
  refine aw_aload_n hC dL_refuses_555 rfl ?_
  refine aw_iconst (v := 0) hC dL_refuses_556 (by decide) ?_
  refine aw_iconst (v := 0) hC dL_refuses_557 (by decide) ?_
  refine aw_bipush (v := 8) hC dL_refuses_558 (by decide) ?_
  refine aw_iload hC dL_refuses_560 rfl ?_
  refine aw_iadd hC dL_refuses_562 ?_
  rw [show (8 + 1 : Int32) = 9 from by decide]
  refine aw_iconst (v := 0) hC dL_refuses_563 (by decide) ?_
  refine aw_iconst (v := 1) hC dL_refuses_564 (by decide) ?_
  refine aw_iconst (v := 0) hC dL_refuses_565 (by decide) ?_
  refine kL_157 hC rfl (m_L_act_0 h0 (x_tell_2 h0 ⟨by decide, (if_neg (by decide)).trans (if_pos (by decide))⟩)) dL_refuses_566 rfl a_le a_le a_le a_le a_le rfl ekx (ekp (fun T I J R h0 => ?_))
  show AW X 276 18400 569 [some (.ref 0), some (.int (nI n)), some (.int (nI q)), some (.int (nI g)), some (.int (nI p)), some (.int sv), some (.int (nI r)), some (.int pv), some (.int lv), some (.int 2147483647), some (.int 1), some (.int (-2147483648)), some (.int 3), some (.int 4), some (.int 6), some (.int 10), some (.int 64), some (.int (nI (16 * g))), some (.int (nI g)), some (.int (nI r)), some (.int (nI p)), some (.int 31), some (.int 4), some (.int 1)] [.int (-72)] T I J R
  refine aw_bipush (v := (-72)) hC dL_refuses_569 (by decide) ?_
  refine aw_icmp_ne (tgt := 646) hC dL_refuses_571 (by decide) (fun z9 => absurd z9 (by decide)) (fun _ => ?_)
  refine aw_aload_n hC dL_refuses_574 rfl ?_
  refine aw_iconst (v := 0) hC dL_refuses_575 (by decide) ?_
  refine aw_iconst (v := 0) hC dL_refuses_576 (by decide) ?_
  refine aw_bipush (v := 8) hC dL_refuses_577 (by decide) ?_
  refine aw_iload hC dL_refuses_579 rfl ?_
  refine aw_iadd hC dL_refuses_581 ?_
  rw [show (8 + 1 : Int32) = 9 from by decide]
  refine aw_iconst (v := 0) hC dL_refuses_582 (by decide) ?_
  refine aw_iconst (v := 0) hC dL_refuses_583 (by decide) ?_
  refine aw_iconst (v := 1) hC dL_refuses_584 (by decide) ?_
  refine kL_157 hC rfl (m_L_act_0 h0 (x_tell_2 h0 ⟨by decide, (if_neg (by decide)).trans (if_pos (by decide))⟩)) dL_refuses_585 rfl a_le a_le a_le a_le a_le rfl ekx (ekp (fun T I J R h0 => ?_))
  show AW X 279 18600 588 [some (.ref 0), some (.int (nI n)), some (.int (nI q)), some (.int (nI g)), some (.int (nI p)), some (.int sv), some (.int (nI r)), some (.int pv), some (.int lv), some (.int 2147483647), some (.int 1), some (.int (-2147483648)), some (.int 3), some (.int 4), some (.int 6), some (.int 10), some (.int 64), some (.int (nI (16 * g))), some (.int (nI g)), some (.int (nI r)), some (.int (nI p)), some (.int 31), some (.int 4), some (.int 1)] [.int (-72)] T I J R
  refine aw_bipush (v := (-72)) hC dL_refuses_588 (by decide) ?_
  refine aw_icmp_ne (tgt := 646) hC dL_refuses_590 (by decide) (fun z9 => absurd z9 (by decide)) (fun _ => ?_)
  refine aw_aload_n hC dL_refuses_593 rfl ?_
  refine aw_iconst (v := 1) hC dL_refuses_594 (by decide) ?_
  refine aw_iload hC dL_refuses_595 rfl ?_
  refine aw_iconst (v := 0) hC dL_refuses_597 (by decide) ?_
  refine aw_iconst (v := 0) hC dL_refuses_598 (by decide) ?_
  refine aw_iconst (v := 0) hC dL_refuses_599 (by decide) ?_
  refine aw_iconst (v := 0) hC dL_refuses_600 (by decide) ?_
  refine kL_157 hC rfl (m_L_act_1 h0 (x_draft_exI h0 (by decide))) dL_refuses_601 rfl a_le a_le a_le a_le a_le rfl ekx (ekp (fun T I J R h0 => ?_))
  show AW X 282 18800 604 [some (.ref 0), some (.int (nI n)), some (.int (nI q)), some (.int (nI g)), some (.int (nI p)), some (.int sv), some (.int (nI r)), some (.int pv), some (.int lv), some (.int 2147483647), some (.int 1), some (.int (-2147483648)), some (.int 3), some (.int 4), some (.int 6), some (.int 10), some (.int 64), some (.int (nI (16 * g))), some (.int (nI g)), some (.int (nI r)), some (.int (nI p)), some (.int 31), some (.int 4), some (.int 1)] [.int (-71)] T I J R
  refine aw_bipush (v := (-71)) hC dL_refuses_604 (by decide) ?_
  refine aw_icmp_ne (tgt := 646) hC dL_refuses_606 (by decide) (fun z9 => absurd z9 (by decide)) (fun _ => ?_)
  refine aw_aload_n hC dL_refuses_609 rfl ?_
  refine aw_iconst (v := 1) hC dL_refuses_610 (by decide) ?_
  refine aw_iconst (v := 0) hC dL_refuses_611 (by decide) ?_
  refine aw_iconst (v := 0) hC dL_refuses_612 (by decide) ?_
  refine aw_iload hC dL_refuses_613 rfl ?_
  refine aw_iconst (v := 0) hC dL_refuses_615 (by decide) ?_
  refine aw_iconst (v := 0) hC dL_refuses_616 (by decide) ?_
  refine kL_157 hC rfl (m_L_act_1 h0 (x_draft_1 h0 ⟨by decide, if_pos (by decide)⟩)) dL_refuses_617 rfl a_le a_le a_le a_le a_le rfl ekx (ekp (fun T I J R h0 => ?_))
  show AW X 285 19000 620 [some (.ref 0), some (.int (nI n)), some (.int (nI q)), some (.int (nI g)), some (.int (nI p)), some (.int sv), some (.int (nI r)), some (.int pv), some (.int lv), some (.int 2147483647), some (.int 1), some (.int (-2147483648)), some (.int 3), some (.int 4), some (.int 6), some (.int 10), some (.int 64), some (.int (nI (16 * g))), some (.int (nI g)), some (.int (nI r)), some (.int (nI p)), some (.int 31), some (.int 4), some (.int 1)] [.int (-71)] T I J R
  refine aw_bipush (v := (-71)) hC dL_refuses_620 (by decide) ?_
  refine aw_icmp_ne (tgt := 646) hC dL_refuses_622 (by decide) (fun z9 => absurd z9 (by decide)) (fun _ => ?_)
  refine aw_aload_n hC dL_refuses_625 rfl ?_
  refine aw_iconst (v := 1) hC dL_refuses_626 (by decide) ?_
  refine aw_iconst (v := 0) hC dL_refuses_627 (by decide) ?_
  refine aw_bipush (v := 7) hC dL_refuses_628 (by decide) ?_
  refine aw_iconst (v := 0) hC dL_refuses_630 (by decide) ?_
  refine aw_iload hC dL_refuses_631 rfl ?_
  refine aw_iconst (v := 0) hC dL_refuses_633 (by decide) ?_
  refine kL_157 hC rfl (m_L_act_1 h0 (x_draft_2 h0 ⟨by decide, (if_neg (by decide)).trans (if_pos (by decide))⟩)) dL_refuses_634 rfl a_le a_le a_le a_le a_le rfl ekx (ekp (fun T I J R h0 => ?_))
  show AW X 288 19200 637 [some (.ref 0), some (.int (nI n)), some (.int (nI q)), some (.int (nI g)), some (.int (nI p)), some (.int sv), some (.int (nI r)), some (.int pv), some (.int lv), some (.int 2147483647), some (.int 1), some (.int (-2147483648)), some (.int 3), some (.int 4), some (.int 6), some (.int 10), some (.int 64), some (.int (nI (16 * g))), some (.int (nI g)), some (.int (nI r)), some (.int (nI p)), some (.int 31), some (.int 4), some (.int 1)] [.int (-72)] T I J R
  refine aw_bipush (v := (-72)) hC dL_refuses_637 (by decide) ?_
  refine aw_icmp_ne (tgt := 646) hC dL_refuses_639 (by decide) (fun z9 => absurd z9 (by decide)) (fun _ => ?_)
  refine aw_iconst (v := 1) hC dL_refuses_642 (by decide) ?_
  refine aw_goto (tgt := 647) hC dL_refuses_643 (by decide) ?_
  refine aw_istore (L2 := [some (.ref 0), some (.int (nI n)), some (.int (nI q)), some (.int (nI g)), some (.int (nI p)), some (.int sv), some (.int (nI r)), some (.int pv), some (.int lv), some (.int 2147483647), some (.int 1), some (.int (-2147483648)), some (.int 3), some (.int 4), some (.int 6), some (.int 10), some (.int 64), some (.int (nI (16 * g))), some (.int (nI g)), some (.int (nI r)), some (.int (nI p)), some (.int 31), some (.int 4), some (.int 1)]) hC dL_refuses_647 (by decide) rfl ?_
  refine aw_iload hC dL_refuses_649 rfl ?_
  refine aw_if_eq (tgt := 1218) hC dL_refuses_651 (by decide) (fun z9 => absurd z9 (by decide)) (fun _ => ?_)
  refine aw_aload_n hC dL_refuses_654 rfl ?_
  refine aw_iconst (v := 2) hC dL_refuses_655 (by decide) ?_
  refine aw_iload hC dL_refuses_656 rfl ?_
  refine aw_iconst (v := 0) hC dL_refuses_658 (by decide) ?_
  refine aw_iconst (v := 0) hC dL_refuses_659 (by decide) ?_
  refine aw_iconst (v := 0) hC dL_refuses_660 (by decide) ?_
  refine aw_iconst (v := 0) hC dL_refuses_661 (by decide) ?_
  refine kL_157 hC rfl (m_L_act_2 h0 (r_publish h0 (by decide))) dL_refuses_662 rfl a_le a_le a_le a_le a_le rfl ekx (ekp (fun T I J R h0 => ?_))
  show AW X 291 19400 665 [some (.ref 0), some (.int (nI n)), some (.int (nI q)), some (.int (nI g)), some (.int (nI p)), some (.int sv), some (.int (nI r)), some (.int pv), some (.int lv), some (.int 2147483647), some (.int 1), some (.int (-2147483648)), some (.int 3), some (.int 4), some (.int 6), some (.int 10), some (.int 64), some (.int (nI (16 * g))), some (.int (nI g)), some (.int (nI r)), some (.int (nI p)), some (.int 31), some (.int 4), some (.int 1)] [.int (-71)] T I J R
  refine aw_bipush (v := (-71)) hC dL_refuses_665 (by decide) ?_
  refine aw_icmp_ne (tgt := 1218) hC dL_refuses_667 (by decide) (fun z9 => absurd z9 (by decide)) (fun _ => ?_)
  refine aw_aload_n hC dL_refuses_670 rfl ?_
  refine aw_iconst (v := 3) hC dL_refuses_671 (by decide) ?_
  refine aw_iload hC dL_refuses_672 rfl ?_
  refine aw_iconst (v := 1) hC dL_refuses_674 (by decide) ?_
  refine aw_icmp_ne (tgt := 682) hC dL_refuses_675 (by decide) (fun z9 => absurd z9 (by decide)) (fun _ => ?_)
  refine aw_iload_n hC dL_refuses_678 rfl ?_
  refine aw_goto (tgt := 684) hC dL_refuses_679 (by decide) ?_
  refine aw_iconst (v := 0) hC dL_refuses_684 (by decide) ?_
  refine aw_iconst (v := 0) hC dL_refuses_685 (by decide) ?_
  refine aw_iconst (v := 0) hC dL_refuses_686 (by decide) ?_
  refine aw_iconst (v := 0) hC dL_refuses_687 (by decide) ?_
  refine kL_157 hC rfl (m_L_act_3 h0 (r_remove h0 (ri_e hn))) dL_refuses_688 rfl a_le a_le a_le a_le a_le rfl ekx (ekp (fun T I J R h0 => ?_))
  show AW X 294 19600 691 [some (.ref 0), some (.int (nI n)), some (.int (nI q)), some (.int (nI g)), some (.int (nI p)), some (.int sv), some (.int (nI r)), some (.int pv), some (.int lv), some (.int 2147483647), some (.int 1), some (.int (-2147483648)), some (.int 3), some (.int 4), some (.int 6), some (.int 10), some (.int 64), some (.int (nI (16 * g))), some (.int (nI g)), some (.int (nI r)), some (.int (nI p)), some (.int 31), some (.int 4), some (.int 1)] [.int (-71)] T I J R
  refine aw_bipush (v := (-71)) hC dL_refuses_691 (by decide) ?_
  refine aw_icmp_ne (tgt := 1218) hC dL_refuses_693 (by decide) (fun z9 => absurd z9 (by decide)) (fun _ => ?_)
  refine aw_aload_n hC dL_refuses_696 rfl ?_
  refine aw_iconst (v := 4) hC dL_refuses_697 (by decide) ?_
  refine aw_iload hC dL_refuses_698 rfl ?_
  refine aw_iconst (v := 0) hC dL_refuses_700 (by decide) ?_
  refine aw_iconst (v := 0) hC dL_refuses_701 (by decide) ?_
  refine aw_iconst (v := 0) hC dL_refuses_702 (by decide) ?_
  refine aw_iconst (v := 0) hC dL_refuses_703 (by decide) ?_
  refine kL_157 hC rfl (m_L_act_4 h0 (x_setLayer_exI h0 (by decide))) dL_refuses_704 rfl a_le a_le a_le a_le a_le rfl ekx (ekp (fun T I J R h0 => ?_))
  show AW X 297 19800 707 [some (.ref 0), some (.int (nI n)), some (.int (nI q)), some (.int (nI g)), some (.int (nI p)), some (.int sv), some (.int (nI r)), some (.int pv), some (.int lv), some (.int 2147483647), some (.int 1), some (.int (-2147483648)), some (.int 3), some (.int 4), some (.int 6), some (.int 10), some (.int 64), some (.int (nI (16 * g))), some (.int (nI g)), some (.int (nI r)), some (.int (nI p)), some (.int 31), some (.int 4), some (.int 1)] [.int (-71)] T I J R
  refine aw_bipush (v := (-71)) hC dL_refuses_707 (by decide) ?_
  refine aw_icmp_ne (tgt := 1218) hC dL_refuses_709 (by decide) (fun z9 => absurd z9 (by decide)) (fun _ => ?_)
  refine aw_aload_n hC dL_refuses_712 rfl ?_
  refine aw_iconst (v := 4) hC dL_refuses_713 (by decide) ?_
  refine aw_iconst (v := 0) hC dL_refuses_714 (by decide) ?_
  refine aw_iload hC dL_refuses_715 rfl ?_
  refine aw_iconst (v := 0) hC dL_refuses_717 (by decide) ?_
  refine aw_iconst (v := 0) hC dL_refuses_718 (by decide) ?_
  refine aw_iconst (v := 0) hC dL_refuses_719 (by decide) ?_
  refine kL_157 hC rfl (m_L_act_4 h0 (x_setLayer_exI h0 (by decide))) dL_refuses_720 rfl a_le a_le a_le a_le a_le rfl ekx (ekp (fun T I J R h0 => ?_))
  show AW X 300 20000 723 [some (.ref 0), some (.int (nI n)), some (.int (nI q)), some (.int (nI g)), some (.int (nI p)), some (.int sv), some (.int (nI r)), some (.int pv), some (.int lv), some (.int 2147483647), some (.int 1), some (.int (-2147483648)), some (.int 3), some (.int 4), some (.int 6), some (.int 10), some (.int 64), some (.int (nI (16 * g))), some (.int (nI g)), some (.int (nI r)), some (.int (nI p)), some (.int 31), some (.int 4), some (.int 1)] [.int (-71)] T I J R
  refine aw_bipush (v := (-71)) hC dL_refuses_723 (by decide) ?_
  refine aw_icmp_ne (tgt := 1218) hC dL_refuses_725 (by decide) (fun z9 => absurd z9 (by decide)) (fun _ => ?_)
  refine aw_aload_n hC dL_refuses_728 rfl ?_
  refine aw_iconst (v := 5) hC dL_refuses_729 (by decide) ?_
  refine aw_iload hC dL_refuses_730 rfl ?_
  refine aw_iconst (v := 0) hC dL_refuses_732 (by decide) ?_
  refine aw_iconst (v := 0) hC dL_refuses_733 (by decide) ?_
  refine aw_iconst (v := 0) hC dL_refuses_734 (by decide) ?_
  refine aw_iconst (v := 0) hC dL_refuses_735 (by decide) ?_
  refine kL_157 hC rfl (m_L_act_5 h0 (x_lock_exI h0 (by decide))) dL_refuses_736 rfl a_le a_le a_le a_le a_le rfl ekx (ekp (fun T I J R h0 => ?_))
  show AW X 303 20200 739 [some (.ref 0), some (.int (nI n)), some (.int (nI q)), some (.int (nI g)), some (.int (nI p)), some (.int sv), some (.int (nI r)), some (.int pv), some (.int lv), some (.int 2147483647), some (.int 1), some (.int (-2147483648)), some (.int 3), some (.int 4), some (.int 6), some (.int 10), some (.int 64), some (.int (nI (16 * g))), some (.int (nI g)), some (.int (nI r)), some (.int (nI p)), some (.int 31), some (.int 4), some (.int 1)] [.int (-71)] T I J R
  refine aw_bipush (v := (-71)) hC dL_refuses_739 (by decide) ?_
  refine aw_icmp_ne (tgt := 1218) hC dL_refuses_741 (by decide) (fun z9 => absurd z9 (by decide)) (fun _ => ?_)
  refine aw_aload_n hC dL_refuses_744 rfl ?_
  refine aw_iconst (v := 5) hC dL_refuses_745 (by decide) ?_
  refine aw_iconst (v := 0) hC dL_refuses_746 (by decide) ?_
  refine aw_iload hC dL_refuses_747 rfl ?_
  refine aw_iconst (v := 0) hC dL_refuses_749 (by decide) ?_
  refine aw_iconst (v := 0) hC dL_refuses_750 (by decide) ?_
  refine aw_iconst (v := 0) hC dL_refuses_751 (by decide) ?_
  refine kL_157 hC rfl (m_L_act_5 h0 (x_lock_exI h0 (by decide))) dL_refuses_752 rfl a_le a_le a_le a_le a_le rfl ekx (ekp (fun T I J R h0 => ?_))
  show AW X 306 20400 755 [some (.ref 0), some (.int (nI n)), some (.int (nI q)), some (.int (nI g)), some (.int (nI p)), some (.int sv), some (.int (nI r)), some (.int pv), some (.int lv), some (.int 2147483647), some (.int 1), some (.int (-2147483648)), some (.int 3), some (.int 4), some (.int 6), some (.int 10), some (.int 64), some (.int (nI (16 * g))), some (.int (nI g)), some (.int (nI r)), some (.int (nI p)), some (.int 31), some (.int 4), some (.int 1)] [.int (-71)] T I J R
  refine aw_bipush (v := (-71)) hC dL_refuses_755 (by decide) ?_
  refine aw_icmp_ne (tgt := 1218) hC dL_refuses_757 (by decide) (fun z9 => absurd z9 (by decide)) (fun _ => ?_)
  refine aw_aload_n hC dL_refuses_760 rfl ?_
  refine aw_bipush (v := 6) hC dL_refuses_761 (by decide) ?_
  refine aw_iload hC dL_refuses_763 rfl ?_
  refine aw_iconst (v := 0) hC dL_refuses_765 (by decide) ?_
  refine aw_iconst (v := 0) hC dL_refuses_766 (by decide) ?_
  refine aw_iconst (v := 0) hC dL_refuses_767 (by decide) ?_
  refine aw_iconst (v := 0) hC dL_refuses_768 (by decide) ?_
  refine kL_157 hC rfl (m_L_act_6 h0 (x_except_exI h0 (by decide) (by decide))) dL_refuses_769 rfl a_le a_le a_le a_le a_le rfl ekx (ekp (fun T I J R h0 => ?_))
  show AW X 309 20600 772 [some (.ref 0), some (.int (nI n)), some (.int (nI q)), some (.int (nI g)), some (.int (nI p)), some (.int sv), some (.int (nI r)), some (.int pv), some (.int lv), some (.int 2147483647), some (.int 1), some (.int (-2147483648)), some (.int 3), some (.int 4), some (.int 6), some (.int 10), some (.int 64), some (.int (nI (16 * g))), some (.int (nI g)), some (.int (nI r)), some (.int (nI p)), some (.int 31), some (.int 4), some (.int 1)] [.int (-71)] T I J R
  refine aw_bipush (v := (-71)) hC dL_refuses_772 (by decide) ?_
  refine aw_icmp_ne (tgt := 1218) hC dL_refuses_774 (by decide) (fun z9 => absurd z9 (by decide)) (fun _ => ?_)
  refine aw_aload_n hC dL_refuses_777 rfl ?_
  refine aw_bipush (v := 6) hC dL_refuses_778 (by decide) ?_
  refine aw_iconst (v := 0) hC dL_refuses_780 (by decide) ?_
  refine aw_iload hC dL_refuses_781 rfl ?_
  refine aw_iconst (v := 0) hC dL_refuses_783 (by decide) ?_
  refine aw_iconst (v := 0) hC dL_refuses_784 (by decide) ?_
  refine aw_iconst (v := 0) hC dL_refuses_785 (by decide) ?_
  refine kL_157 hC rfl (m_L_act_6 h0 (x_except_exI h0 (by decide) (by decide))) dL_refuses_786 rfl a_le a_le a_le a_le a_le rfl ekx (ekp (fun T I J R h0 => ?_))
  show AW X 312 20800 789 [some (.ref 0), some (.int (nI n)), some (.int (nI q)), some (.int (nI g)), some (.int (nI p)), some (.int sv), some (.int (nI r)), some (.int pv), some (.int lv), some (.int 2147483647), some (.int 1), some (.int (-2147483648)), some (.int 3), some (.int 4), some (.int 6), some (.int 10), some (.int 64), some (.int (nI (16 * g))), some (.int (nI g)), some (.int (nI r)), some (.int (nI p)), some (.int 31), some (.int 4), some (.int 1)] [.int (-71)] T I J R
  refine aw_bipush (v := (-71)) hC dL_refuses_789 (by decide) ?_
  refine aw_icmp_ne (tgt := 1218) hC dL_refuses_791 (by decide) (fun z9 => absurd z9 (by decide)) (fun _ => ?_)
  refine aw_aload_n hC dL_refuses_794 rfl ?_
  refine aw_bipush (v := 6) hC dL_refuses_795 (by decide) ?_
  refine aw_iconst (v := 0) hC dL_refuses_797 (by decide) ?_
  refine aw_iconst (v := 0) hC dL_refuses_798 (by decide) ?_
  refine aw_iload hC dL_refuses_799 rfl ?_
  refine aw_iconst (v := 0) hC dL_refuses_801 (by decide) ?_
  refine aw_iconst (v := 0) hC dL_refuses_802 (by decide) ?_
  refine kL_157 hC rfl (m_L_act_6 h0 (x_except_exA h0 (by decide) (by decide))) dL_refuses_803 rfl a_le a_le a_le a_le a_le rfl ekx (ekp (fun T I J R h0 => ?_))
  show AW X 315 21000 806 [some (.ref 0), some (.int (nI n)), some (.int (nI q)), some (.int (nI g)), some (.int (nI p)), some (.int sv), some (.int (nI r)), some (.int pv), some (.int lv), some (.int 2147483647), some (.int 1), some (.int (-2147483648)), some (.int 3), some (.int 4), some (.int 6), some (.int 10), some (.int 64), some (.int (nI (16 * g))), some (.int (nI g)), some (.int (nI r)), some (.int (nI p)), some (.int 31), some (.int 4), some (.int 1)] [.int (-72)] T I J R
  refine aw_bipush (v := (-72)) hC dL_refuses_806 (by decide) ?_
  refine aw_icmp_ne (tgt := 1218) hC dL_refuses_808 (by decide) (fun z9 => absurd z9 (by decide)) (fun _ => ?_)
  refine aw_aload_n hC dL_refuses_811 rfl ?_
  refine aw_bipush (v := 7) hC dL_refuses_812 (by decide) ?_
  refine aw_iload hC dL_refuses_814 rfl ?_
  refine aw_iconst (v := 0) hC dL_refuses_816 (by decide) ?_
  refine aw_iconst (v := 0) hC dL_refuses_817 (by decide) ?_
  refine aw_iconst (v := 0) hC dL_refuses_818 (by decide) ?_
  refine aw_iconst (v := 0) hC dL_refuses_819 (by decide) ?_
  refine kL_157 hC rfl (m_L_act_7 h0 (x_pass_exA h0 (by decide))) dL_refuses_820 rfl a_le a_le a_le a_le a_le rfl ekx (ekp (fun T I J R h0 => ?_))
  show AW X 318 21200 823 [some (.ref 0), some (.int (nI n)), some (.int (nI q)), some (.int (nI g)), some (.int (nI p)), some (.int sv), some (.int (nI r)), some (.int pv), some (.int lv), some (.int 2147483647), some (.int 1), some (.int (-2147483648)), some (.int 3), some (.int 4), some (.int 6), some (.int 10), some (.int 64), some (.int (nI (16 * g))), some (.int (nI g)), some (.int (nI r)), some (.int (nI p)), some (.int 31), some (.int 4), some (.int 1)] [.int (-72)] T I J R
  refine aw_bipush (v := (-72)) hC dL_refuses_823 (by decide) ?_
  refine aw_icmp_ne (tgt := 1218) hC dL_refuses_825 (by decide) (fun z9 => absurd z9 (by decide)) (fun _ => ?_)
  refine aw_aload_n hC dL_refuses_828 rfl ?_
  refine aw_bipush (v := 8) hC dL_refuses_829 (by decide) ?_
  refine aw_iload hC dL_refuses_831 rfl ?_
  refine aw_iconst (v := 1) hC dL_refuses_833 (by decide) ?_
  refine aw_icmp_ne (tgt := 841) hC dL_refuses_834 (by decide) (fun z9 => absurd z9 (by decide)) (fun _ => ?_)
  refine aw_iload_n hC dL_refuses_837 rfl ?_
  refine aw_goto (tgt := 843) hC dL_refuses_838 (by decide) ?_
  refine aw_iconst (v := 0) hC dL_refuses_843 (by decide) ?_
  refine aw_iconst (v := 0) hC dL_refuses_844 (by decide) ?_
  refine aw_iconst (v := 0) hC dL_refuses_845 (by decide) ?_
  refine aw_iconst (v := 0) hC dL_refuses_846 (by decide) ?_
  refine kL_157 hC rfl (m_L_act_8 h0 (x_standing_exI h0 (ri_e hn))) dL_refuses_847 rfl a_le a_le a_le a_le a_le rfl ekx (ekp (fun T I J R h0 => ?_))
  show AW X 321 21400 850 [some (.ref 0), some (.int (nI n)), some (.int (nI q)), some (.int (nI g)), some (.int (nI p)), some (.int sv), some (.int (nI r)), some (.int pv), some (.int lv), some (.int 2147483647), some (.int 1), some (.int (-2147483648)), some (.int 3), some (.int 4), some (.int 6), some (.int 10), some (.int 64), some (.int (nI (16 * g))), some (.int (nI g)), some (.int (nI r)), some (.int (nI p)), some (.int 31), some (.int 4), some (.int 1)] [.int (-71)] T I J R
  refine aw_bipush (v := (-71)) hC dL_refuses_850 (by decide) ?_
  refine aw_icmp_ne (tgt := 1218) hC dL_refuses_852 (by decide) (fun z9 => absurd z9 (by decide)) (fun _ => ?_)
  refine aw_aload_n hC dL_refuses_855 rfl ?_
  refine aw_bipush (v := 9) hC dL_refuses_856 (by decide) ?_
  refine aw_iload hC dL_refuses_858 rfl ?_
  refine aw_iconst (v := 0) hC dL_refuses_860 (by decide) ?_
  refine aw_iconst (v := 0) hC dL_refuses_861 (by decide) ?_
  refine aw_iconst (v := 0) hC dL_refuses_862 (by decide) ?_
  refine aw_iconst (v := 0) hC dL_refuses_863 (by decide) ?_
  refine kL_157 hC rfl (m_L_act_9 h0 (x_value_exI h0 (by decide))) dL_refuses_864 rfl a_le a_le a_le a_le a_le rfl ekx (ekp (fun T I J R h0 => ?_))
  show AW X 324 21600 867 [some (.ref 0), some (.int (nI n)), some (.int (nI q)), some (.int (nI g)), some (.int (nI p)), some (.int sv), some (.int (nI r)), some (.int pv), some (.int lv), some (.int 2147483647), some (.int 1), some (.int (-2147483648)), some (.int 3), some (.int 4), some (.int 6), some (.int 10), some (.int 64), some (.int (nI (16 * g))), some (.int (nI g)), some (.int (nI r)), some (.int (nI p)), some (.int 31), some (.int 4), some (.int 1)] [.int (-71)] T I J R
  refine aw_bipush (v := (-71)) hC dL_refuses_867 (by decide) ?_
  refine aw_icmp_ne (tgt := 1218) hC dL_refuses_869 (by decide) (fun z9 => absurd z9 (by decide)) (fun _ => ?_)
  refine aw_aload_n hC dL_refuses_872 rfl ?_
  refine aw_bipush (v := 10) hC dL_refuses_873 (by decide) ?_
  refine aw_iload hC dL_refuses_875 rfl ?_
  refine aw_iconst (v := 0) hC dL_refuses_877 (by decide) ?_
  refine aw_iconst (v := 0) hC dL_refuses_878 (by decide) ?_
  refine aw_iconst (v := 0) hC dL_refuses_879 (by decide) ?_
  refine aw_iconst (v := 0) hC dL_refuses_880 (by decide) ?_
  refine kL_157 hC rfl (m_L_act_10 h0 (x_set_exI h0 (by decide))) dL_refuses_881 rfl a_le a_le a_le a_le a_le rfl ekx (ekp (fun T I J R h0 => ?_))
  show AW X 327 21800 884 [some (.ref 0), some (.int (nI n)), some (.int (nI q)), some (.int (nI g)), some (.int (nI p)), some (.int sv), some (.int (nI r)), some (.int pv), some (.int lv), some (.int 2147483647), some (.int 1), some (.int (-2147483648)), some (.int 3), some (.int 4), some (.int 6), some (.int 10), some (.int 64), some (.int (nI (16 * g))), some (.int (nI g)), some (.int (nI r)), some (.int (nI p)), some (.int 31), some (.int 4), some (.int 1)] [.int (-71)] T I J R
  refine aw_bipush (v := (-71)) hC dL_refuses_884 (by decide) ?_
  refine aw_icmp_ne (tgt := 1218) hC dL_refuses_886 (by decide) (fun z9 => absurd z9 (by decide)) (fun _ => ?_)
  refine aw_aload_n hC dL_refuses_889 rfl ?_
  refine aw_bipush (v := 11) hC dL_refuses_890 (by decide) ?_
  refine aw_iload hC dL_refuses_892 rfl ?_
  refine aw_iconst (v := 0) hC dL_refuses_894 (by decide) ?_
  refine aw_iconst (v := 0) hC dL_refuses_895 (by decide) ?_
  refine aw_iconst (v := 0) hC dL_refuses_896 (by decide) ?_
  refine aw_iconst (v := 0) hC dL_refuses_897 (by decide) ?_
  refine kL_157 hC rfl (m_L_act_11 h0 (x_setAnew_exI h0 (by decide))) dL_refuses_898 rfl a_le a_le a_le a_le a_le rfl ekx (ekp (fun T I J R h0 => ?_))
  show AW X 330 22000 901 [some (.ref 0), some (.int (nI n)), some (.int (nI q)), some (.int (nI g)), some (.int (nI p)), some (.int sv), some (.int (nI r)), some (.int pv), some (.int lv), some (.int 2147483647), some (.int 1), some (.int (-2147483648)), some (.int 3), some (.int 4), some (.int 6), some (.int 10), some (.int 64), some (.int (nI (16 * g))), some (.int (nI g)), some (.int (nI r)), some (.int (nI p)), some (.int 31), some (.int 4), some (.int 1)] [.int (-71)] T I J R
  refine aw_bipush (v := (-71)) hC dL_refuses_901 (by decide) ?_
  refine aw_icmp_ne (tgt := 1218) hC dL_refuses_903 (by decide) (fun z9 => absurd z9 (by decide)) (fun _ => ?_)
  refine aw_aload_n hC dL_refuses_906 rfl ?_
  refine aw_bipush (v := 12) hC dL_refuses_907 (by decide) ?_
  refine aw_iload hC dL_refuses_909 rfl ?_
  refine aw_bipush (v := 9) hC dL_refuses_911 (by decide) ?_
  refine aw_bipush (v := 8) hC dL_refuses_913 (by decide) ?_
  refine aw_iconst (v := 0) hC dL_refuses_915 (by decide) ?_
  refine aw_iconst (v := 0) hC dL_refuses_916 (by decide) ?_
  refine kL_157 hC rfl (m_L_act_12 h0 (r_policy h0 (by decide))) dL_refuses_917 rfl a_le a_le a_le a_le a_le rfl ekx (ekp (fun T I J R h0 => ?_))
  show AW X 333 22200 920 [some (.ref 0), some (.int (nI n)), some (.int (nI q)), some (.int (nI g)), some (.int (nI p)), some (.int sv), some (.int (nI r)), some (.int pv), some (.int lv), some (.int 2147483647), some (.int 1), some (.int (-2147483648)), some (.int 3), some (.int 4), some (.int 6), some (.int 10), some (.int 64), some (.int (nI (16 * g))), some (.int (nI g)), some (.int (nI r)), some (.int (nI p)), some (.int 31), some (.int 4), some (.int 1)] [.int (-71)] T I J R
  refine aw_bipush (v := (-71)) hC dL_refuses_920 (by decide) ?_
  refine aw_icmp_ne (tgt := 1218) hC dL_refuses_922 (by decide) (fun z9 => absurd z9 (by decide)) (fun _ => ?_)
  refine aw_aload_n hC dL_refuses_925 rfl ?_
  refine aw_bipush (v := 12) hC dL_refuses_926 (by decide) ?_
  refine aw_iconst (v := 0) hC dL_refuses_928 (by decide) ?_
  refine aw_iload hC dL_refuses_929 rfl ?_
  refine aw_bipush (v := 63) hC dL_refuses_931 (by decide) ?_
  refine aw_iconst (v := 0) hC dL_refuses_933 (by decide) ?_
  refine aw_iconst (v := 0) hC dL_refuses_934 (by decide) ?_
  refine kL_157 hC rfl (m_L_act_12 h0 (r_policyA h0 (by decide) (by decide))) dL_refuses_935 rfl a_le a_le a_le a_le a_le rfl ekx (ekp (fun T I J R h0 => ?_))
  show AW X 336 22400 938 [some (.ref 0), some (.int (nI n)), some (.int (nI q)), some (.int (nI g)), some (.int (nI p)), some (.int sv), some (.int (nI r)), some (.int pv), some (.int lv), some (.int 2147483647), some (.int 1), some (.int (-2147483648)), some (.int 3), some (.int 4), some (.int 6), some (.int 10), some (.int 64), some (.int (nI (16 * g))), some (.int (nI g)), some (.int (nI r)), some (.int (nI p)), some (.int 31), some (.int 4), some (.int 1)] [.int (-72)] T I J R
  refine aw_bipush (v := (-72)) hC dL_refuses_938 (by decide) ?_
  refine aw_icmp_ne (tgt := 1218) hC dL_refuses_940 (by decide) (fun z9 => absurd z9 (by decide)) (fun _ => ?_)
  refine aw_aload_n hC dL_refuses_943 rfl ?_
  refine aw_bipush (v := 12) hC dL_refuses_944 (by decide) ?_
  refine aw_iconst (v := 0) hC dL_refuses_946 (by decide) ?_
  refine aw_bipush (v := 9) hC dL_refuses_947 (by decide) ?_
  refine aw_iload hC dL_refuses_949 rfl ?_
  refine aw_iconst (v := 1) hC dL_refuses_951 (by decide) ?_
  refine aw_icmp_ne (tgt := 960) hC dL_refuses_952 (by decide) (fun z9 => absurd z9 (by decide)) (fun _ => ?_)
  refine aw_bipush (v := 8) hC dL_refuses_955 (by decide) ?_
  refine aw_goto (tgt := 972) hC dL_refuses_957 (by decide) ?_
  refine aw_iconst (v := 0) hC dL_refuses_972 (by decide) ?_
  refine aw_iconst (v := 0) hC dL_refuses_973 (by decide) ?_
  refine kL_157 hC rfl (m_L_act_12 h0 (r_policyA h0 (by decide) (by decide))) dL_refuses_974 rfl a_le a_le a_le a_le a_le rfl ekx (ekp (fun T I J R h0 => ?_))
  show AW X 339 22600 977 [some (.ref 0), some (.int (nI n)), some (.int (nI q)), some (.int (nI g)), some (.int (nI p)), some (.int sv), some (.int (nI r)), some (.int pv), some (.int lv), some (.int 2147483647), some (.int 1), some (.int (-2147483648)), some (.int 3), some (.int 4), some (.int 6), some (.int 10), some (.int 64), some (.int (nI (16 * g))), some (.int (nI g)), some (.int (nI r)), some (.int (nI p)), some (.int 31), some (.int 4), some (.int 1)] [.int (-72)] T I J R
  refine aw_bipush (v := (-72)) hC dL_refuses_977 (by decide) ?_
  refine aw_icmp_ne (tgt := 1218) hC dL_refuses_979 (by decide) (fun z9 => absurd z9 (by decide)) (fun _ => ?_)
  refine aw_aload_n hC dL_refuses_982 rfl ?_
  refine aw_bipush (v := 13) hC dL_refuses_983 (by decide) ?_
  refine aw_iload hC dL_refuses_985 rfl ?_
  refine aw_iconst (v := 1) hC dL_refuses_987 (by decide) ?_
  refine aw_icmp_ne (tgt := 995) hC dL_refuses_988 (by decide) (fun z9 => absurd z9 (by decide)) (fun _ => ?_)
  refine aw_iload_n hC dL_refuses_991 rfl ?_
  refine aw_goto (tgt := 997) hC dL_refuses_992 (by decide) ?_
  refine aw_iconst (v := 0) hC dL_refuses_997 (by decide) ?_
  refine aw_iconst (v := 0) hC dL_refuses_998 (by decide) ?_
  refine aw_iconst (v := 0) hC dL_refuses_999 (by decide) ?_
  refine aw_iconst (v := 0) hC dL_refuses_1000 (by decide) ?_
  refine kL_157 hC rfl (m_L_act_13 h0 (x_proof_exI h0 (ri_e hq))) dL_refuses_1001 rfl a_le a_le a_le a_le a_le rfl ekx (ekp (fun T I J R h0 => ?_))
  show AW X 342 22800 1004 [some (.ref 0), some (.int (nI n)), some (.int (nI q)), some (.int (nI g)), some (.int (nI p)), some (.int sv), some (.int (nI r)), some (.int pv), some (.int lv), some (.int 2147483647), some (.int 1), some (.int (-2147483648)), some (.int 3), some (.int 4), some (.int 6), some (.int 10), some (.int 64), some (.int (nI (16 * g))), some (.int (nI g)), some (.int (nI r)), some (.int (nI p)), some (.int 31), some (.int 4), some (.int 1)] [.int (-71)] T I J R
  refine aw_bipush (v := (-71)) hC dL_refuses_1004 (by decide) ?_
  refine aw_icmp_ne (tgt := 1218) hC dL_refuses_1006 (by decide) (fun z9 => absurd z9 (by decide)) (fun _ => ?_)
  refine aw_aload_n hC dL_refuses_1009 rfl ?_
  refine aw_bipush (v := 14) hC dL_refuses_1010 (by decide) ?_
  refine aw_iload hC dL_refuses_1012 rfl ?_
  refine aw_bipush (v := 9) hC dL_refuses_1014 (by decide) ?_
  refine aw_iconst (v := 0) hC dL_refuses_1016 (by decide) ?_
  refine aw_iconst (v := 0) hC dL_refuses_1017 (by decide) ?_
  refine aw_iconst (v := 0) hC dL_refuses_1018 (by decide) ?_
  refine kL_157 hC rfl (m_L_act_14 h0 (r_types h0 (by decide))) dL_refuses_1019 rfl a_le a_le a_le a_le a_le rfl ekx (ekp (fun T I J R h0 => ?_))
  show AW X 345 23000 1022 [some (.ref 0), some (.int (nI n)), some (.int (nI q)), some (.int (nI g)), some (.int (nI p)), some (.int sv), some (.int (nI r)), some (.int pv), some (.int lv), some (.int 2147483647), some (.int 1), some (.int (-2147483648)), some (.int 3), some (.int 4), some (.int 6), some (.int 10), some (.int 64), some (.int (nI (16 * g))), some (.int (nI g)), some (.int (nI r)), some (.int (nI p)), some (.int 31), some (.int 4), some (.int 1)] [.int (-71)] T I J R
  refine aw_bipush (v := (-71)) hC dL_refuses_1022 (by decide) ?_
  refine aw_icmp_ne (tgt := 1218) hC dL_refuses_1024 (by decide) (fun z9 => absurd z9 (by decide)) (fun _ => ?_)
  refine aw_aload_n hC dL_refuses_1027 rfl ?_
  refine aw_bipush (v := 14) hC dL_refuses_1028 (by decide) ?_
  refine aw_iconst (v := 0) hC dL_refuses_1030 (by decide) ?_
  refine aw_iload hC dL_refuses_1031 rfl ?_
  refine aw_iconst (v := 1) hC dL_refuses_1033 (by decide) ?_
  refine aw_icmp_ne (tgt := 1042) hC dL_refuses_1034 (by decide) (fun z9 => absurd z9 (by decide)) (fun _ => ?_)
  refine aw_bipush (v := 8) hC dL_refuses_1037 (by decide) ?_
  refine aw_goto (tgt := 1044) hC dL_refuses_1039 (by decide) ?_
  refine aw_iconst (v := 0) hC dL_refuses_1044 (by decide) ?_
  refine aw_iconst (v := 0) hC dL_refuses_1045 (by decide) ?_
  refine aw_iconst (v := 0) hC dL_refuses_1046 (by decide) ?_
  refine kL_157 hC rfl (m_L_act_14 h0 (r_typesA h0 (by decide) (by decide))) dL_refuses_1047 rfl a_le a_le a_le a_le a_le rfl ekx (ekp (fun T I J R h0 => ?_))
  show AW X 348 23200 1050 [some (.ref 0), some (.int (nI n)), some (.int (nI q)), some (.int (nI g)), some (.int (nI p)), some (.int sv), some (.int (nI r)), some (.int pv), some (.int lv), some (.int 2147483647), some (.int 1), some (.int (-2147483648)), some (.int 3), some (.int 4), some (.int 6), some (.int 10), some (.int 64), some (.int (nI (16 * g))), some (.int (nI g)), some (.int (nI r)), some (.int (nI p)), some (.int 31), some (.int 4), some (.int 1)] [.int (-72)] T I J R
  refine aw_bipush (v := (-72)) hC dL_refuses_1050 (by decide) ?_
  refine aw_icmp_ne (tgt := 1218) hC dL_refuses_1052 (by decide) (fun z9 => absurd z9 (by decide)) (fun _ => ?_)
  refine aw_aload_n hC dL_refuses_1055 rfl ?_
  refine aw_bipush (v := 14) hC dL_refuses_1056 (by decide) ?_
  refine aw_iconst (v := 1) hC dL_refuses_1058 (by decide) ?_
  refine aw_iconst (v := 0) hC dL_refuses_1059 (by decide) ?_
  refine aw_iload hC dL_refuses_1060 rfl ?_
  refine aw_iconst (v := 1) hC dL_refuses_1062 (by decide) ?_
  refine aw_icmp_ne (tgt := 1071) hC dL_refuses_1063 (by decide) (fun z9 => absurd z9 (by decide)) (fun _ => ?_)
  refine aw_bipush (v := 8) hC dL_refuses_1066 (by decide) ?_
  refine aw_goto (tgt := 1073) hC dL_refuses_1068 (by decide) ?_
  refine aw_iconst (v := 0) hC dL_refuses_1073 (by decide) ?_
  refine aw_iconst (v := 0) hC dL_refuses_1074 (by decide) ?_
  refine kL_157 hC rfl (m_L_act_14 h0 (r_typesA h0 (by decide) (by decide))) dL_refuses_1075 rfl a_le a_le a_le a_le a_le rfl ekx (ekp (fun T I J R h0 => ?_))
  show AW X 351 23400 1078 [some (.ref 0), some (.int (nI n)), some (.int (nI q)), some (.int (nI g)), some (.int (nI p)), some (.int sv), some (.int (nI r)), some (.int pv), some (.int lv), some (.int 2147483647), some (.int 1), some (.int (-2147483648)), some (.int 3), some (.int 4), some (.int 6), some (.int 10), some (.int 64), some (.int (nI (16 * g))), some (.int (nI g)), some (.int (nI r)), some (.int (nI p)), some (.int 31), some (.int 4), some (.int 1)] [.int (-72)] T I J R
  refine aw_bipush (v := (-72)) hC dL_refuses_1078 (by decide) ?_
  refine aw_icmp_ne (tgt := 1218) hC dL_refuses_1080 (by decide) (fun z9 => absurd z9 (by decide)) (fun _ => ?_)
  refine aw_aload_n hC dL_refuses_1083 rfl ?_
  refine aw_bipush (v := 14) hC dL_refuses_1084 (by decide) ?_
  refine aw_iconst (v := 2) hC dL_refuses_1086 (by decide) ?_
  refine aw_iconst (v := 0) hC dL_refuses_1087 (by decide) ?_
  refine aw_iconst (v := 0) hC dL_refuses_1088 (by decide) ?_
  refine aw_iload hC dL_refuses_1089 rfl ?_
  refine aw_iconst (v := 1) hC dL_refuses_1091 (by decide) ?_
  refine aw_icmp_ne (tgt := 1100) hC dL_refuses_1092 (by decide) (fun z9 => absurd z9 (by decide)) (fun _ => ?_)
  refine aw_bipush (v := 8) hC dL_refuses_1095 (by decide) ?_
  refine aw_goto (tgt := 1102) hC dL_refuses_1097 (by decide) ?_
  refine aw_iconst (v := 0) hC dL_refuses_1102 (by decide) ?_
  refine kL_157 hC rfl (m_L_act_14 h0 (r_typesA h0 (by decide) (by decide))) dL_refuses_1103 rfl a_le a_le a_le a_le a_le rfl ekx (ekp (fun T I J R h0 => ?_))
  show AW X 354 23600 1106 [some (.ref 0), some (.int (nI n)), some (.int (nI q)), some (.int (nI g)), some (.int (nI p)), some (.int sv), some (.int (nI r)), some (.int pv), some (.int lv), some (.int 2147483647), some (.int 1), some (.int (-2147483648)), some (.int 3), some (.int 4), some (.int 6), some (.int 10), some (.int 64), some (.int (nI (16 * g))), some (.int (nI g)), some (.int (nI r)), some (.int (nI p)), some (.int 31), some (.int 4), some (.int 1)] [.int (-72)] T I J R
  refine aw_bipush (v := (-72)) hC dL_refuses_1106 (by decide) ?_
  refine aw_icmp_ne (tgt := 1218) hC dL_refuses_1108 (by decide) (fun z9 => absurd z9 (by decide)) (fun _ => ?_)
  refine aw_aload_n hC dL_refuses_1111 rfl ?_
  refine aw_bipush (v := 15) hC dL_refuses_1112 (by decide) ?_
  refine aw_iload hC dL_refuses_1114 rfl ?_
  refine aw_iconst (v := 0) hC dL_refuses_1116 (by decide) ?_
  refine aw_iconst (v := 0) hC dL_refuses_1117 (by decide) ?_
  refine aw_iconst (v := 0) hC dL_refuses_1118 (by decide) ?_
  refine aw_iconst (v := 0) hC dL_refuses_1119 (by decide) ?_
  refine kL_157 hC rfl (m_L_act_15 h0 (r_generator h0 (by decide))) dL_refuses_1120 rfl a_le a_le a_le a_le a_le rfl ekx (ekp (fun T I J R h0 => ?_))
  show AW X 357 23800 1123 [some (.ref 0), some (.int (nI n)), some (.int (nI q)), some (.int (nI g)), some (.int (nI p)), some (.int sv), some (.int (nI r)), some (.int pv), some (.int lv), some (.int 2147483647), some (.int 1), some (.int (-2147483648)), some (.int 3), some (.int 4), some (.int 6), some (.int 10), some (.int 64), some (.int (nI (16 * g))), some (.int (nI g)), some (.int (nI r)), some (.int (nI p)), some (.int 31), some (.int 4), some (.int 1)] [.int (-71)] T I J R
  refine aw_bipush (v := (-71)) hC dL_refuses_1123 (by decide) ?_
  refine aw_icmp_ne (tgt := 1218) hC dL_refuses_1125 (by decide) (fun z9 => absurd z9 (by decide)) (fun _ => ?_)
  refine aw_aload_n hC dL_refuses_1128 rfl ?_
  refine aw_bipush (v := 16) hC dL_refuses_1129 (by decide) ?_
  refine aw_iload hC dL_refuses_1131 rfl ?_
  refine aw_iconst (v := 0) hC dL_refuses_1133 (by decide) ?_
  refine aw_bipush (v := 99) hC dL_refuses_1134 (by decide) ?_
  refine aw_iconst (v := 0) hC dL_refuses_1136 (by decide) ?_
  refine aw_iconst (v := 0) hC dL_refuses_1137 (by decide) ?_
  refine kL_157 hC rfl (m_L_act_16 h0 (r_key h0 (ri_e hg))) dL_refuses_1138 rfl a_le a_le a_le a_le a_le rfl ekx (ekp (fun T I J R h0 => ?_))
  show AW X 360 24000 1141 [some (.ref 0), some (.int (nI n)), some (.int (nI q)), some (.int (nI g)), some (.int (nI p)), some (.int sv), some (.int (nI r)), some (.int pv), some (.int lv), some (.int 2147483647), some (.int 1), some (.int (-2147483648)), some (.int 3), some (.int 4), some (.int 6), some (.int 10), some (.int 64), some (.int (nI (16 * g))), some (.int (nI g)), some (.int (nI r)), some (.int (nI p)), some (.int 31), some (.int 4), some (.int 1)] [.int (-71)] T I J R
  refine aw_bipush (v := (-71)) hC dL_refuses_1141 (by decide) ?_
  refine aw_icmp_ne (tgt := 1218) hC dL_refuses_1143 (by decide) (fun z9 => absurd z9 (by decide)) (fun _ => ?_)
  refine aw_aload_n hC dL_refuses_1146 rfl ?_
  refine aw_bipush (v := 17) hC dL_refuses_1147 (by decide) ?_
  refine aw_iload hC dL_refuses_1149 rfl ?_
  refine aw_iconst (v := 0) hC dL_refuses_1151 (by decide) ?_
  refine aw_iconst (v := 0) hC dL_refuses_1152 (by decide) ?_
  refine aw_iconst (v := 0) hC dL_refuses_1153 (by decide) ?_
  refine aw_iconst (v := 0) hC dL_refuses_1154 (by decide) ?_
  refine kL_157 hC rfl (m_L_act_17 h0 (r_unkey h0 (ri_e hg))) dL_refuses_1155 rfl a_le a_le a_le a_le a_le rfl ekx (ekp (fun T I J R h0 => ?_))
  show AW X 363 24200 1158 [some (.ref 0), some (.int (nI n)), some (.int (nI q)), some (.int (nI g)), some (.int (nI p)), some (.int sv), some (.int (nI r)), some (.int pv), some (.int lv), some (.int 2147483647), some (.int 1), some (.int (-2147483648)), some (.int 3), some (.int 4), some (.int 6), some (.int 10), some (.int 64), some (.int (nI (16 * g))), some (.int (nI g)), some (.int (nI r)), some (.int (nI p)), some (.int 31), some (.int 4), some (.int 1)] [.int (-71)] T I J R
  refine aw_bipush (v := (-71)) hC dL_refuses_1158 (by decide) ?_
  refine aw_icmp_ne (tgt := 1218) hC dL_refuses_1160 (by decide) (fun z9 => absurd z9 (by decide)) (fun _ => ?_)
  refine aw_aload_n hC dL_refuses_1163 rfl ?_
  refine aw_bipush (v := 18) hC dL_refuses_1164 (by decide) ?_
  refine aw_iload hC dL_refuses_1166 rfl ?_
  refine aw_iconst (v := 0) hC dL_refuses_1168 (by decide) ?_
  refine aw_iconst (v := (-1)) hC dL_refuses_1169 (by decide) ?_
  refine aw_iconst (v := 0) hC dL_refuses_1170 (by decide) ?_
  refine aw_iconst (v := 0) hC dL_refuses_1171 (by decide) ?_
  refine kL_157 hC rfl (m_L_act_18 h0 (r_bind h0 (ri_e hg))) dL_refuses_1172 rfl a_le a_le a_le a_le a_le rfl ekx (ekp (fun T I J R h0 => ?_))
  show AW X 366 24400 1175 [some (.ref 0), some (.int (nI n)), some (.int (nI q)), some (.int (nI g)), some (.int (nI p)), some (.int sv), some (.int (nI r)), some (.int pv), some (.int lv), some (.int 2147483647), some (.int 1), some (.int (-2147483648)), some (.int 3), some (.int 4), some (.int 6), some (.int 10), some (.int 64), some (.int (nI (16 * g))), some (.int (nI g)), some (.int (nI r)), some (.int (nI p)), some (.int 31), some (.int 4), some (.int 1)] [.int (-71)] T I J R
  refine aw_bipush (v := (-71)) hC dL_refuses_1175 (by decide) ?_
  refine aw_icmp_ne (tgt := 1218) hC dL_refuses_1177 (by decide) (fun z9 => absurd z9 (by decide)) (fun _ => ?_)
  refine aw_aload_n hC dL_refuses_1180 rfl ?_
  refine aw_bipush (v := 19) hC dL_refuses_1181 (by decide) ?_
  refine aw_iload hC dL_refuses_1183 rfl ?_
  refine aw_iconst (v := 0) hC dL_refuses_1185 (by decide) ?_
  refine aw_iconst (v := 0) hC dL_refuses_1186 (by decide) ?_
  refine aw_iconst (v := 0) hC dL_refuses_1187 (by decide) ?_
  refine aw_iconst (v := 0) hC dL_refuses_1188 (by decide) ?_
  refine kL_157 hC rfl (m_L_act_19 h0 (r_upgrade h0 (by decide))) dL_refuses_1189 rfl a_le a_le a_le a_le a_le rfl ekx (ekp (fun T I J R h0 => ?_))
  show AW X 369 24600 1192 [some (.ref 0), some (.int (nI n)), some (.int (nI q)), some (.int (nI g)), some (.int (nI p)), some (.int sv), some (.int (nI r)), some (.int pv), some (.int lv), some (.int 2147483647), some (.int 1), some (.int (-2147483648)), some (.int 3), some (.int 4), some (.int 6), some (.int 10), some (.int 64), some (.int (nI (16 * g))), some (.int (nI g)), some (.int (nI r)), some (.int (nI p)), some (.int 31), some (.int 4), some (.int 1)] [.int (-71)] T I J R
  refine aw_bipush (v := (-71)) hC dL_refuses_1192 (by decide) ?_
  refine aw_icmp_ne (tgt := 1218) hC dL_refuses_1194 (by decide) (fun z9 => absurd z9 (by decide)) (fun _ => ?_)
  refine aw_aload_n hC dL_refuses_1197 rfl ?_
  refine aw_bipush (v := 20) hC dL_refuses_1198 (by decide) ?_
  refine aw_iload hC dL_refuses_1200 rfl ?_
  refine aw_iconst (v := 0) hC dL_refuses_1202 (by decide) ?_
  refine aw_iconst (v := 0) hC dL_refuses_1203 (by decide) ?_
  refine aw_iconst (v := 0) hC dL_refuses_1204 (by decide) ?_
  refine aw_iconst (v := 0) hC dL_refuses_1205 (by decide) ?_
  refine kL_157 hC rfl (m_L_act_20 h0 (r_given h0 (ri_e (by rw [hg])))) dL_refuses_1206 rfl a_le a_le a_le a_le a_le rfl ekx (ekp (fun T I J R h0 => ?_))
  show AW X 372 24800 1209 [some (.ref 0), some (.int (nI n)), some (.int (nI q)), some (.int (nI g)), some (.int (nI p)), some (.int sv), some (.int (nI r)), some (.int pv), some (.int lv), some (.int 2147483647), some (.int 1), some (.int (-2147483648)), some (.int 3), some (.int 4), some (.int 6), some (.int 10), some (.int 64), some (.int (nI (16 * g))), some (.int (nI g)), some (.int (nI r)), some (.int (nI p)), some (.int 31), some (.int 4), some (.int 1)] [.int (-71)] T I J R
  refine aw_bipush (v := (-71)) hC dL_refuses_1209 (by decide) ?_
  refine aw_icmp_ne (tgt := 1218) hC dL_refuses_1211 (by decide) (fun z9 => absurd z9 (by decide)) (fun _ => ?_)
  refine aw_iconst (v := 1) hC dL_refuses_1214 (by decide) ?_
  refine aw_goto (tgt := 1219) hC dL_refuses_1215 (by decide) ?_
  refine aw_istore (L2 := [some (.ref 0), some (.int (nI n)), some (.int (nI q)), some (.int (nI g)), some (.int (nI p)), some (.int sv), some (.int (nI r)), some (.int pv), some (.int lv), some (.int 2147483647), some (.int 1), some (.int (-2147483648)), some (.int 3), some (.int 4), some (.int 6), some (.int 10), some (.int 64), some (.int (nI (16 * g))), some (.int (nI g)), some (.int (nI r)), some (.int (nI p)), some (.int 31), some (.int 4), some (.int 1)]) hC dL_refuses_1219 (by decide) rfl ?_
  refine aw_iload hC dL_refuses_1221 rfl ?_
  refine aw_if_eq (tgt := 1797) hC dL_refuses_1223 (by decide) (fun z9 => absurd z9 (by decide)) (fun _ => ?_)
  refine aw_aload_n hC dL_refuses_1226 rfl ?_
  refine aw_bipush (v := 21) hC dL_refuses_1227 (by decide) ?_
  refine aw_iload hC dL_refuses_1229 rfl ?_
  refine aw_iconst (v := 0) hC dL_refuses_1231 (by decide) ?_
  refine aw_iconst (v := 0) hC dL_refuses_1232 (by decide) ?_
  refine aw_iconst (v := 0) hC dL_refuses_1233 (by decide) ?_
  refine aw_iconst (v := 0) hC dL_refuses_1234 (by decide) ?_
  refine kL_157 hC rfl (m_L_act_21 h0 (x_plan_exI h0 (by decide))) dL_refuses_1235 rfl a_le a_le a_le a_le a_le rfl ekx (ekp (fun T I J R h0 => ?_))
  show AW X 375 25000 1238 [some (.ref 0), some (.int (nI n)), some (.int (nI q)), some (.int (nI g)), some (.int (nI p)), some (.int sv), some (.int (nI r)), some (.int pv), some (.int lv), some (.int 2147483647), some (.int 1), some (.int (-2147483648)), some (.int 3), some (.int 4), some (.int 6), some (.int 10), some (.int 64), some (.int (nI (16 * g))), some (.int (nI g)), some (.int (nI r)), some (.int (nI p)), some (.int 31), some (.int 4), some (.int 1)] [.int (-71)] T I J R
  refine aw_bipush (v := (-71)) hC dL_refuses_1238 (by decide) ?_
  refine aw_icmp_ne (tgt := 1797) hC dL_refuses_1240 (by decide) (fun z9 => absurd z9 (by decide)) (fun _ => ?_)
  refine aw_aload_n hC dL_refuses_1243 rfl ?_
  refine aw_bipush (v := 22) hC dL_refuses_1244 (by decide) ?_
  refine aw_iload hC dL_refuses_1246 rfl ?_
  refine aw_iconst (v := 0) hC dL_refuses_1248 (by decide) ?_
  refine aw_iconst (v := 0) hC dL_refuses_1249 (by decide) ?_
  refine aw_iconst (v := 0) hC dL_refuses_1250 (by decide) ?_
  refine aw_iconst (v := 0) hC dL_refuses_1251 (by decide) ?_
  refine kL_157 hC rfl (m_L_act_22 h0 (r_action h0 (ri_e hp))) dL_refuses_1252 rfl a_le a_le a_le a_le a_le rfl ekx (ekp (fun T I J R h0 => ?_))
  show AW X 378 25200 1255 [some (.ref 0), some (.int (nI n)), some (.int (nI q)), some (.int (nI g)), some (.int (nI p)), some (.int sv), some (.int (nI r)), some (.int pv), some (.int lv), some (.int 2147483647), some (.int 1), some (.int (-2147483648)), some (.int 3), some (.int 4), some (.int 6), some (.int 10), some (.int 64), some (.int (nI (16 * g))), some (.int (nI g)), some (.int (nI r)), some (.int (nI p)), some (.int 31), some (.int 4), some (.int 1)] [.int (-71)] T I J R
  refine aw_bipush (v := (-71)) hC dL_refuses_1255 (by decide) ?_
  refine aw_icmp_ne (tgt := 1797) hC dL_refuses_1257 (by decide) (fun z9 => absurd z9 (by decide)) (fun _ => ?_)
  refine aw_aload_n hC dL_refuses_1260 rfl ?_
  refine aw_bipush (v := 23) hC dL_refuses_1261 (by decide) ?_
  refine aw_iload hC dL_refuses_1263 rfl ?_
  refine aw_iconst (v := 0) hC dL_refuses_1265 (by decide) ?_
  refine aw_iconst (v := 0) hC dL_refuses_1266 (by decide) ?_
  refine aw_iconst (v := 0) hC dL_refuses_1267 (by decide) ?_
  refine aw_iconst (v := 0) hC dL_refuses_1268 (by decide) ?_
  refine kL_157 hC rfl (m_L_act_23 h0 (r_approve h0 (ri_e hp))) dL_refuses_1269 rfl a_le a_le a_le a_le a_le rfl ekx (ekp (fun T I J R h0 => ?_))
  show AW X 381 25400 1272 [some (.ref 0), some (.int (nI n)), some (.int (nI q)), some (.int (nI g)), some (.int (nI p)), some (.int sv), some (.int (nI r)), some (.int pv), some (.int lv), some (.int 2147483647), some (.int 1), some (.int (-2147483648)), some (.int 3), some (.int 4), some (.int 6), some (.int 10), some (.int 64), some (.int (nI (16 * g))), some (.int (nI g)), some (.int (nI r)), some (.int (nI p)), some (.int 31), some (.int 4), some (.int 1)] [.int (-71)] T I J R
  refine aw_bipush (v := (-71)) hC dL_refuses_1272 (by decide) ?_
  refine aw_icmp_ne (tgt := 1797) hC dL_refuses_1274 (by decide) (fun z9 => absurd z9 (by decide)) (fun _ => ?_)
  refine aw_aload_n hC dL_refuses_1277 rfl ?_
  refine aw_bipush (v := 24) hC dL_refuses_1278 (by decide) ?_
  refine aw_iload hC dL_refuses_1280 rfl ?_
  refine aw_iconst (v := 0) hC dL_refuses_1282 (by decide) ?_
  refine aw_iconst (v := 0) hC dL_refuses_1283 (by decide) ?_
  refine aw_iconst (v := 0) hC dL_refuses_1284 (by decide) ?_
  refine aw_iconst (v := 0) hC dL_refuses_1285 (by decide) ?_
  refine kL_157 hC rfl (m_L_act_24 h0 (x_isStale_exI h0 (ri_e hp))) dL_refuses_1286 rfl a_le a_le a_le a_le a_le rfl ekx (ekp (fun T I J R h0 => ?_))
  show AW X 384 25600 1289 [some (.ref 0), some (.int (nI n)), some (.int (nI q)), some (.int (nI g)), some (.int (nI p)), some (.int sv), some (.int (nI r)), some (.int pv), some (.int lv), some (.int 2147483647), some (.int 1), some (.int (-2147483648)), some (.int 3), some (.int 4), some (.int 6), some (.int 10), some (.int 64), some (.int (nI (16 * g))), some (.int (nI g)), some (.int (nI r)), some (.int (nI p)), some (.int 31), some (.int 4), some (.int 1)] [.int (-71)] T I J R
  refine aw_bipush (v := (-71)) hC dL_refuses_1289 (by decide) ?_
  refine aw_icmp_ne (tgt := 1797) hC dL_refuses_1291 (by decide) (fun z9 => absurd z9 (by decide)) (fun _ => ?_)
  refine aw_aload_n hC dL_refuses_1294 rfl ?_
  refine aw_bipush (v := 25) hC dL_refuses_1295 (by decide) ?_
  refine aw_iload hC dL_refuses_1297 rfl ?_
  refine aw_iconst (v := 0) hC dL_refuses_1299 (by decide) ?_
  refine aw_iconst (v := 0) hC dL_refuses_1300 (by decide) ?_
  refine aw_iconst (v := 0) hC dL_refuses_1301 (by decide) ?_
  refine aw_iconst (v := 0) hC dL_refuses_1302 (by decide) ?_
  refine kL_157 hC rfl (m_L_act_25 h0 (x_rebase_exI h0 (ri_e hp))) dL_refuses_1303 rfl a_le a_le a_le a_le a_le rfl ekx (ekp (fun T I J R h0 => ?_))
  show AW X 387 25800 1306 [some (.ref 0), some (.int (nI n)), some (.int (nI q)), some (.int (nI g)), some (.int (nI p)), some (.int sv), some (.int (nI r)), some (.int pv), some (.int lv), some (.int 2147483647), some (.int 1), some (.int (-2147483648)), some (.int 3), some (.int 4), some (.int 6), some (.int 10), some (.int 64), some (.int (nI (16 * g))), some (.int (nI g)), some (.int (nI r)), some (.int (nI p)), some (.int 31), some (.int 4), some (.int 1)] [.int (-71)] T I J R
  refine aw_bipush (v := (-71)) hC dL_refuses_1306 (by decide) ?_
  refine aw_icmp_ne (tgt := 1797) hC dL_refuses_1308 (by decide) (fun z9 => absurd z9 (by decide)) (fun _ => ?_)
  refine aw_aload_n hC dL_refuses_1311 rfl ?_
  refine aw_bipush (v := 26) hC dL_refuses_1312 (by decide) ?_
  refine aw_iload hC dL_refuses_1314 rfl ?_
  refine aw_iconst (v := 0) hC dL_refuses_1316 (by decide) ?_
  refine aw_iconst (v := 0) hC dL_refuses_1317 (by decide) ?_
  refine aw_iconst (v := 0) hC dL_refuses_1318 (by decide) ?_
  refine aw_iconst (v := 0) hC dL_refuses_1319 (by decide) ?_
  refine kL_157 hC rfl (m_L_act_26 h0 (x_apply_exI h0 (ri_e hp))) dL_refuses_1320 rfl a_le a_le a_le a_le a_le rfl ekx (ekp (fun T I J R h0 => ?_))
  show AW X 390 26000 1323 [some (.ref 0), some (.int (nI n)), some (.int (nI q)), some (.int (nI g)), some (.int (nI p)), some (.int sv), some (.int (nI r)), some (.int pv), some (.int lv), some (.int 2147483647), some (.int 1), some (.int (-2147483648)), some (.int 3), some (.int 4), some (.int 6), some (.int 10), some (.int 64), some (.int (nI (16 * g))), some (.int (nI g)), some (.int (nI r)), some (.int (nI p)), some (.int 31), some (.int 4), some (.int 1)] [.int (-71)] T I J R
  refine aw_bipush (v := (-71)) hC dL_refuses_1323 (by decide) ?_
  refine aw_icmp_ne (tgt := 1797) hC dL_refuses_1325 (by decide) (fun z9 => absurd z9 (by decide)) (fun _ => ?_)
  refine aw_aload_n hC dL_refuses_1328 rfl ?_
  refine aw_bipush (v := 27) hC dL_refuses_1329 (by decide) ?_
  refine aw_iload hC dL_refuses_1331 rfl ?_
  refine aw_iconst (v := 1) hC dL_refuses_1333 (by decide) ?_
  refine aw_icmp_ne (tgt := 1341) hC dL_refuses_1334 (by decide) (fun z9 => absurd z9 (by decide)) (fun _ => ?_)
  refine aw_iconst (v := 3) hC dL_refuses_1337 (by decide) ?_
  refine aw_goto (tgt := 1343) hC dL_refuses_1338 (by decide) ?_
  refine aw_iconst (v := 0) hC dL_refuses_1343 (by decide) ?_
  refine aw_iconst (v := 0) hC dL_refuses_1344 (by decide) ?_
  refine aw_iconst (v := 0) hC dL_refuses_1345 (by decide) ?_
  refine aw_iconst (v := 0) hC dL_refuses_1346 (by decide) ?_
  refine kL_157 hC rfl (m_L_act_27 h0 (x_step_exA h0 (by decide))) dL_refuses_1347 rfl a_le a_le a_le a_le a_le rfl ekx (ekp (fun T I J R h0 => ?_))
  show AW X 393 26200 1350 [some (.ref 0), some (.int (nI n)), some (.int (nI q)), some (.int (nI g)), some (.int (nI p)), some (.int sv), some (.int (nI r)), some (.int pv), some (.int lv), some (.int 2147483647), some (.int 1), some (.int (-2147483648)), some (.int 3), some (.int 4), some (.int 6), some (.int 10), some (.int 64), some (.int (nI (16 * g))), some (.int (nI g)), some (.int (nI r)), some (.int (nI p)), some (.int 31), some (.int 4), some (.int 1)] [.int (-72)] T I J R
  refine aw_bipush (v := (-72)) hC dL_refuses_1350 (by decide) ?_
  refine aw_icmp_ne (tgt := 1797) hC dL_refuses_1352 (by decide) (fun z9 => absurd z9 (by decide)) (fun _ => ?_)
  refine aw_aload_n hC dL_refuses_1355 rfl ?_
  refine aw_bipush (v := 28) hC dL_refuses_1356 (by decide) ?_
  refine aw_iload hC dL_refuses_1358 rfl ?_
  refine aw_iconst (v := 0) hC dL_refuses_1360 (by decide) ?_
  refine aw_iconst (v := 0) hC dL_refuses_1361 (by decide) ?_
  refine aw_iconst (v := 0) hC dL_refuses_1362 (by decide) ?_
  refine aw_iconst (v := 0) hC dL_refuses_1363 (by decide) ?_
  refine kL_157 hC rfl (m_L_act_28 h0 (x_entry_exI h0 (ri_e (by rw [hg])))) dL_refuses_1364 rfl a_le a_le a_le a_le a_le rfl ekx (ekp (fun T I J R h0 => ?_))
  show AW X 396 26400 1367 [some (.ref 0), some (.int (nI n)), some (.int (nI q)), some (.int (nI g)), some (.int (nI p)), some (.int sv), some (.int (nI r)), some (.int pv), some (.int lv), some (.int 2147483647), some (.int 1), some (.int (-2147483648)), some (.int 3), some (.int 4), some (.int 6), some (.int 10), some (.int 64), some (.int (nI (16 * g))), some (.int (nI g)), some (.int (nI r)), some (.int (nI p)), some (.int 31), some (.int 4), some (.int 1)] [.int (-71)] T I J R
  refine aw_bipush (v := (-71)) hC dL_refuses_1367 (by decide) ?_
  refine aw_icmp_ne (tgt := 1797) hC dL_refuses_1369 (by decide) (fun z9 => absurd z9 (by decide)) (fun _ => ?_)
  refine aw_aload_n hC dL_refuses_1372 rfl ?_
  refine aw_bipush (v := 29) hC dL_refuses_1373 (by decide) ?_
  refine aw_iload hC dL_refuses_1375 rfl ?_
  refine aw_iconst (v := 0) hC dL_refuses_1377 (by decide) ?_
  refine aw_iconst (v := 0) hC dL_refuses_1378 (by decide) ?_
  refine aw_iconst (v := 0) hC dL_refuses_1379 (by decide) ?_
  refine aw_iconst (v := 0) hC dL_refuses_1380 (by decide) ?_
  refine kL_157 hC rfl (m_L_act_29 h0 (r_stored h0 (ri_e (by rw [hg])))) dL_refuses_1381 rfl a_le a_le a_le a_le a_le rfl ekx (ekp (fun T I J R h0 => ?_))
  show AW X 399 26600 1384 [some (.ref 0), some (.int (nI n)), some (.int (nI q)), some (.int (nI g)), some (.int (nI p)), some (.int sv), some (.int (nI r)), some (.int pv), some (.int lv), some (.int 2147483647), some (.int 1), some (.int (-2147483648)), some (.int 3), some (.int 4), some (.int 6), some (.int 10), some (.int 64), some (.int (nI (16 * g))), some (.int (nI g)), some (.int (nI r)), some (.int (nI p)), some (.int 31), some (.int 4), some (.int 1)] [.int (-71)] T I J R
  refine aw_bipush (v := (-71)) hC dL_refuses_1384 (by decide) ?_
  refine aw_icmp_ne (tgt := 1797) hC dL_refuses_1386 (by decide) (fun z9 => absurd z9 (by decide)) (fun _ => ?_)
  refine aw_aload_n hC dL_refuses_1389 rfl ?_
  refine aw_bipush (v := 30) hC dL_refuses_1390 (by decide) ?_
  refine aw_iload hC dL_refuses_1392 rfl ?_
  refine aw_iconst (v := 0) hC dL_refuses_1394 (by decide) ?_
  refine aw_iconst (v := 0) hC dL_refuses_1395 (by decide) ?_
  refine aw_iconst (v := 0) hC dL_refuses_1396 (by decide) ?_
  refine aw_iconst (v := 0) hC dL_refuses_1397 (by decide) ?_
  refine kL_157 hC rfl (m_L_act_30 h0 (r_real h0 (ri_e hr))) dL_refuses_1398 rfl a_le a_le a_le a_le a_le rfl ekx (ekp (fun T I J R h0 => ?_))
  show AW X 402 26800 1401 [some (.ref 0), some (.int (nI n)), some (.int (nI q)), some (.int (nI g)), some (.int (nI p)), some (.int sv), some (.int (nI r)), some (.int pv), some (.int lv), some (.int 2147483647), some (.int 1), some (.int (-2147483648)), some (.int 3), some (.int 4), some (.int 6), some (.int 10), some (.int 64), some (.int (nI (16 * g))), some (.int (nI g)), some (.int (nI r)), some (.int (nI p)), some (.int 31), some (.int 4), some (.int 1)] [.int (-71)] T I J R
  refine aw_bipush (v := (-71)) hC dL_refuses_1401 (by decide) ?_
  refine aw_icmp_ne (tgt := 1797) hC dL_refuses_1403 (by decide) (fun z9 => absurd z9 (by decide)) (fun _ => ?_)
  refine aw_aload_n hC dL_refuses_1406 rfl ?_
  refine aw_bipush (v := 31) hC dL_refuses_1407 (by decide) ?_
  refine aw_iload hC dL_refuses_1409 rfl ?_
  refine aw_iconst (v := 0) hC dL_refuses_1411 (by decide) ?_
  refine aw_iconst (v := (-1)) hC dL_refuses_1412 (by decide) ?_
  refine aw_iconst (v := 0) hC dL_refuses_1413 (by decide) ?_
  refine aw_iconst (v := 0) hC dL_refuses_1414 (by decide) ?_
  refine kL_157 hC rfl (m_L_act_31 h0 (r_change h0 (ri_e hr))) dL_refuses_1415 rfl a_le a_le a_le a_le a_le rfl ekx (ekp (fun T I J R h0 => ?_))
  show AW X 405 27000 1418 [some (.ref 0), some (.int (nI n)), some (.int (nI q)), some (.int (nI g)), some (.int (nI p)), some (.int sv), some (.int (nI r)), some (.int pv), some (.int lv), some (.int 2147483647), some (.int 1), some (.int (-2147483648)), some (.int 3), some (.int 4), some (.int 6), some (.int 10), some (.int 64), some (.int (nI (16 * g))), some (.int (nI g)), some (.int (nI r)), some (.int (nI p)), some (.int 31), some (.int 4), some (.int 1)] [.int (-71)] T I J R
  refine aw_bipush (v := (-71)) hC dL_refuses_1418 (by decide) ?_
  refine aw_icmp_ne (tgt := 1797) hC dL_refuses_1420 (by decide) (fun z9 => absurd z9 (by decide)) (fun _ => ?_)
  refine aw_aload_n hC dL_refuses_1423 rfl ?_
  refine aw_bipush (v := 32) hC dL_refuses_1424 (by decide) ?_
  refine aw_iload hC dL_refuses_1426 rfl ?_
  refine aw_iconst (v := 0) hC dL_refuses_1428 (by decide) ?_
  refine aw_iconst (v := 0) hC dL_refuses_1429 (by decide) ?_
  refine aw_iconst (v := 0) hC dL_refuses_1430 (by decide) ?_
  refine aw_iconst (v := 0) hC dL_refuses_1431 (by decide) ?_
  refine kL_157 hC rfl (m_L_act_32 h0 (x_destroy_exI h0 (ri_e hr))) dL_refuses_1432 rfl a_le a_le a_le a_le a_le rfl ekx (ekp (fun T I J R h0 => ?_))
  show AW X 408 27200 1435 [some (.ref 0), some (.int (nI n)), some (.int (nI q)), some (.int (nI g)), some (.int (nI p)), some (.int sv), some (.int (nI r)), some (.int pv), some (.int lv), some (.int 2147483647), some (.int 1), some (.int (-2147483648)), some (.int 3), some (.int 4), some (.int 6), some (.int 10), some (.int 64), some (.int (nI (16 * g))), some (.int (nI g)), some (.int (nI r)), some (.int (nI p)), some (.int 31), some (.int 4), some (.int 1)] [.int (-71)] T I J R
  refine aw_bipush (v := (-71)) hC dL_refuses_1435 (by decide) ?_
  refine aw_icmp_ne (tgt := 1797) hC dL_refuses_1437 (by decide) (fun z9 => absurd z9 (by decide)) (fun _ => ?_)
  refine aw_aload_n hC dL_refuses_1440 rfl ?_
  refine aw_bipush (v := 33) hC dL_refuses_1441 (by decide) ?_
  refine aw_iload hC dL_refuses_1443 rfl ?_
  refine aw_iconst (v := 0) hC dL_refuses_1445 (by decide) ?_
  refine aw_iconst (v := 0) hC dL_refuses_1446 (by decide) ?_
  refine aw_iconst (v := 0) hC dL_refuses_1447 (by decide) ?_
  refine aw_iconst (v := 0) hC dL_refuses_1448 (by decide) ?_
  refine kL_157 hC rfl (m_L_act_33 h0 (r_make h0 (by decide))) dL_refuses_1449 rfl a_le a_le a_le a_le a_le rfl ekx (ekp (fun T I J R h0 => ?_))
  show AW X 411 27400 1452 [some (.ref 0), some (.int (nI n)), some (.int (nI q)), some (.int (nI g)), some (.int (nI p)), some (.int sv), some (.int (nI r)), some (.int pv), some (.int lv), some (.int 2147483647), some (.int 1), some (.int (-2147483648)), some (.int 3), some (.int 4), some (.int 6), some (.int 10), some (.int 64), some (.int (nI (16 * g))), some (.int (nI g)), some (.int (nI r)), some (.int (nI p)), some (.int 31), some (.int 4), some (.int 1)] [.int (-71)] T I J R
  refine aw_bipush (v := (-71)) hC dL_refuses_1452 (by decide) ?_
  refine aw_icmp_ne (tgt := 1797) hC dL_refuses_1454 (by decide) (fun z9 => absurd z9 (by decide)) (fun _ => ?_)
  refine aw_aload_n hC dL_refuses_1457 rfl ?_
  refine aw_bipush (v := 35) hC dL_refuses_1458 (by decide) ?_
  refine aw_iload hC dL_refuses_1460 rfl ?_
  refine aw_iconst (v := 0) hC dL_refuses_1462 (by decide) ?_
  refine aw_iconst (v := 0) hC dL_refuses_1463 (by decide) ?_
  refine aw_iconst (v := 0) hC dL_refuses_1464 (by decide) ?_
  refine aw_iconst (v := 0) hC dL_refuses_1465 (by decide) ?_
  refine kL_157 hC rfl (m_L_act_35 h0 (r_move h0 (ri_e (by rw [hg])))) dL_refuses_1466 rfl a_le a_le a_le a_le a_le rfl ekx (ekp (fun T I J R h0 => ?_))
  show AW X 414 27600 1469 [some (.ref 0), some (.int (nI n)), some (.int (nI q)), some (.int (nI g)), some (.int (nI p)), some (.int sv), some (.int (nI r)), some (.int pv), some (.int lv), some (.int 2147483647), some (.int 1), some (.int (-2147483648)), some (.int 3), some (.int 4), some (.int 6), some (.int 10), some (.int 64), some (.int (nI (16 * g))), some (.int (nI g)), some (.int (nI r)), some (.int (nI p)), some (.int 31), some (.int 4), some (.int 1)] [.int (-71)] T I J R
  refine aw_bipush (v := (-71)) hC dL_refuses_1469 (by decide) ?_
  refine aw_icmp_ne (tgt := 1797) hC dL_refuses_1471 (by decide) (fun z9 => absurd z9 (by decide)) (fun _ => ?_)
  refine aw_aload_n hC dL_refuses_1474 rfl ?_
  refine aw_bipush (v := 36) hC dL_refuses_1475 (by decide) ?_
  refine aw_iload hC dL_refuses_1477 rfl ?_
  refine aw_iconst (v := 0) hC dL_refuses_1479 (by decide) ?_
  refine aw_iconst (v := 0) hC dL_refuses_1480 (by decide) ?_
  refine aw_iconst (v := 0) hC dL_refuses_1481 (by decide) ?_
  refine aw_iconst (v := 0) hC dL_refuses_1482 (by decide) ?_
  refine kL_157 hC rfl (m_L_act_36 h0 (r_take h0 (ri_e (by rw [hg])))) dL_refuses_1483 rfl a_le a_le a_le a_le a_le rfl ekx (ekp (fun T I J R h0 => ?_))
  show AW X 417 27800 1486 [some (.ref 0), some (.int (nI n)), some (.int (nI q)), some (.int (nI g)), some (.int (nI p)), some (.int sv), some (.int (nI r)), some (.int pv), some (.int lv), some (.int 2147483647), some (.int 1), some (.int (-2147483648)), some (.int 3), some (.int 4), some (.int 6), some (.int 10), some (.int 64), some (.int (nI (16 * g))), some (.int (nI g)), some (.int (nI r)), some (.int (nI p)), some (.int 31), some (.int 4), some (.int 1)] [.int (-71)] T I J R
  refine aw_bipush (v := (-71)) hC dL_refuses_1486 (by decide) ?_
  refine aw_icmp_ne (tgt := 1797) hC dL_refuses_1488 (by decide) (fun z9 => absurd z9 (by decide)) (fun _ => ?_)
  exact kk h0
set_option maxRecDepth 100000 in
theorem rf_1_R {X : aX} (hC : aC yL_refuses cL_refuses 24 (some .boolean) 10 230 1000 66000 [] X) {m : aI} {n q g r p : Nat} {sv pv lv : Int32} (hn : iN m 44 0 = n) (hq : iN m 44 14 = q) (hg : iN m 44 20 = g) (hr : iN m 44 25 = r) (hp : iN m 44 36 = p) (hb : n ≤ 30 ∧ q ≤ 8 ∧ g ≤ 4 ∧ r ≤ 60 ∧ p ≤ 40 ∧ iN m 63 0 ≤ 8 ∧ iN m 79 0 ≤ 128) (hz : r ≠ 0) {T : List aT} {I : aI} {J : aJ} {R : aR} (h0 : GX T I J R m) (kk : ∀ {T I J R}, GX T I J R m → AW X 426 28400 1559 [some (.ref 0), some (.int (nI n)), some (.int (nI q)), some (.int (nI g)), some (.int (nI p)), some (.int sv), some (.int (nI r)), some (.int pv), some (.int lv), some (.int 2147483647), some (.int 1), some (.int (-2147483648)), some (.int 3), some (.int 4), some (.int 6), some (.int 10), some (.int 64), some (.int (nI (16 * g))), some (.int (nI g)), some (.int (nI r)), some (.int (nI p)), some (.int 31), some (.int 4), some (.int 1)] [] T I J R) : AW X 417 27800 1496 [some (.ref 0), some (.int (nI n)), some (.int (nI q)), some (.int (nI g)), some (.int (nI p)), some (.int sv), some (.int (nI r)), some (.int pv), some (.int lv), some (.int 2147483647), some (.int 1), some (.int (-2147483648)), some (.int 3), some (.int 4), some (.int 6), some (.int 10), some (.int 64), some (.int (nI (16 * g))), some (.int (nI g)), some (.int (nI r)), some (.int (nI p)), some (.int 31), some (.int 4), some (.int 1)] [] T I J R := by
  refine aw_aload_n hC dL_refuses_1496 rfl ?_
  refine aw_bipush (v := 30) hC dL_refuses_1497 (by decide) ?_
  refine aw_iconst (v := 0) hC dL_refuses_1499 (by decide) ?_
  refine aw_iload hC dL_refuses_1500 rfl ?_
  refine aw_iconst (v := 0) hC dL_refuses_1502 (by decide) ?_
  refine aw_iconst (v := 0) hC dL_refuses_1503 (by decide) ?_
  refine aw_iconst (v := 0) hC dL_refuses_1504 (by decide) ?_
  refine kL_157 hC rfl (m_L_act_30 h0 (r_real2 h0 (by decide))) dL_refuses_1505 rfl a_le a_le a_le a_le a_le rfl ekx (ekp (fun T I J R h0 => ?_))
  show AW X 420 28000 1508 [some (.ref 0), some (.int (nI n)), some (.int (nI q)), some (.int (nI g)), some (.int (nI p)), some (.int sv), some (.int (nI r)), some (.int pv), some (.int lv), some (.int 2147483647), some (.int 1), some (.int (-2147483648)), some (.int 3), some (.int 4), some (.int 6), some (.int 10), some (.int 64), some (.int (nI (16 * g))), some (.int (nI g)), some (.int (nI r)), some (.int (nI p)), some (.int 31), some (.int 4), some (.int 1)] [.int (-71)] T I J R
  refine aw_bipush (v := (-71)) hC dL_refuses_1508 (by decide) ?_
  refine aw_icmp_ne (tgt := 1797) hC dL_refuses_1510 (by decide) (fun z9 => absurd z9 (by decide)) (fun _ => ?_)
  refine aw_aload_n hC dL_refuses_1513 rfl ?_
  refine aw_bipush (v := 31) hC dL_refuses_1514 (by decide) ?_
  refine aw_iconst (v := 0) hC dL_refuses_1516 (by decide) ?_
  refine aw_iload hC dL_refuses_1517 rfl ?_
  refine aw_iconst (v := 0) hC dL_refuses_1519 (by decide) ?_
  refine aw_iconst (v := 0) hC dL_refuses_1520 (by decide) ?_
  refine aw_iconst (v := 0) hC dL_refuses_1521 (by decide) ?_
  refine kL_157 hC rfl (m_L_act_31 h0 (r_change2 h0 (by decide))) dL_refuses_1522 rfl a_le a_le a_le a_le a_le rfl ekx (ekp (fun T I J R h0 => ?_))
  show AW X 423 28200 1525 [some (.ref 0), some (.int (nI n)), some (.int (nI q)), some (.int (nI g)), some (.int (nI p)), some (.int sv), some (.int (nI r)), some (.int pv), some (.int lv), some (.int 2147483647), some (.int 1), some (.int (-2147483648)), some (.int 3), some (.int 4), some (.int 6), some (.int 10), some (.int 64), some (.int (nI (16 * g))), some (.int (nI g)), some (.int (nI r)), some (.int (nI p)), some (.int 31), some (.int 4), some (.int 1)] [.int (-71)] T I J R
  refine aw_bipush (v := (-71)) hC dL_refuses_1525 (by decide) ?_
  refine aw_icmp_ne (tgt := 1797) hC dL_refuses_1527 (by decide) (fun z9 => absurd z9 (by decide)) (fun _ => ?_)
  refine aw_aload_n hC dL_refuses_1530 rfl ?_
  refine aw_bipush (v := 31) hC dL_refuses_1531 (by decide) ?_
  refine aw_iconst (v := 0) hC dL_refuses_1533 (by decide) ?_
  refine aw_iconst (v := 0) hC dL_refuses_1534 (by decide) ?_
  refine aw_iload hC dL_refuses_1535 rfl ?_
  refine aw_iconst (v := 1) hC dL_refuses_1537 (by decide) ?_
  refine aw_icmp_ne (tgt := 1547) hC dL_refuses_1538 (by decide) (fun z9 => absurd z9 (by decide)) (fun _ => ?_)
  refine aw_sipush (v := 256) hC dL_refuses_1541 (by decide) ?_
  refine aw_goto (tgt := 1549) hC dL_refuses_1544 (by decide) ?_
  refine aw_iconst (v := 0) hC dL_refuses_1549 (by decide) ?_
  refine aw_iconst (v := 0) hC dL_refuses_1550 (by decide) ?_
  refine kL_157 hC rfl (m_L_act_31 h0 (r_change3 h0 (by rw [hr]; exact ri_in hz (by omega)) (by decide) (by decide))) dL_refuses_1551 rfl a_le a_le a_le a_le a_le rfl ekx (ekp (fun T I J R h0 => ?_))
  show AW X 426 28400 1554 [some (.ref 0), some (.int (nI n)), some (.int (nI q)), some (.int (nI g)), some (.int (nI p)), some (.int sv), some (.int (nI r)), some (.int pv), some (.int lv), some (.int 2147483647), some (.int 1), some (.int (-2147483648)), some (.int 3), some (.int 4), some (.int 6), some (.int 10), some (.int 64), some (.int (nI (16 * g))), some (.int (nI g)), some (.int (nI r)), some (.int (nI p)), some (.int 31), some (.int 4), some (.int 1)] [.int (-72)] T I J R
  refine aw_bipush (v := (-72)) hC dL_refuses_1554 (by decide) ?_
  refine aw_icmp_ne (tgt := 1797) hC dL_refuses_1556 (by decide) (fun z9 => absurd z9 (by decide)) (fun _ => ?_)
  exact kk h0
set_option maxRecDepth 100000 in
theorem rf_1_G {X : aX} (hC : aC yL_refuses cL_refuses 24 (some .boolean) 10 230 1000 66000 [] X) {m : aI} {n q g r p : Nat} {sv pv lv : Int32} (hn : iN m 44 0 = n) (hq : iN m 44 14 = q) (hg : iN m 44 20 = g) (hr : iN m 44 25 = r) (hp : iN m 44 36 = p) (hb : n ≤ 30 ∧ q ≤ 8 ∧ g ≤ 4 ∧ r ≤ 60 ∧ p ≤ 40 ∧ iN m 63 0 ≤ 8 ∧ iN m 79 0 ≤ 128) (hz : g ≠ 0) {T : List aT} {I : aI} {J : aJ} {R : aR} (h0 : GX T I J R m) (kk : ∀ {T I J R}, GX T I J R m → AW X 450 30000 1742 [some (.ref 0), some (.int (nI n)), some (.int (nI q)), some (.int (nI g)), some (.int (nI p)), some (.int sv), some (.int (nI r)), some (.int pv), some (.int lv), some (.int 2147483647), some (.int 1), some (.int (-2147483648)), some (.int 3), some (.int 4), some (.int 6), some (.int 10), some (.int 64), some (.int (nI (16 * g))), some (.int (nI g)), some (.int (nI r)), some (.int (nI p)), some (.int 31), some (.int 4), some (.int 1)] [] T I J R) : AW X 426 28400 1563 [some (.ref 0), some (.int (nI n)), some (.int (nI q)), some (.int (nI g)), some (.int (nI p)), some (.int sv), some (.int (nI r)), some (.int pv), some (.int lv), some (.int 2147483647), some (.int 1), some (.int (-2147483648)), some (.int 3), some (.int 4), some (.int 6), some (.int 10), some (.int 64), some (.int (nI (16 * g))), some (.int (nI g)), some (.int (nI r)), some (.int (nI p)), some (.int 31), some (.int 4), some (.int 1)] [] T I J R := by
  refine aw_aload_n hC dL_refuses_1563 rfl ?_
  refine aw_bipush (v := 16) hC dL_refuses_1564 (by decide) ?_
  refine aw_iconst (v := 0) hC dL_refuses_1566 (by decide) ?_
  refine aw_iload hC dL_refuses_1567 rfl ?_
  refine aw_iconst (v := 1) hC dL_refuses_1569 (by decide) ?_
  refine aw_icmp_ne (tgt := 1578) hC dL_refuses_1570 (by decide) (fun z9 => absurd z9 (by decide)) (fun _ => ?_)
  refine aw_bipush (v := 9) hC dL_refuses_1573 (by decide) ?_
  refine aw_goto (tgt := 1580) hC dL_refuses_1575 (by decide) ?_
  refine aw_iconst (v := 0) hC dL_refuses_1580 (by decide) ?_
  refine aw_iconst (v := 0) hC dL_refuses_1581 (by decide) ?_
  refine aw_iconst (v := 0) hC dL_refuses_1582 (by decide) ?_
  refine kL_157 hC rfl (m_L_act_16 h0 (r_key2 h0 (ri_gt (a := 9) (by show iN m 63 0 < 9; omega) (by decide)))) dL_refuses_1583 rfl a_le a_le a_le a_le a_le rfl ekx (ekp (fun T I J R h0 => ?_))
  show AW X 429 28600 1586 [some (.ref 0), some (.int (nI n)), some (.int (nI q)), some (.int (nI g)), some (.int (nI p)), some (.int sv), some (.int (nI r)), some (.int pv), some (.int lv), some (.int 2147483647), some (.int 1), some (.int (-2147483648)), some (.int 3), some (.int 4), some (.int 6), some (.int 10), some (.int 64), some (.int (nI (16 * g))), some (.int (nI g)), some (.int (nI r)), some (.int (nI p)), some (.int 31), some (.int 4), some (.int 1)] [.int (-71)] T I J R
  refine aw_bipush (v := (-71)) hC dL_refuses_1586 (by decide) ?_
  refine aw_icmp_ne (tgt := 1797) hC dL_refuses_1588 (by decide) (fun z9 => absurd z9 (by decide)) (fun _ => ?_)
  refine aw_aload_n hC dL_refuses_1591 rfl ?_
  refine aw_bipush (v := 16) hC dL_refuses_1592 (by decide) ?_
  refine aw_iconst (v := 0) hC dL_refuses_1594 (by decide) ?_
  refine aw_iconst (v := 0) hC dL_refuses_1595 (by decide) ?_
  refine aw_iload hC dL_refuses_1596 rfl ?_
  refine aw_iconst (v := 1) hC dL_refuses_1598 (by decide) ?_
  refine aw_icmp_ne (tgt := 1607) hC dL_refuses_1599 (by decide) (fun z9 => absurd z9 (by decide)) (fun _ => ?_)
  refine aw_bipush (v := 16) hC dL_refuses_1602 (by decide) ?_
  refine aw_goto (tgt := 1609) hC dL_refuses_1604 (by decide) ?_
  refine aw_iconst (v := 0) hC dL_refuses_1609 (by decide) ?_
  refine aw_iconst (v := 0) hC dL_refuses_1610 (by decide) ?_
  refine kL_157 hC rfl (m_L_act_16 h0 (r_key3 h0 (by rw [hg]; exact ri_in hz (by omega)) (by show (0 : Int32) ≤ 0 ∧ (0 : Int32) ≤ nI (iN m 63 0); exact ri_le (by omega)) (by decide))) dL_refuses_1611 rfl a_le a_le a_le a_le a_le rfl ekx (ekp (fun T I J R h0 => ?_))
  show AW X 432 28800 1614 [some (.ref 0), some (.int (nI n)), some (.int (nI q)), some (.int (nI g)), some (.int (nI p)), some (.int sv), some (.int (nI r)), some (.int pv), some (.int lv), some (.int 2147483647), some (.int 1), some (.int (-2147483648)), some (.int 3), some (.int 4), some (.int 6), some (.int 10), some (.int 64), some (.int (nI (16 * g))), some (.int (nI g)), some (.int (nI r)), some (.int (nI p)), some (.int 31), some (.int 4), some (.int 1)] [.int (-72)] T I J R
  refine aw_bipush (v := (-72)) hC dL_refuses_1614 (by decide) ?_
  refine aw_icmp_ne (tgt := 1797) hC dL_refuses_1616 (by decide) (fun z9 => absurd z9 (by decide)) (fun _ => ?_)
  refine aw_aload_n hC dL_refuses_1619 rfl ?_
  refine aw_bipush (v := 17) hC dL_refuses_1620 (by decide) ?_
  refine aw_iconst (v := 0) hC dL_refuses_1622 (by decide) ?_
  refine aw_iload hC dL_refuses_1623 rfl ?_
  refine aw_iconst (v := 1) hC dL_refuses_1625 (by decide) ?_
  refine aw_icmp_ne (tgt := 1634) hC dL_refuses_1626 (by decide) (fun z9 => absurd z9 (by decide)) (fun _ => ?_)
  refine aw_bipush (v := 8) hC dL_refuses_1629 (by decide) ?_
  refine aw_goto (tgt := 1636) hC dL_refuses_1631 (by decide) ?_
  refine aw_iconst (v := 0) hC dL_refuses_1636 (by decide) ?_
  refine aw_iconst (v := 0) hC dL_refuses_1637 (by decide) ?_
  refine aw_iconst (v := 0) hC dL_refuses_1638 (by decide) ?_
  refine kL_157 hC rfl (m_L_act_17 h0 (r_unkey2 h0 (ri_ge (a := 8) (by show iN m 63 0 ≤ 8; omega) (by decide)))) dL_refuses_1639 rfl a_le a_le a_le a_le a_le rfl ekx (ekp (fun T I J R h0 => ?_))
  show AW X 435 29000 1642 [some (.ref 0), some (.int (nI n)), some (.int (nI q)), some (.int (nI g)), some (.int (nI p)), some (.int sv), some (.int (nI r)), some (.int pv), some (.int lv), some (.int 2147483647), some (.int 1), some (.int (-2147483648)), some (.int 3), some (.int 4), some (.int 6), some (.int 10), some (.int 64), some (.int (nI (16 * g))), some (.int (nI g)), some (.int (nI r)), some (.int (nI p)), some (.int 31), some (.int 4), some (.int 1)] [.int (-71)] T I J R
  refine aw_bipush (v := (-71)) hC dL_refuses_1642 (by decide) ?_
  refine aw_icmp_ne (tgt := 1797) hC dL_refuses_1644 (by decide) (fun z9 => absurd z9 (by decide)) (fun _ => ?_)
  refine aw_aload_n hC dL_refuses_1647 rfl ?_
  refine aw_bipush (v := 18) hC dL_refuses_1648 (by decide) ?_
  refine aw_iconst (v := 0) hC dL_refuses_1650 (by decide) ?_
  refine aw_iload hC dL_refuses_1651 rfl ?_
  refine aw_iconst (v := (-1)) hC dL_refuses_1653 (by decide) ?_
  refine aw_iconst (v := 0) hC dL_refuses_1654 (by decide) ?_
  refine aw_iconst (v := 0) hC dL_refuses_1655 (by decide) ?_
  refine kL_157 hC rfl (m_L_act_18 h0 (r_bind2 h0 (by decide))) dL_refuses_1656 rfl a_le a_le a_le a_le a_le rfl ekx (ekp (fun T I J R h0 => ?_))
  show AW X 438 29200 1659 [some (.ref 0), some (.int (nI n)), some (.int (nI q)), some (.int (nI g)), some (.int (nI p)), some (.int sv), some (.int (nI r)), some (.int pv), some (.int lv), some (.int 2147483647), some (.int 1), some (.int (-2147483648)), some (.int 3), some (.int 4), some (.int 6), some (.int 10), some (.int 64), some (.int (nI (16 * g))), some (.int (nI g)), some (.int (nI r)), some (.int (nI p)), some (.int 31), some (.int 4), some (.int 1)] [.int (-71)] T I J R
  refine aw_bipush (v := (-71)) hC dL_refuses_1659 (by decide) ?_
  refine aw_icmp_ne (tgt := 1797) hC dL_refuses_1661 (by decide) (fun z9 => absurd z9 (by decide)) (fun _ => ?_)
  refine aw_aload_n hC dL_refuses_1664 rfl ?_
  refine aw_bipush (v := 18) hC dL_refuses_1665 (by decide) ?_
  refine aw_iconst (v := 0) hC dL_refuses_1667 (by decide) ?_
  refine aw_iconst (v := 0) hC dL_refuses_1668 (by decide) ?_
  refine aw_iload hC dL_refuses_1669 rfl ?_
  refine aw_if_ne (tgt := 1679) hC dL_refuses_1671 (by decide) (fun _ => ?_) (fun z9 => absurd z9 (by decide))
  refine aw_iload hC dL_refuses_1679 rfl ?_
  refine aw_iconst (v := 0) hC dL_refuses_1681 (by decide) ?_
  refine aw_iconst (v := 0) hC dL_refuses_1682 (by decide) ?_
  refine kL_157 hC rfl (m_L_act_18 h0 (r_bind3 h0 (by decide))) dL_refuses_1683 rfl a_le a_le a_le a_le a_le rfl ekx (ekp (fun T I J R h0 => ?_))
  show AW X 441 29400 1686 [some (.ref 0), some (.int (nI n)), some (.int (nI q)), some (.int (nI g)), some (.int (nI p)), some (.int sv), some (.int (nI r)), some (.int pv), some (.int lv), some (.int 2147483647), some (.int 1), some (.int (-2147483648)), some (.int 3), some (.int 4), some (.int 6), some (.int 10), some (.int 64), some (.int (nI (16 * g))), some (.int (nI g)), some (.int (nI r)), some (.int (nI p)), some (.int 31), some (.int 4), some (.int 1)] [.int (-71)] T I J R
  refine aw_bipush (v := (-71)) hC dL_refuses_1686 (by decide) ?_
  refine aw_icmp_ne (tgt := 1797) hC dL_refuses_1688 (by decide) (fun z9 => absurd z9 (by decide)) (fun _ => ?_)
  refine aw_aload_n hC dL_refuses_1691 rfl ?_
  refine aw_bipush (v := 20) hC dL_refuses_1692 (by decide) ?_
  refine aw_iconst (v := 0) hC dL_refuses_1694 (by decide) ?_
  refine aw_iload hC dL_refuses_1695 rfl ?_
  refine aw_iconst (v := 0) hC dL_refuses_1697 (by decide) ?_
  refine aw_iconst (v := 0) hC dL_refuses_1698 (by decide) ?_
  refine aw_iconst (v := 0) hC dL_refuses_1699 (by decide) ?_
  refine kL_157 hC rfl (m_L_act_20 h0 (r_given2 h0 (by decide))) dL_refuses_1700 rfl a_le a_le a_le a_le a_le rfl ekx (ekp (fun T I J R h0 => ?_))
  show AW X 444 29600 1703 [some (.ref 0), some (.int (nI n)), some (.int (nI q)), some (.int (nI g)), some (.int (nI p)), some (.int sv), some (.int (nI r)), some (.int pv), some (.int lv), some (.int 2147483647), some (.int 1), some (.int (-2147483648)), some (.int 3), some (.int 4), some (.int 6), some (.int 10), some (.int 64), some (.int (nI (16 * g))), some (.int (nI g)), some (.int (nI r)), some (.int (nI p)), some (.int 31), some (.int 4), some (.int 1)] [.int (-71)] T I J R
  refine aw_bipush (v := (-71)) hC dL_refuses_1703 (by decide) ?_
  refine aw_icmp_ne (tgt := 1797) hC dL_refuses_1705 (by decide) (fun z9 => absurd z9 (by decide)) (fun _ => ?_)
  refine aw_aload_n hC dL_refuses_1708 rfl ?_
  refine aw_bipush (v := 35) hC dL_refuses_1709 (by decide) ?_
  refine aw_iconst (v := 0) hC dL_refuses_1711 (by decide) ?_
  refine aw_iload hC dL_refuses_1712 rfl ?_
  refine aw_iconst (v := 0) hC dL_refuses_1714 (by decide) ?_
  refine aw_iconst (v := 0) hC dL_refuses_1715 (by decide) ?_
  refine aw_iconst (v := 0) hC dL_refuses_1716 (by decide) ?_
  refine kL_157 hC rfl (m_L_act_35 h0 (r_move2 h0 (ri_e (by rw [hg])))) dL_refuses_1717 rfl a_le a_le a_le a_le a_le rfl ekx (ekp (fun T I J R h0 => ?_))
  show AW X 447 29800 1720 [some (.ref 0), some (.int (nI n)), some (.int (nI q)), some (.int (nI g)), some (.int (nI p)), some (.int sv), some (.int (nI r)), some (.int pv), some (.int lv), some (.int 2147483647), some (.int 1), some (.int (-2147483648)), some (.int 3), some (.int 4), some (.int 6), some (.int 10), some (.int 64), some (.int (nI (16 * g))), some (.int (nI g)), some (.int (nI r)), some (.int (nI p)), some (.int 31), some (.int 4), some (.int 1)] [.int (-71)] T I J R
  refine aw_bipush (v := (-71)) hC dL_refuses_1720 (by decide) ?_
  refine aw_icmp_ne (tgt := 1797) hC dL_refuses_1722 (by decide) (fun z9 => absurd z9 (by decide)) (fun _ => ?_)
  refine aw_aload_n hC dL_refuses_1725 rfl ?_
  refine aw_bipush (v := 36) hC dL_refuses_1726 (by decide) ?_
  refine aw_iconst (v := 0) hC dL_refuses_1728 (by decide) ?_
  refine aw_iload hC dL_refuses_1729 rfl ?_
  refine aw_iconst (v := 0) hC dL_refuses_1731 (by decide) ?_
  refine aw_iconst (v := 0) hC dL_refuses_1732 (by decide) ?_
  refine aw_iconst (v := 0) hC dL_refuses_1733 (by decide) ?_
  refine kL_157 hC rfl (m_L_act_36 h0 (r_take2 h0 (ri_e hr))) dL_refuses_1734 rfl a_le a_le a_le a_le a_le rfl ekx (ekp (fun T I J R h0 => ?_))
  show AW X 450 30000 1737 [some (.ref 0), some (.int (nI n)), some (.int (nI q)), some (.int (nI g)), some (.int (nI p)), some (.int sv), some (.int (nI r)), some (.int pv), some (.int lv), some (.int 2147483647), some (.int 1), some (.int (-2147483648)), some (.int 3), some (.int 4), some (.int 6), some (.int 10), some (.int 64), some (.int (nI (16 * g))), some (.int (nI g)), some (.int (nI r)), some (.int (nI p)), some (.int 31), some (.int 4), some (.int 1)] [.int (-71)] T I J R
  refine aw_bipush (v := (-71)) hC dL_refuses_1737 (by decide) ?_
  refine aw_icmp_ne (tgt := 1797) hC dL_refuses_1739 (by decide) (fun z9 => absurd z9 (by decide)) (fun _ => ?_)
  exact kk h0
set_option maxRecDepth 100000 in
theorem rf_1_P {X : aX} (hC : aC yL_refuses cL_refuses 24 (some .boolean) 10 230 1000 66000 [] X) {m : aI} {n q g r p : Nat} {sv pv lv : Int32} (hn : iN m 44 0 = n) (hq : iN m 44 14 = q) (hg : iN m 44 20 = g) (hr : iN m 44 25 = r) (hp : iN m 44 36 = p) (hb : n ≤ 30 ∧ q ≤ 8 ∧ g ≤ 4 ∧ r ≤ 60 ∧ p ≤ 40 ∧ iN m 63 0 ≤ 8 ∧ iN m 79 0 ≤ 128) (hz : p ≠ 0) {T : List aT} {I : aI} {J : aJ} {R : aR} (h0 : GX T I J R m) (kk : ∀ {T I J R}, GX T I J R m → AW X 456 30400 1793 [some (.ref 0), some (.int (nI n)), some (.int (nI q)), some (.int (nI g)), some (.int (nI p)), some (.int sv), some (.int (nI r)), some (.int pv), some (.int lv), some (.int 2147483647), some (.int 1), some (.int (-2147483648)), some (.int 3), some (.int 4), some (.int 6), some (.int 10), some (.int 64), some (.int (nI (16 * g))), some (.int (nI g)), some (.int (nI r)), some (.int (nI p)), some (.int 31), some (.int 4), some (.int 1)] [] T I J R) : AW X 450 30000 1747 [some (.ref 0), some (.int (nI n)), some (.int (nI q)), some (.int (nI g)), some (.int (nI p)), some (.int sv), some (.int (nI r)), some (.int pv), some (.int lv), some (.int 2147483647), some (.int 1), some (.int (-2147483648)), some (.int 3), some (.int 4), some (.int 6), some (.int 10), some (.int 64), some (.int (nI (16 * g))), some (.int (nI g)), some (.int (nI r)), some (.int (nI p)), some (.int 31), some (.int 4), some (.int 1)] [] T I J R := by
  refine aw_aload_n hC dL_refuses_1747 rfl ?_
  refine aw_bipush (v := 22) hC dL_refuses_1748 (by decide) ?_
  refine aw_iconst (v := 0) hC dL_refuses_1750 (by decide) ?_
  refine aw_iload hC dL_refuses_1751 rfl ?_
  refine aw_iconst (v := 1) hC dL_refuses_1753 (by decide) ?_
  refine aw_icmp_ne (tgt := 1763) hC dL_refuses_1754 (by decide) (fun z9 => absurd z9 (by decide)) (fun _ => ?_)
  refine aw_sipush (v := 128) hC dL_refuses_1757 (by decide) ?_
  refine aw_goto (tgt := 1765) hC dL_refuses_1760 (by decide) ?_
  refine aw_iconst (v := 0) hC dL_refuses_1765 (by decide) ?_
  refine aw_iconst (v := 0) hC dL_refuses_1766 (by decide) ?_
  refine aw_iconst (v := 0) hC dL_refuses_1767 (by decide) ?_
  refine kL_157 hC rfl (m_L_act_22 h0 (r_action2 h0 (ri_ge (a := 128) (by show iN m 79 0 ≤ 128; omega) (by decide)))) dL_refuses_1768 rfl a_le a_le a_le a_le a_le rfl ekx (ekp (fun T I J R h0 => ?_))
  show AW X 453 30200 1771 [some (.ref 0), some (.int (nI n)), some (.int (nI q)), some (.int (nI g)), some (.int (nI p)), some (.int sv), some (.int (nI r)), some (.int pv), some (.int lv), some (.int 2147483647), some (.int 1), some (.int (-2147483648)), some (.int 3), some (.int 4), some (.int 6), some (.int 10), some (.int 64), some (.int (nI (16 * g))), some (.int (nI g)), some (.int (nI r)), some (.int (nI p)), some (.int 31), some (.int 4), some (.int 1)] [.int (-71)] T I J R
  refine aw_bipush (v := (-71)) hC dL_refuses_1771 (by decide) ?_
  refine aw_icmp_ne (tgt := 1797) hC dL_refuses_1773 (by decide) (fun z9 => absurd z9 (by decide)) (fun _ => ?_)
  refine aw_aload_n hC dL_refuses_1776 rfl ?_
  refine aw_bipush (v := 23) hC dL_refuses_1777 (by decide) ?_
  refine aw_iconst (v := 0) hC dL_refuses_1779 (by decide) ?_
  refine aw_iload hC dL_refuses_1780 rfl ?_
  refine aw_iconst (v := 0) hC dL_refuses_1782 (by decide) ?_
  refine aw_iconst (v := 0) hC dL_refuses_1783 (by decide) ?_
  refine aw_iconst (v := 0) hC dL_refuses_1784 (by decide) ?_
  refine kL_157 hC rfl (m_L_act_23 h0 (r_approve2 h0 (by decide))) dL_refuses_1785 rfl a_le a_le a_le a_le a_le rfl ekx (ekp (fun T I J R h0 => ?_))
  show AW X 456 30400 1788 [some (.ref 0), some (.int (nI n)), some (.int (nI q)), some (.int (nI g)), some (.int (nI p)), some (.int sv), some (.int (nI r)), some (.int pv), some (.int lv), some (.int 2147483647), some (.int 1), some (.int (-2147483648)), some (.int 3), some (.int 4), some (.int 6), some (.int 10), some (.int 64), some (.int (nI (16 * g))), some (.int (nI g)), some (.int (nI r)), some (.int (nI p)), some (.int 31), some (.int 4), some (.int 1)] [.int (-71)] T I J R
  refine aw_bipush (v := (-71)) hC dL_refuses_1788 (by decide) ?_
  refine aw_icmp_ne (tgt := 1797) hC dL_refuses_1790 (by decide) (fun z9 => absurd z9 (by decide)) (fun _ => ?_)
  exact kk h0
set_option maxRecDepth 100000 in
theorem rf_1_E {X : aX} (hC : aC yL_refuses cL_refuses 24 (some .boolean) 10 230 1000 66000 [] X) {m : aI} {n q g r p : Nat} {sv pv lv : Int32} (hn : iN m 44 0 = n) (hq : iN m 44 14 = q) (hg : iN m 44 20 = g) (hr : iN m 44 25 = r) (hp : iN m 44 36 = p) (hb : n ≤ 30 ∧ q ≤ 8 ∧ g ≤ 4 ∧ r ≤ 60 ∧ p ≤ 40 ∧ iN m 63 0 ≤ 8 ∧ iN m 79 0 ≤ 128) {T : List aT} {I : aI} {J : aJ} {R : aR} (h0 : GX T I J R m) (kk : ∀ {T I J R}, GX T I J R m → AW X 456 30400 31 [some (.ref 0), some (.int (nI n)), some (.int (nI q)), some (.int (nI g)), some (.int (nI p)), some (.int sv), some (.int (nI r)), some (.int pv), some (.int lv), some (.int 2147483647), some (.int 2), some (.int (-2147483648)), some (.int 3), some (.int 4), some (.int 6), some (.int 10), some (.int 64), some (.int (nI (16 * g))), some (.int (nI g)), some (.int (nI r)), some (.int (nI p)), some (.int 31), some (.int 4), some (.int 1)] [] T I J R) : AW X 456 30400 1793 [some (.ref 0), some (.int (nI n)), some (.int (nI q)), some (.int (nI g)), some (.int (nI p)), some (.int sv), some (.int (nI r)), some (.int pv), some (.int lv), some (.int 2147483647), some (.int 1), some (.int (-2147483648)), some (.int 3), some (.int 4), some (.int 6), some (.int 10), some (.int 64), some (.int (nI (16 * g))), some (.int (nI g)), some (.int (nI r)), some (.int (nI p)), some (.int 31), some (.int 4), some (.int 1)] [] T I J R := by
  refine aw_iconst (v := 1) hC dL_refuses_1793 (by decide) ?_
  refine aw_goto (tgt := 1798) hC dL_refuses_1794 (by decide) ?_
  refine aw_istore (L2 := [some (.ref 0), some (.int (nI n)), some (.int (nI q)), some (.int (nI g)), some (.int (nI p)), some (.int sv), some (.int (nI r)), some (.int pv), some (.int lv), some (.int 2147483647), some (.int 1), some (.int (-2147483648)), some (.int 3), some (.int 4), some (.int 6), some (.int 10), some (.int 64), some (.int (nI (16 * g))), some (.int (nI g)), some (.int (nI r)), some (.int (nI p)), some (.int 31), some (.int 4), some (.int 1)]) hC dL_refuses_1798 (by decide) rfl ?_
  refine aw_iload hC dL_refuses_1800 rfl ?_
  refine aw_if_ne (tgt := 1807) hC dL_refuses_1802 (by decide) (fun _ => ?_) (fun z9 => absurd z9 (by decide))
  refine aw_iinc (v := 2) (L2 := [some (.ref 0), some (.int (nI n)), some (.int (nI q)), some (.int (nI g)), some (.int (nI p)), some (.int sv), some (.int (nI r)), some (.int pv), some (.int lv), some (.int 2147483647), some (.int 2), some (.int (-2147483648)), some (.int 3), some (.int 4), some (.int 6), some (.int 10), some (.int 64), some (.int (nI (16 * g))), some (.int (nI g)), some (.int (nI r)), some (.int (nI p)), some (.int 31), some (.int 4), some (.int 1)]) hC dL_refuses_1807 rfl (by decide) (by decide) rfl ?_
  refine aw_goto (tgt := 31) hC dL_refuses_1810 (by decide) ?_
  exact kk h0
theorem rf_1_3 {X : aX} (hC : aC yL_refuses cL_refuses 24 (some .boolean) 10 230 1000 66000 [] X) {m : aI} {n q g r p : Nat} {sv pv lv : Int32} (hn : iN m 44 0 = n) (hq : iN m 44 14 = q) (hg : iN m 44 20 = g) (hr : iN m 44 25 = r) (hp : iN m 44 36 = p) (hb : n ≤ 30 ∧ q ≤ 8 ∧ g ≤ 4 ∧ r ≤ 60 ∧ p ≤ 40 ∧ iN m 63 0 ≤ 8 ∧ iN m 79 0 ≤ 128) {T : List aT} {I : aI} {J : aJ} {R : aR} (h0 : GX T I J R m) (kk : ∀ {T I J R}, GX T I J R m → AW X 456 30400 31 [some (.ref 0), some (.int (nI n)), some (.int (nI q)), some (.int (nI g)), some (.int (nI p)), some (.int sv), some (.int (nI r)), some (.int pv), some (.int lv), some (.int 2147483647), some (.int 2), some (.int (-2147483648)), some (.int 3), some (.int 4), some (.int 6), some (.int 10), some (.int 64), some (.int (nI (16 * g))), some (.int (nI g)), some (.int (nI r)), some (.int (nI p)), some (.int 31), some (.int 4), some (.int 1)] [] T I J R) : AW X 450 30000 1742 [some (.ref 0), some (.int (nI n)), some (.int (nI q)), some (.int (nI g)), some (.int (nI p)), some (.int sv), some (.int (nI r)), some (.int pv), some (.int lv), some (.int 2147483647), some (.int 1), some (.int (-2147483648)), some (.int 3), some (.int 4), some (.int 6), some (.int 10), some (.int 64), some (.int (nI (16 * g))), some (.int (nI g)), some (.int (nI r)), some (.int (nI p)), some (.int 31), some (.int 4), some (.int 1)] [] T I J R := by
  refine aw_iload hC dL_refuses_1742 rfl ?_
  by_cases hz : p = 0
  · refine aw_if_eq (tgt := 1793) hC dL_refuses_1744 (by decide) (fun _ => ?_) (fun z9 => absurd (by rw [hz]; rfl) z9)
    show AW X 450 30000 1793 [some (.ref 0), some (.int (nI n)), some (.int (nI q)), some (.int (nI g)), some (.int (nI p)), some (.int sv), some (.int (nI r)), some (.int pv), some (.int lv), some (.int 2147483647), some (.int 1), some (.int (-2147483648)), some (.int 3), some (.int 4), some (.int 6), some (.int 10), some (.int 64), some (.int (nI (16 * g))), some (.int (nI g)), some (.int (nI r)), some (.int (nI p)), some (.int 31), some (.int 4), some (.int 1)] [] T I J R
    exact AW.widen (c2 := 456) (s2 := 30400) a_le a_le (rf_1_E hC hn hq hg hr hp hb h0 kk)
  · refine aw_if_eq (tgt := 1793) hC dL_refuses_1744 (by decide) (fun z9 => absurd z9 (ri_n0 hz (by omega))) (fun _ => ?_)
    exact rf_1_P hC hn hq hg hr hp hb hz h0 (fun h0 => rf_1_E hC hn hq hg hr hp hb h0 kk)
theorem rf_1_2 {X : aX} (hC : aC yL_refuses cL_refuses 24 (some .boolean) 10 230 1000 66000 [] X) {m : aI} {n q g r p : Nat} {sv pv lv : Int32} (hn : iN m 44 0 = n) (hq : iN m 44 14 = q) (hg : iN m 44 20 = g) (hr : iN m 44 25 = r) (hp : iN m 44 36 = p) (hb : n ≤ 30 ∧ q ≤ 8 ∧ g ≤ 4 ∧ r ≤ 60 ∧ p ≤ 40 ∧ iN m 63 0 ≤ 8 ∧ iN m 79 0 ≤ 128) {T : List aT} {I : aI} {J : aJ} {R : aR} (h0 : GX T I J R m) (kk : ∀ {T I J R}, GX T I J R m → AW X 456 30400 31 [some (.ref 0), some (.int (nI n)), some (.int (nI q)), some (.int (nI g)), some (.int (nI p)), some (.int sv), some (.int (nI r)), some (.int pv), some (.int lv), some (.int 2147483647), some (.int 2), some (.int (-2147483648)), some (.int 3), some (.int 4), some (.int 6), some (.int 10), some (.int 64), some (.int (nI (16 * g))), some (.int (nI g)), some (.int (nI r)), some (.int (nI p)), some (.int 31), some (.int 4), some (.int 1)] [] T I J R) : AW X 426 28400 1559 [some (.ref 0), some (.int (nI n)), some (.int (nI q)), some (.int (nI g)), some (.int (nI p)), some (.int sv), some (.int (nI r)), some (.int pv), some (.int lv), some (.int 2147483647), some (.int 1), some (.int (-2147483648)), some (.int 3), some (.int 4), some (.int 6), some (.int 10), some (.int 64), some (.int (nI (16 * g))), some (.int (nI g)), some (.int (nI r)), some (.int (nI p)), some (.int 31), some (.int 4), some (.int 1)] [] T I J R := by
  refine aw_iload_n hC dL_refuses_1559 rfl ?_
  by_cases hz : g = 0
  · refine aw_if_eq (tgt := 1742) hC dL_refuses_1560 (by decide) (fun _ => ?_) (fun z9 => absurd (by rw [hz]; rfl) z9)
    show AW X 426 28400 1742 [some (.ref 0), some (.int (nI n)), some (.int (nI q)), some (.int (nI g)), some (.int (nI p)), some (.int sv), some (.int (nI r)), some (.int pv), some (.int lv), some (.int 2147483647), some (.int 1), some (.int (-2147483648)), some (.int 3), some (.int 4), some (.int 6), some (.int 10), some (.int 64), some (.int (nI (16 * g))), some (.int (nI g)), some (.int (nI r)), some (.int (nI p)), some (.int 31), some (.int 4), some (.int 1)] [] T I J R
    exact AW.widen (c2 := 450) (s2 := 30000) a_le a_le (rf_1_3 hC hn hq hg hr hp hb h0 kk)
  · refine aw_if_eq (tgt := 1742) hC dL_refuses_1560 (by decide) (fun z9 => absurd z9 (ri_n0 hz (by omega))) (fun _ => ?_)
    exact rf_1_G hC hn hq hg hr hp hb hz h0 (fun h0 => rf_1_3 hC hn hq hg hr hp hb h0 kk)
theorem rf_1_1 {X : aX} (hC : aC yL_refuses cL_refuses 24 (some .boolean) 10 230 1000 66000 [] X) {m : aI} {n q g r p : Nat} {sv pv lv : Int32} (hn : iN m 44 0 = n) (hq : iN m 44 14 = q) (hg : iN m 44 20 = g) (hr : iN m 44 25 = r) (hp : iN m 44 36 = p) (hb : n ≤ 30 ∧ q ≤ 8 ∧ g ≤ 4 ∧ r ≤ 60 ∧ p ≤ 40 ∧ iN m 63 0 ≤ 8 ∧ iN m 79 0 ≤ 128) {T : List aT} {I : aI} {J : aJ} {R : aR} (h0 : GX T I J R m) (kk : ∀ {T I J R}, GX T I J R m → AW X 456 30400 31 [some (.ref 0), some (.int (nI n)), some (.int (nI q)), some (.int (nI g)), some (.int (nI p)), some (.int sv), some (.int (nI r)), some (.int pv), some (.int lv), some (.int 2147483647), some (.int 2), some (.int (-2147483648)), some (.int 3), some (.int 4), some (.int 6), some (.int 10), some (.int 64), some (.int (nI (16 * g))), some (.int (nI g)), some (.int (nI r)), some (.int (nI p)), some (.int 31), some (.int 4), some (.int 1)] [] T I J R) : AW X 417 27800 1491 [some (.ref 0), some (.int (nI n)), some (.int (nI q)), some (.int (nI g)), some (.int (nI p)), some (.int sv), some (.int (nI r)), some (.int pv), some (.int lv), some (.int 2147483647), some (.int 1), some (.int (-2147483648)), some (.int 3), some (.int 4), some (.int 6), some (.int 10), some (.int 64), some (.int (nI (16 * g))), some (.int (nI g)), some (.int (nI r)), some (.int (nI p)), some (.int 31), some (.int 4), some (.int 1)] [] T I J R := by
  refine aw_iload hC dL_refuses_1491 rfl ?_
  by_cases hz : r = 0
  · refine aw_if_eq (tgt := 1559) hC dL_refuses_1493 (by decide) (fun _ => ?_) (fun z9 => absurd (by rw [hz]; rfl) z9)
    show AW X 417 27800 1559 [some (.ref 0), some (.int (nI n)), some (.int (nI q)), some (.int (nI g)), some (.int (nI p)), some (.int sv), some (.int (nI r)), some (.int pv), some (.int lv), some (.int 2147483647), some (.int 1), some (.int (-2147483648)), some (.int 3), some (.int 4), some (.int 6), some (.int 10), some (.int 64), some (.int (nI (16 * g))), some (.int (nI g)), some (.int (nI r)), some (.int (nI p)), some (.int 31), some (.int 4), some (.int 1)] [] T I J R
    exact AW.widen (c2 := 426) (s2 := 28400) a_le a_le (rf_1_2 hC hn hq hg hr hp hb h0 kk)
  · refine aw_if_eq (tgt := 1559) hC dL_refuses_1493 (by decide) (fun z9 => absurd z9 (ri_n0 hz (by omega))) (fun _ => ?_)
    exact rf_1_R hC hn hq hg hr hp hb hz h0 (fun h0 => rf_1_2 hC hn hq hg hr hp hb h0 kk)
theorem rf_1 {X : aX} (hC : aC yL_refuses cL_refuses 24 (some .boolean) 10 230 1000 66000 [] X) {m : aI} {n q g r p : Nat} {sv pv lv : Int32} (hn : iN m 44 0 = n) (hq : iN m 44 14 = q) (hg : iN m 44 20 = g) (hr : iN m 44 25 = r) (hp : iN m 44 36 = p) (hb : n ≤ 30 ∧ q ≤ 8 ∧ g ≤ 4 ∧ r ≤ 60 ∧ p ≤ 40 ∧ iN m 63 0 ≤ 8 ∧ iN m 79 0 ≤ 128) {T : List aT} {I : aI} {J : aJ} {R : aR} (h0 : GX T I J R m) (kk : ∀ {T I J R}, GX T I J R m → AW X 456 30400 31 [some (.ref 0), some (.int (nI n)), some (.int (nI q)), some (.int (nI g)), some (.int (nI p)), some (.int sv), some (.int (nI r)), some (.int pv), some (.int lv), some (.int 2147483647), some (.int 2), some (.int (-2147483648)), some (.int 3), some (.int 4), some (.int 6), some (.int 10), some (.int 64), some (.int (nI (16 * g))), some (.int (nI g)), some (.int (nI r)), some (.int (nI p)), some (.int 31), some (.int 4), some (.int 1)] [] T I J R) : AW X 234 15600 31 [some (.ref 0), some (.int (nI n)), some (.int (nI q)), some (.int (nI g)), some (.int (nI p)), some (.int sv), some (.int (nI r)), some (.int pv), some (.int lv), some (.int 2147483647), some (.int 1), some (.int (-1)), some (.int (-1)), some (.int (-1)), some (.int (-1)), some (.int (-1)), some (.int (-1)), some (.int (-1)), some (.int (-1)), some (.int (-1)), some (.int (-1)), some (.int 0), some (.int (-2)), some (.int 1)] [] T I J R := rf_1_A hC hn hq hg hr hp hb h0 (fun h0 => rf_1_1 hC hn hq hg hr hp hb h0 kk)
