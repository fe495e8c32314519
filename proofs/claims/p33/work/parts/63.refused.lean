theorem lg_c0 {x : Int64} : lg_cmp x x = 0 := by
  unfold lg_cmp
  rw [if_neg (fun h => Int64.lt_irrefl h), if_pos rfl]
theorem day_pos {s : SS} {nm nc nr k : Nat} (hJ : Js s nm nc nr k) (h : ¬ tn (s 0 0) = 0) : 0 < s 0 0 := by
  have h1 := (Nn.z).lt hJ.1.2.1.1
  rw [tn_0] at h1
  exact h1.mpr (by omega)
theorem dd_lt {x : Int32} {D a : Nat} (h : x = nI D) (hD : D ≤ 5000) (ha : a < 1000) : ¬ x + 1 ≤ nI D - nI a := by
  rw [h, nI_1, Int32.le_iff_toInt_le, nI_toInt (by omega), pk_sub_toInt (by omega) (by omega)]
  omega
theorem ocn {z : Int32} {n a : Nat} (h : z = nI n) (hn : n < 500) (ha : a < 500) : ¬ ((0 : Int32) ≤ nI (n + a) ∧ nI (n + a) ≤ z - 1) := fun q => by
  have h2 := q.2
  rw [h, ltc (by omega), nI_ltI (by omega) (by omega)] at h2
  omega
theorem ng35 {a : Nat} (ha : a < 1000) : (0 : Int32) - nI a ≤ 40 - 5 := by
  rw [show (0 : Int32) - nI a = -(nI a) from by rw [Int32.sub_eq_add_neg, Int32.zero_add]]
  rw [Int32.le_iff_toInt_le, Int32.toInt_neg, nI_toInt (by omega)]
  have h0 : ((40 : Int32) - 5).toInt = 35 := by decide
  rw [h0, Int.bmod_eq_of_le (by omega) (by omega)]
  omega

theorem c_L_bars0 {l : Launch} {G : GG} {w : va_W} {o : Nat} {what a b c cd : Int32} (hst : l.stackTraces = false) (hG : GOK G) (hcd : ¬ cd = -1793000000) (hA : ActM l G w [.ref o, .int what, .int a, .int b, .int c, .int 1] (RI (.int cd) w True)) : Mth l yL_bars cL_bars 5 (Option.some Jvm.ClassFile.FieldType.boolean) r_L_bars G w [.ref o, .int what, .int a, .int b, .int c] (RI (.int 0) w True) nX := by
  refine mth_of rfl (Nat.le_of_ble_eq_true rfl) hst hG (fun X hX C0 => ?_)
  subst hX
  have C : Cx X G cL_bars 5 RL (Option.some Jvm.ClassFile.FieldType.boolean) r_L_bars "bars" [] := C0
  clear C0
  show V X G 5 w 0 0 _ 0 [(0, .ref o), (1, .int what), (2, .int a), (3, .int b), (4, .int c)] []
  refine v_aload_n C dL_bars_0 rfl 0 rfl ?_
  refine v_iload_n C dL_bars_1 rfl 1 rfl ?_
  refine v_iload_n C dL_bars_2 rfl 2 rfl ?_
  refine v_iload_n C dL_bars_3 rfl 3 rfl ?_
  refine v_iload C dL_bars_4 rfl 4 rfl ?_
  refine v_iconst C (v := 1) dL_bars_6 rfl rfl ?_
  refine l_act C hA rfl (by decide) (by decide) dL_bars_7 rfl (fun v w1 hv => ?_)
  obtain ⟨rfl, rfl, -⟩ := hv
  show V X G 5 _ _ _ _ _ _ [.int cd]
  refine v_ldc C (v := -1793000000) dL_bars_10 rfl N_L_114 ?_
  refine v_icmp_ne C (t := 19) dL_bars_12 rfl rfl (fun _ => ?_) (fun h => absurd h hcd)
  refine v_iconst C (v := 0) dL_bars_19 rfl rfl ?_
  exact v_zret C rfl (by decide) (by decide) dL_bars_20 ⟨rfl, rfl, trivial⟩
theorem l_bars0 {X : XS} {G : GG} {cc : ByteArray} {nL : Nat} {ret : Option FieldType} {rm : Room} {nme : String} {tb : List ExceptionTableEntry} {w : va_W} {k n : Nat} {Q : State → Prop} {pc q : Nat} {lv : List (Nat × Value)} {st : List Value} (C : Cx X G cc nL RL ret rm nme tb) {o : Nat} {what a b c cd : Int32} (hcd : ¬ cd = -1793000000) (hA : ActM X.2.1 G w [.ref o, .int what, .int a, .int b, .int c, .int 1] (RI (.int cd) w True)) (k1 n1 : Nat) (hk : (k + 7 ≤ k1 ∧ k1 ≤ rm.cells) ∧ n + 119 ≤ n1 ∧ n1 ≤ rm.slots) (hf : (Nat.ble 12 rm.frames && (Nat.ble 224 rm.locals && Nat.ble ((st.map fun v => v.category).sum) 8)) = true) (d : decode cc pc = .ok (.invokestatic 149, 3)) (hq : pc + 3 = q) (kk : V X G nL w k1 n1 Q q lv (.int 0 :: st)) : V X G nL w k n Q pc lv (.int c :: .int b :: .int a :: .int what :: .ref o :: st) := by
  simp only [Bool.and_eq_true, Nat.ble_eq] at hf
  refine v_invS C (As := [.ref o, .int what, .int a, .int b, .int c]) L_L_149 (c_L_bars0 C.2.2.2.2.2.1 C.2.2.2.2.2.2.2.2.2.1 hcd hA) rfl rfl ⟨hf.1, hf.2.1⟩ ⟨Nat.le_trans hk.1.1 hk.1.2, Nat.le_trans hk.2.1 hk.2.2⟩ hf.2.2 d hq kx_no (fun v w1 h => ?_)
  obtain ⟨rfl, rfl, -⟩ := h
  exact xx_mono hk.1.1 hk.2.1 kk

abbrev r_L_isRefused : Room := { frames := 12, cells := 5563, slots := 75035, locals := 224 }
theorem sg_refL_A {X : XS} {G : GG} {w : va_W} {Q : State → Prop} {r : Nat → Nat} {s t : SS} {nm nc nr k B D : Nat} {X0 : Nat} {ce mi cl fo : Int32} (C : Cx X G cL_isRefused 14 RL (Option.some Jvm.ClassFile.FieldType.boolean) r_L_isRefused "isRefused" []) (hW : Wd G r s t nm nc nr w) (hJ : Js s nm nc nr k) (hMi : MiOK G) (hk : k ≤ 131) (hT : K9 s t nm nc nr k) (hX : X0 < 2 ^ 31) (hlow : X0 % 2 = 0) (hce : ¬ ((0 : Int32) ≤ ce ∧ ce ≤ 39)) (hmi : ¬ ((0 : Int32) ≤ mi ∧ mi ≤ s 12 0 - 1)) (hcl : ¬ ((0 : Int32) ≤ cl ∧ cl ≤ s 21 0 - 1)) (hfo : ¬ ((0 : Int32) ≤ fo ∧ fo ≤ 3)) (hKc : B + 266 ≤ r_L_isRefused.cells) (hKn : D + 4522 ≤ r_L_isRefused.slots) (kk : V X G 14 w (B + 266) (D + 4522) Q 868 [(0, .ref (r 4)), (1, .ref (r 0)), (2, .int (nI (X0))), (3, .int (bI (X0 % 2 = 0))), (4, .int (ce)), (5, .int (mi)), (6, .int (cl)), (7, .int (fo)), (8, .long (allF s nm nc nr)), (10, .int (1)), (11, .int (nI (0)))] []) : V X G 14 w B D Q 108 [(8, .long (allF s nm nc nr)), (7, .int (fo)), (6, .int (cl)), (5, .int (mi)), (4, .int (ce)), (3, .int (bI (X0 % 2 = 0))), (0, .ref (r 4)), (1, .ref (r 0)), (2, .int (nI (X0)))] [] := by
  have hst : X.2.1.stackTraces = false := C.2.2.2.2.2.1
  have hG : GOK G := C.2.2.2.2.2.2.2.2.2.1
  have hm := hJ.1.1
  refine v_aload_n C dL_isRefused_108 rfl 6 rfl ?_
  refine v_iconst C (v := 0) dL_isRefused_109 rfl rfl ?_
  refine v_iload C dL_isRefused_110 rfl 4 rfl ?_
  refine v_iconst C (v := (-1)) dL_isRefused_112 rfl rfl ?_
  refine v_bipush C (v := 99) dL_isRefused_113 rfl rfl ?_
  refine l_no C (ax_ground (s := s) (nm := nm) (nc := nc) (nr := nr) hst hG hW hJ.bs (e := 1) (cd := -1791000000) (e3_1 hce) (by decide) xL3_1) (B + 7) (D + 119) ⟨⟨Nat.le_refl _, bl hKc (Nat.le_of_ble_eq_true rfl)⟩, Nat.le_refl _, bl hKn (Nat.le_of_ble_eq_true rfl)⟩ rfl dL_isRefused_115 rfl ?_
  refine v_if_eq C (t := 862) dL_isRefused_118 rfl rfl (fun h => absurd h (by decide)) (fun _ => ?_)
  refine v_aload_n C dL_isRefused_121 rfl 6 rfl ?_
  refine v_iconst C (v := 0) dL_isRefused_122 rfl rfl ?_
  refine v_iload_n C dL_isRefused_123 rfl 8 rfl ?_
  refine v_bipush C (v := 40) dL_isRefused_124 rfl rfl ?_
  refine v_iremN C X0 40 rfl rfl (by omega) (by omega) (by omega) dL_isRefused_126 rfl ?_
  refine v_iload_n C dL_isRefused_127 rfl 5 rfl ?_
  refine v_ifB_eq C (t := 140) dL_isRefused_128 rfl rfl (fun h => absurd hlow h) (fun _ => ?_)
  refine v_iconst C (v := (-1)) dL_isRefused_131 rfl rfl ?_
  refine v_iload_n C dL_isRefused_132 rfl 8 rfl ?_
  refine v_bipush C (v := 30) dL_isRefused_133 rfl rfl ?_
  refine v_iremN C X0 30 rfl rfl (by omega) (by omega) (by omega) dL_isRefused_135 rfl ?_
  refine v_isub C dL_isRefused_136 rfl ?_
  refine v_goto C (q := 142) dL_isRefused_137 rfl ?_
  refine v_iconst C (v := 0) dL_isRefused_142 rfl rfl ?_
  refine l_off C (ax_ground (s := s) (nm := nm) (nc := nc) (nr := nr) hst hG hW hJ.bs (e := 2) (cd := -1792000000) (e3_2 (cell_in (by omega)) (fun h => ng (by omega) (h.1.1))) (by decide) xL3_2) (B + 14) (D + 238) ⟨⟨Nat.le_refl _, bl hKc (Nat.le_of_ble_eq_true rfl)⟩, Nat.le_refl _, bl hKn (Nat.le_of_ble_eq_true rfl)⟩ rfl dL_isRefused_143 rfl ?_
  refine v_if_eq C (t := 862) dL_isRefused_146 rfl rfl (fun h => absurd h (by decide)) (fun _ => ?_)
  refine v_aload_n C dL_isRefused_149 rfl 6 rfl ?_
  refine v_iconst C (v := 0) dL_isRefused_150 rfl rfl ?_
  refine v_iload_n C dL_isRefused_151 rfl 8 rfl ?_
  refine v_bipush C (v := 40) dL_isRefused_152 rfl rfl ?_
  refine v_iremN C X0 40 rfl rfl (by omega) (by omega) (by omega) dL_isRefused_154 rfl ?_
  refine v_iconst C (v := 0) dL_isRefused_155 rfl rfl ?_
  refine v_iload_n C dL_isRefused_156 rfl 5 rfl ?_
  refine v_ifB_eq C (t := 164) dL_isRefused_157 rfl rfl (fun h => absurd hlow h) (fun _ => ?_)
  refine v_iconst C (v := (-1)) dL_isRefused_160 rfl rfl ?_
  refine v_goto C (q := 171) dL_isRefused_161 rfl ?_
  refine l_off C (ax_ground (s := s) (nm := nm) (nc := nc) (nr := nr) hst hG hW hJ.bs (e := 2) (cd := -1792000000) (e3_2 (cell_in (by omega)) (by decide)) (by decide) xL3_2) (B + 21) (D + 357) ⟨⟨Nat.le_refl _, bl hKc (Nat.le_of_ble_eq_true rfl)⟩, Nat.le_refl _, bl hKn (Nat.le_of_ble_eq_true rfl)⟩ rfl dL_isRefused_171 rfl ?_
  refine v_if_eq C (t := 862) dL_isRefused_174 rfl rfl (fun h => absurd h (by decide)) (fun _ => ?_)
  refine v_aload_n C dL_isRefused_177 rfl 6 rfl ?_
  refine v_iconst C (v := 1) dL_isRefused_178 rfl rfl ?_
  refine v_iload_n C dL_isRefused_179 rfl 5 rfl ?_
  refine v_ifB_eq C (t := 192) dL_isRefused_180 rfl rfl (fun h => absurd hlow h) (fun _ => ?_)
  refine v_iconst C (v := (-1)) dL_isRefused_183 rfl rfl ?_
  refine v_iload_n C dL_isRefused_184 rfl 8 rfl ?_
  refine v_bipush C (v := 30) dL_isRefused_185 rfl rfl ?_
  refine v_iremN C X0 30 rfl rfl (by omega) (by omega) (by omega) dL_isRefused_187 rfl ?_
  refine v_isub C dL_isRefused_188 rfl ?_
  refine v_goto C (q := 195) dL_isRefused_189 rfl ?_
  refine v_iconst C (v := 0) dL_isRefused_195 rfl rfl ?_
  refine v_iconst C (v := 0) dL_isRefused_196 rfl rfl ?_
  refine l_off C (ax_flow (s := s) (nm := nm) (nc := nc) (nr := nr) hst hG hW hJ.bs (e := 1) (cd := -1792000000) (e1_1 (fun h => ng (by omega) (h.1))) (by decide) xLA_1) (B + 28) (D + 476) ⟨⟨Nat.le_refl _, bl hKc (Nat.le_of_ble_eq_true rfl)⟩, Nat.le_refl _, bl hKn (Nat.le_of_ble_eq_true rfl)⟩ rfl dL_isRefused_197 rfl ?_
  refine v_if_eq C (t := 862) dL_isRefused_200 rfl rfl (fun h => absurd h (by decide)) (fun _ => ?_)
  refine v_aload_n C dL_isRefused_203 rfl 6 rfl ?_
  refine v_iconst C (v := 2) dL_isRefused_204 rfl rfl ?_
  refine v_iload_n C dL_isRefused_205 rfl 5 rfl ?_
  refine v_ifB_eq C (t := 213) dL_isRefused_206 rfl rfl (fun h => absurd hlow h) (fun _ => ?_)
  refine v_iconst C (v := (-1)) dL_isRefused_209 rfl rfl ?_
  refine v_goto C (q := 221) dL_isRefused_210 rfl ?_
  refine v_iconst C (v := 0) dL_isRefused_221 rfl rfl ?_
  refine v_iconst C (v := 0) dL_isRefused_222 rfl rfl ?_
  refine l_off C (ax_miner (s := s) (nm := nm) (nc := nc) (nr := nr) hst hG hMi hW hJ.bs (e := 1) (cd := -1792000000) (e4_1 (by decide)) (by decide) xLAS_1) (B + 35) (D + 595) ⟨⟨Nat.le_refl _, bl hKc (Nat.le_of_ble_eq_true rfl)⟩, Nat.le_refl _, bl hKn (Nat.le_of_ble_eq_true rfl)⟩ rfl dL_isRefused_223 rfl ?_
  refine v_if_eq C (t := 862) dL_isRefused_226 rfl rfl (fun h => absurd h (by decide)) (fun _ => ?_)
  refine v_aload_n C dL_isRefused_229 rfl 6 rfl ?_
  refine v_iconst C (v := 2) dL_isRefused_230 rfl rfl ?_
  refine v_iconst C (v := 0) dL_isRefused_231 rfl rfl ?_
  refine v_iload_n C dL_isRefused_232 rfl 5 rfl ?_
  refine v_ifB_eq C (t := 245) dL_isRefused_233 rfl rfl (fun h => absurd hlow h) (fun _ => ?_)
  refine v_iconst C (v := (-1)) dL_isRefused_236 rfl rfl ?_
  refine v_iload_n C dL_isRefused_237 rfl 8 rfl ?_
  refine v_bipush C (v := 30) dL_isRefused_238 rfl rfl ?_
  refine v_iremN C X0 30 rfl rfl (by omega) (by omega) (by omega) dL_isRefused_240 rfl ?_
  refine v_isub C dL_isRefused_241 rfl ?_
  refine v_goto C (q := 247) dL_isRefused_242 rfl ?_
  refine v_iconst C (v := 0) dL_isRefused_247 rfl rfl ?_
  refine l_off C (ax_miner (s := s) (nm := nm) (nc := nc) (nr := nr) hst hG hMi hW hJ.bs (e := 1) (cd := -1792000000) (e4_1 (fun h => ng (by omega) (h.2.1))) (by decide) xLAS_1) (B + 42) (D + 714) ⟨⟨Nat.le_refl _, bl hKc (Nat.le_of_ble_eq_true rfl)⟩, Nat.le_refl _, bl hKn (Nat.le_of_ble_eq_true rfl)⟩ rfl dL_isRefused_248 rfl ?_
  refine v_if_eq C (t := 862) dL_isRefused_251 rfl rfl (fun h => absurd h (by decide)) (fun _ => ?_)
  refine v_aload_n C dL_isRefused_254 rfl 6 rfl ?_
  refine v_iconst C (v := 3) dL_isRefused_255 rfl rfl ?_
  refine v_iload_n C dL_isRefused_256 rfl 5 rfl ?_
  refine v_ifB_eq C (t := 269) dL_isRefused_257 rfl rfl (fun h => absurd hlow h) (fun _ => ?_)
  refine v_iconst C (v := 0) dL_isRefused_260 rfl rfl ?_
  refine v_iload_n C dL_isRefused_261 rfl 8 rfl ?_
  refine v_bipush C (v := 30) dL_isRefused_262 rfl rfl ?_
  refine v_iremN C X0 30 rfl rfl (by omega) (by omega) (by omega) dL_isRefused_264 rfl ?_
  refine v_isub C dL_isRefused_265 rfl ?_
  refine v_goto C (q := 272) dL_isRefused_266 rfl ?_
  refine v_iconst C (v := 0) dL_isRefused_272 rfl rfl ?_
  refine v_iconst C (v := 0) dL_isRefused_273 rfl rfl ?_
  refine l_off C (ax_pass (s := s) (nm := nm) (nc := nc) (nr := nr) hst hG hW hJ.bs (e := 1) (cd := -1792000000) (e4_1 (fun h => ng0 (by omega) (h.1))) (by decide) xLAS_1) (B + 49) (D + 833) ⟨⟨Nat.le_refl _, bl hKc (Nat.le_of_ble_eq_true rfl)⟩, Nat.le_refl _, bl hKn (Nat.le_of_ble_eq_true rfl)⟩ rfl dL_isRefused_274 rfl ?_
  refine v_if_eq C (t := 862) dL_isRefused_277 rfl rfl (fun h => absurd h (by decide)) (fun _ => ?_)
  refine v_aload_n C dL_isRefused_280 rfl 6 rfl ?_
  refine v_iconst C (v := 4) dL_isRefused_281 rfl rfl ?_
  refine v_iload_n C dL_isRefused_282 rfl 5 rfl ?_
  refine v_ifB_eq C (t := 295) dL_isRefused_283 rfl rfl (fun h => absurd hlow h) (fun _ => ?_)
  refine v_iconst C (v := 0) dL_isRefused_286 rfl rfl ?_
  refine v_iload_n C dL_isRefused_287 rfl 8 rfl ?_
  refine v_bipush C (v := 30) dL_isRefused_288 rfl rfl ?_
  refine v_iremN C X0 30 rfl rfl (by omega) (by omega) (by omega) dL_isRefused_290 rfl ?_
  refine v_isub C dL_isRefused_291 rfl ?_
  refine v_goto C (q := 297) dL_isRefused_292 rfl ?_
  refine v_iconst C (v := 5) dL_isRefused_297 rfl rfl ?_
  refine v_iconst C (v := 0) dL_isRefused_298 rfl rfl ?_
  refine l_off C (ax_meet (s := s) (nm := nm) (nc := nc) (nr := nr) hst hG hW hJ.bs (e := 1) (cd := -1792000000) (e1_1 (fun h => ng0 (by omega) (h.1.1.1))) (by decide) xLA_1) (B + 56) (D + 952) ⟨⟨Nat.le_refl _, bl hKc (Nat.le_of_ble_eq_true rfl)⟩, Nat.le_refl _, bl hKn (Nat.le_of_ble_eq_true rfl)⟩ rfl dL_isRefused_299 rfl ?_
  refine v_if_eq C (t := 862) dL_isRefused_302 rfl rfl (fun h => absurd h (by decide)) (fun _ => ?_)
  refine v_aload_n C dL_isRefused_305 rfl 6 rfl ?_
  refine v_iconst C (v := 4) dL_isRefused_306 rfl rfl ?_
  refine v_iconst C (v := 5) dL_isRefused_307 rfl rfl ?_
  refine v_iload_n C dL_isRefused_308 rfl 5 rfl ?_
  refine v_ifB_eq C (t := 316) dL_isRefused_309 rfl rfl (fun h => absurd hlow h) (fun _ => ?_)
  refine v_iconst C (v := 0) dL_isRefused_312 rfl rfl ?_
  refine v_goto C (q := 323) dL_isRefused_313 rfl ?_
  refine v_iconst C (v := 0) dL_isRefused_323 rfl rfl ?_
  refine l_off C (ax_meet (s := s) (nm := nm) (nc := nc) (nr := nr) hst hG hW hJ.bs (e := 1) (cd := -1792000000) (e1_1 (fun h => absurd (h.1.2.1) (by decide))) (by decide) xLA_1) (B + 63) (D + 1071) ⟨⟨Nat.le_refl _, bl hKc (Nat.le_of_ble_eq_true rfl)⟩, Nat.le_refl _, bl hKn (Nat.le_of_ble_eq_true rfl)⟩ rfl dL_isRefused_324 rfl ?_
  refine v_if_eq C (t := 862) dL_isRefused_327 rfl rfl (fun h => absurd h (by decide)) (fun _ => ?_)
  refine v_aload_n C dL_isRefused_330 rfl 6 rfl ?_
  refine v_iconst C (v := 4) dL_isRefused_331 rfl rfl ?_
  refine v_iconst C (v := 5) dL_isRefused_332 rfl rfl ?_
  refine v_iconst C (v := 5) dL_isRefused_333 rfl rfl ?_
  refine v_iload_n C dL_isRefused_334 rfl 5 rfl ?_
  refine v_ifB_eq C (t := 347) dL_isRefused_335 rfl rfl (fun h => absurd hlow h) (fun _ => ?_)
  refine v_iconst C (v := (-1)) dL_isRefused_338 rfl rfl ?_
  refine v_iload_n C dL_isRefused_339 rfl 8 rfl ?_
  refine v_bipush C (v := 30) dL_isRefused_340 rfl rfl ?_
  refine v_iremN C X0 30 rfl rfl (by omega) (by omega) (by omega) dL_isRefused_342 rfl ?_
  refine v_isub C dL_isRefused_343 rfl ?_
  refine v_goto C (q := 349) dL_isRefused_344 rfl ?_
  refine l_off C (ax_meet (s := s) (nm := nm) (nc := nc) (nr := nr) hst hG hW hJ.bs (e := 1) (cd := -1792000000) (e1_1 (fun h => ng (by omega) (h.1.2.2.1.1))) (by decide) xLA_1) (B + 70) (D + 1190) ⟨⟨Nat.le_refl _, bl hKc (Nat.le_of_ble_eq_true rfl)⟩, Nat.le_refl _, bl hKn (Nat.le_of_ble_eq_true rfl)⟩ rfl dL_isRefused_349 rfl ?_
  refine v_if_eq C (t := 862) dL_isRefused_352 rfl rfl (fun h => absurd h (by decide)) (fun _ => ?_)
  refine v_aload_n C dL_isRefused_355 rfl 6 rfl ?_
  refine v_iconst C (v := 4) dL_isRefused_356 rfl rfl ?_
  refine v_iconst C (v := 5) dL_isRefused_357 rfl rfl ?_
  refine v_iconst C (v := 5) dL_isRefused_358 rfl rfl ?_
  refine v_iconst C (v := 0) dL_isRefused_359 rfl rfl ?_
  refine v_iload_n C dL_isRefused_360 rfl 5 rfl ?_
  refine v_ifB_eq C (t := 373) dL_isRefused_361 rfl rfl (fun h => absurd hlow h) (fun _ => ?_)
  refine v_iconst C (v := (-1)) dL_isRefused_364 rfl rfl ?_
  refine v_iload_n C dL_isRefused_365 rfl 8 rfl ?_
  refine v_bipush C (v := 30) dL_isRefused_366 rfl rfl ?_
  refine v_iremN C X0 30 rfl rfl (by omega) (by omega) (by omega) dL_isRefused_368 rfl ?_
  refine v_isub C dL_isRefused_369 rfl ?_
  refine v_goto C (q := 375) dL_isRefused_370 rfl ?_
  refine l_actK C (ax_meet (s := s) (nm := nm) (nc := nc) (nr := nr) hst hG hW hJ.bs (e := 1) (cd := -1792000000) (e1_1 (fun h => ng (by omega) (h.1.2.2.2.1))) (by decide) xLA_1) (B + 77) (D + 1309) ⟨⟨Nat.le_refl _, bl hKc (Nat.le_of_ble_eq_true rfl)⟩, Nat.le_refl _, bl hKn (Nat.le_of_ble_eq_true rfl)⟩ rfl dL_isRefused_375 rfl (fun v_ w_ hv1 => ?_)
  obtain ⟨rfl, hw_, -⟩ := hv1
  rw [hw_]
  show V X G 14 _ _ _ _ _ _ [.int ((-1792000000))]
  refine v_ldc C (v := (-1792000000)) dL_isRefused_378 rfl N_L_111 ?_
  refine v_icmp_ne C (t := 862) dL_isRefused_380 rfl rfl (fun h => absurd h (by decide)) (fun _ => ?_)
  refine v_aload_n C dL_isRefused_383 rfl 6 rfl ?_
  refine v_iconst C (v := 5) dL_isRefused_384 rfl rfl ?_
  refine v_iload C dL_isRefused_385 rfl 3 rfl ?_
  refine v_iconst C (v := 0) dL_isRefused_387 rfl rfl ?_
  refine v_iconst C (v := 0) dL_isRefused_388 rfl rfl ?_
  refine l_no C (ax_peg (s := s) (nm := nm) (nc := nc) (nr := nr) hst hG hMi hW hJ.bs (e := 1) (cd := -1791000000) (e3_1 (fun h => hmi h.1)) (by decide) xL3_1) (B + 84) (D + 1428) ⟨⟨Nat.le_refl _, bl hKc (Nat.le_of_ble_eq_true rfl)⟩, Nat.le_refl _, bl hKn (Nat.le_of_ble_eq_true rfl)⟩ rfl dL_isRefused_389 rfl ?_
  refine v_if_eq C (t := 862) dL_isRefused_392 rfl rfl (fun h => absurd h (by decide)) (fun _ => ?_)
  refine v_aload_n C dL_isRefused_395 rfl 6 rfl ?_
  refine v_bipush C (v := 6) dL_isRefused_396 rfl rfl ?_
  refine v_iload C dL_isRefused_398 rfl 3 rfl ?_
  refine v_iconst C (v := 0) dL_isRefused_400 rfl rfl ?_
  refine v_iconst C (v := 0) dL_isRefused_401 rfl rfl ?_
  refine l_no C (ax_right (s := s) (nm := nm) (nc := nc) (nr := nr) hst hG hMi hW hJ.bs (e := 1) (cd := -1791000000) (e3_1 hmi) (by decide) xL3_1) (B + 91) (D + 1547) ⟨⟨Nat.le_refl _, bl hKc (Nat.le_of_ble_eq_true rfl)⟩, Nat.le_refl _, bl hKn (Nat.le_of_ble_eq_true rfl)⟩ rfl dL_isRefused_402 rfl ?_
  refine v_if_eq C (t := 862) dL_isRefused_405 rfl rfl (fun h => absurd h (by decide)) (fun _ => ?_)
  refine v_aload_n C dL_isRefused_408 rfl 6 rfl ?_
  refine v_bipush C (v := 7) dL_isRefused_409 rfl rfl ?_
  refine v_iload C dL_isRefused_411 rfl 3 rfl ?_
  refine v_iconst C (v := 0) dL_isRefused_413 rfl rfl ?_
  refine v_bipush C (v := 9) dL_isRefused_414 rfl rfl ?_
  refine l_no C (ax_work (s := s) (nm := nm) (nc := nc) (nr := nr) hst hG hW hJ.bs (e := 1) (cd := -1791000000) (e3_1 (fun h => hmi h.1)) (by decide) xL3_1) (B + 98) (D + 1666) ⟨⟨Nat.le_refl _, bl hKc (Nat.le_of_ble_eq_true rfl)⟩, Nat.le_refl _, bl hKn (Nat.le_of_ble_eq_true rfl)⟩ rfl dL_isRefused_416 rfl ?_
  refine v_if_eq C (t := 862) dL_isRefused_419 rfl rfl (fun h => absurd h (by decide)) (fun _ => ?_)
  refine v_aload_n C dL_isRefused_422 rfl 6 rfl ?_
  refine v_bipush C (v := 8) dL_isRefused_423 rfl rfl ?_
  refine v_iload C dL_isRefused_425 rfl 4 rfl ?_
  refine v_iconst C (v := 0) dL_isRefused_427 rfl rfl ?_
  refine v_iconst C (v := 0) dL_isRefused_428 rfl rfl ?_
  refine l_no C (ax_sample (s := s) (nm := nm) (nc := nc) (nr := nr) hst hG hW hJ.bs (e := 1) (cd := -1791000000) (e1_1 hce) (by decide) xLI1_1) (B + 105) (D + 1785) ⟨⟨Nat.le_refl _, bl hKc (Nat.le_of_ble_eq_true rfl)⟩, Nat.le_refl _, bl hKn (Nat.le_of_ble_eq_true rfl)⟩ rfl dL_isRefused_429 rfl ?_
  refine v_if_eq C (t := 862) dL_isRefused_432 rfl rfl (fun h => absurd h (by decide)) (fun _ => ?_)
  refine v_aload_n C dL_isRefused_435 rfl 6 rfl ?_
  refine v_bipush C (v := 9) dL_isRefused_436 rfl rfl ?_
  refine v_iload C dL_isRefused_438 rfl 3 rfl ?_
  refine v_iconst C (v := 0) dL_isRefused_440 rfl rfl ?_
  refine v_iconst C (v := 0) dL_isRefused_441 rfl rfl ?_
  refine l_no C (ax_salt (s := s) (nm := nm) (nc := nc) (nr := nr) hst hG hW hJ.bs (e := 1) (cd := -1791000000) (e3_1 (fun h => hmi h.1)) (by decide) xL3_1) (B + 112) (D + 1904) ⟨⟨Nat.le_refl _, bl hKc (Nat.le_of_ble_eq_true rfl)⟩, Nat.le_refl _, bl hKn (Nat.le_of_ble_eq_true rfl)⟩ rfl dL_isRefused_442 rfl ?_
  refine v_if_eq C (t := 862) dL_isRefused_445 rfl rfl (fun h => absurd h (by decide)) (fun _ => ?_)
  refine v_aload_n C dL_isRefused_448 rfl 6 rfl ?_
  refine v_bipush C (v := 10) dL_isRefused_449 rfl rfl ?_
  refine v_iload C dL_isRefused_451 rfl 3 rfl ?_
  refine v_iconst C (v := 0) dL_isRefused_453 rfl rfl ?_
  refine v_iconst C (v := 0) dL_isRefused_454 rfl rfl ?_
  refine l_no C (ax_brass (s := s) (nm := nm) (nc := nc) (nr := nr) hst hG hW hJ.bs (e := 1) (cd := -1791000000) (e3_1 hmi) (by decide) xL3_1) (B + 119) (D + 2023) ⟨⟨Nat.le_refl _, bl hKc (Nat.le_of_ble_eq_true rfl)⟩, Nat.le_refl _, bl hKn (Nat.le_of_ble_eq_true rfl)⟩ rfl dL_isRefused_455 rfl ?_
  refine v_if_eq C (t := 862) dL_isRefused_458 rfl rfl (fun h => absurd h (by decide)) (fun _ => ?_)
  refine v_aload_n C dL_isRefused_461 rfl 6 rfl ?_
  refine v_bipush C (v := 11) dL_isRefused_462 rfl rfl ?_
  refine v_iload C dL_isRefused_464 rfl 3 rfl ?_
  refine v_iconst C (v := 0) dL_isRefused_466 rfl rfl ?_
  refine v_iconst C (v := 0) dL_isRefused_467 rfl rfl ?_
  refine l_no C (ax_sell (s := s) (nm := nm) (nc := nc) (nr := nr) hst hG hW hJ.bs (e := 1) (cd := -1791000000) (e3_1 hmi) (by decide) xL3_1) (B + 126) (D + 2142) ⟨⟨Nat.le_refl _, bl hKc (Nat.le_of_ble_eq_true rfl)⟩, Nat.le_refl _, bl hKn (Nat.le_of_ble_eq_true rfl)⟩ rfl dL_isRefused_468 rfl ?_
  refine v_if_eq C (t := 862) dL_isRefused_471 rfl rfl (fun h => absurd h (by decide)) (fun _ => ?_)
  refine v_aload_n C dL_isRefused_474 rfl 6 rfl ?_
  refine v_bipush C (v := 12) dL_isRefused_475 rfl rfl ?_
  refine v_iload_n C dL_isRefused_477 rfl 5 rfl ?_
  refine v_ifB_eq C (t := 490) dL_isRefused_478 rfl rfl (fun h => absurd hlow h) (fun _ => ?_)
  refine v_iconst C (v := 0) dL_isRefused_481 rfl rfl ?_
  refine v_iload_n C dL_isRefused_482 rfl 8 rfl ?_
  refine v_bipush C (v := 30) dL_isRefused_483 rfl rfl ?_
  refine v_iremN C X0 30 rfl rfl (by omega) (by omega) (by omega) dL_isRefused_485 rfl ?_
  refine v_isub C dL_isRefused_486 rfl ?_
  refine v_goto C (q := 492) dL_isRefused_487 rfl ?_
  refine v_iconst C (v := 0) dL_isRefused_492 rfl rfl ?_
  refine v_iconst C (v := 0) dL_isRefused_493 rfl rfl ?_
  refine l_off C (ax_rate (s := s) (nm := nm) (nc := nc) (nr := nr) hst hG hW hJ.bs (e := 1) (cd := -1792000000) (e1_1 (fun h => ng0 (by omega) (h.1))) (by decide) xLA_1) (B + 133) (D + 2261) ⟨⟨Nat.le_refl _, bl hKc (Nat.le_of_ble_eq_true rfl)⟩, Nat.le_refl _, bl hKn (Nat.le_of_ble_eq_true rfl)⟩ rfl dL_isRefused_494 rfl ?_
  refine v_if_eq C (t := 862) dL_isRefused_497 rfl rfl (fun h => absurd h (by decide)) (fun _ => ?_)
  refine v_aload_n C dL_isRefused_500 rfl 6 rfl ?_
  refine v_bipush C (v := 13) dL_isRefused_501 rfl rfl ?_
  refine v_iload_n C dL_isRefused_503 rfl 5 rfl ?_
  refine v_ifB_eq C (t := 511) dL_isRefused_504 rfl rfl (fun h => absurd hlow h) (fun _ => ?_)
  refine v_iconst C (v := 0) dL_isRefused_507 rfl rfl ?_
  refine v_goto C (q := 519) dL_isRefused_508 rfl ?_
  refine v_sipush C (v := 5000) dL_isRefused_519 rfl rfl ?_
  refine v_iconst C (v := 0) dL_isRefused_522 rfl rfl ?_
  refine l_off C (ax_freight (s := s) (nm := nm) (nc := nc) (nr := nr) hst hG hW hJ.bs (e := 1) (cd := -1792000000) (if_pos (by decide)) (by decide) xLAS_1) (B + 140) (D + 2380) ⟨⟨Nat.le_refl _, bl hKc (Nat.le_of_ble_eq_true rfl)⟩, Nat.le_refl _, bl hKn (Nat.le_of_ble_eq_true rfl)⟩ rfl dL_isRefused_523 rfl ?_
  refine v_if_eq C (t := 862) dL_isRefused_526 rfl rfl (fun h => absurd h (by decide)) (fun _ => ?_)
  refine v_aload_n C dL_isRefused_529 rfl 6 rfl ?_
  refine v_bipush C (v := 13) dL_isRefused_530 rfl rfl ?_
  refine v_iconst C (v := 5) dL_isRefused_532 rfl rfl ?_
  refine v_iload_n C dL_isRefused_533 rfl 5 rfl ?_
  refine v_ifB_eq C (t := 549) dL_isRefused_534 rfl rfl (fun h => absurd hlow h) (fun _ => ?_)
  refine v_aload_n C dL_isRefused_537 rfl 6 rfl ?_
  refine q_day C hW hJ (B + 140) (D + 2380) ⟨⟨Nat.le_refl _, bl hKc (Nat.le_of_ble_eq_true rfl)⟩, Nat.le_refl _, bl hKn (Nat.le_of_ble_eq_true rfl)⟩ rfl dL_isRefused_538 rfl (fun b2 => ?_)
  refine v_iload_n C dL_isRefused_541 rfl 8 rfl ?_
  refine v_bipush C (v := 30) dL_isRefused_542 rfl rfl ?_
  refine v_iremN C X0 30 rfl rfl (by omega) (by omega) (by omega) dL_isRefused_544 rfl ?_
  refine v_isub C dL_isRefused_545 rfl ?_
  refine v_goto C (q := 552) dL_isRefused_546 rfl ?_
  refine v_iconst C (v := 0) dL_isRefused_552 rfl rfl ?_
  refine l_off C (ax_freight (s := s) (nm := nm) (nc := nc) (nr := nr) hst hG hW hJ.bs (e := 1) (cd := -1792000000) ((if_neg (fun z => z (by decide))).trans (if_pos (fun h => dd_lt hJ.1.2.1.1.e (by omega) (by omega) h.1))) (by decide) xLAS_1) (B + 147) (D + 2499) ⟨⟨Nat.le_refl _, bl hKc (Nat.le_of_ble_eq_true rfl)⟩, Nat.le_refl _, bl hKn (Nat.le_of_ble_eq_true rfl)⟩ rfl dL_isRefused_553 rfl ?_
  refine v_if_eq C (t := 862) dL_isRefused_556 rfl rfl (fun h => absurd h (by decide)) (fun _ => ?_)
  refine v_aload_n C dL_isRefused_559 rfl 6 rfl ?_
  refine v_bipush C (v := 14) dL_isRefused_560 rfl rfl ?_
  refine v_iload C dL_isRefused_562 rfl 3 rfl ?_
  refine v_iconst C (v := 0) dL_isRefused_564 rfl rfl ?_
  refine v_iconst C (v := 0) dL_isRefused_565 rfl rfl ?_
  refine l_no C (ax_buy (s := s) (nm := nm) (nc := nc) (nr := nr) hst hG hW hJ.bs (e := 1) (cd := -1791000000) (e3_1 hmi) (by decide) xL3_1) (B + 154) (D + 2618) ⟨⟨Nat.le_refl _, bl hKc (Nat.le_of_ble_eq_true rfl)⟩, Nat.le_refl _, bl hKn (Nat.le_of_ble_eq_true rfl)⟩ rfl dL_isRefused_566 rfl ?_
  refine v_if_eq C (t := 862) dL_isRefused_569 rfl rfl (fun h => absurd h (by decide)) (fun _ => ?_)
  refine v_aload_n C dL_isRefused_572 rfl 6 rfl ?_
  refine v_bipush C (v := 15) dL_isRefused_573 rfl rfl ?_
  refine v_iload C dL_isRefused_575 rfl 3 rfl ?_
  refine v_iconst C (v := 0) dL_isRefused_577 rfl rfl ?_
  refine v_iconst C (v := 0) dL_isRefused_578 rfl rfl ?_
  refine l_no C (ax_back (s := s) (nm := nm) (nc := nc) (nr := nr) hst hG hW hJ.bs (e := 1) (cd := -1791000000) (e3_1 (fun h => hmi h.1)) (by decide) xL3_1) (B + 161) (D + 2737) ⟨⟨Nat.le_refl _, bl hKc (Nat.le_of_ble_eq_true rfl)⟩, Nat.le_refl _, bl hKn (Nat.le_of_ble_eq_true rfl)⟩ rfl dL_isRefused_579 rfl ?_
  refine v_if_eq C (t := 862) dL_isRefused_582 rfl rfl (fun h => absurd h (by decide)) (fun _ => ?_)
  refine v_aload_n C dL_isRefused_585 rfl 6 rfl ?_
  refine v_bipush C (v := 16) dL_isRefused_586 rfl rfl ?_
  refine v_iload C dL_isRefused_588 rfl 3 rfl ?_
  refine v_iconst C (v := 0) dL_isRefused_590 rfl rfl ?_
  refine v_iconst C (v := 0) dL_isRefused_591 rfl rfl ?_
  refine l_no C (ax_end (s := s) (nm := nm) (nc := nc) (nr := nr) hst hG hW hJ.bs (e := 1) (cd := -1791000000) (e2_1 (fun h => hmi h.1)) (by decide) xLIS_1) (B + 168) (D + 2856) ⟨⟨Nat.le_refl _, bl hKc (Nat.le_of_ble_eq_true rfl)⟩, Nat.le_refl _, bl hKn (Nat.le_of_ble_eq_true rfl)⟩ rfl dL_isRefused_592 rfl ?_
  refine v_if_eq C (t := 862) dL_isRefused_595 rfl rfl (fun h => absurd h (by decide)) (fun _ => ?_)
  refine v_aload_n C dL_isRefused_598 rfl 6 rfl ?_
  refine v_bipush C (v := 17) dL_isRefused_599 rfl rfl ?_
  refine v_iload C dL_isRefused_601 rfl 2 rfl ?_
  refine v_iconst C (v := 0) dL_isRefused_603 rfl rfl ?_
  refine v_iconst C (v := (-1)) dL_isRefused_604 rfl rfl ?_
  refine l_no C (ax_trade (s := s) (nm := nm) (nc := nc) (nr := nr) hst hG hW hJ.bs (e := 1) (cd := -1791000000) (e3_1 (fun h => hcl h.1)) (by decide) xL3_1) (B + 175) (D + 2975) ⟨⟨Nat.le_refl _, bl hKc (Nat.le_of_ble_eq_true rfl)⟩, Nat.le_refl _, bl hKn (Nat.le_of_ble_eq_true rfl)⟩ rfl dL_isRefused_605 rfl ?_
  refine v_if_eq C (t := 862) dL_isRefused_608 rfl rfl (fun h => absurd h (by decide)) (fun _ => ?_)
  refine v_aload_n C dL_isRefused_611 rfl 6 rfl ?_
  refine v_bipush C (v := 18) dL_isRefused_612 rfl rfl ?_
  refine v_iload C dL_isRefused_614 rfl 2 rfl ?_
  refine v_iconst C (v := 0) dL_isRefused_616 rfl rfl ?_
  refine v_iconst C (v := 0) dL_isRefused_617 rfl rfl ?_
  refine l_no C (ax_suit (s := s) (nm := nm) (nc := nc) (nr := nr) hst hG hW hJ.bs (e := 1) (cd := -1791000000) (e4_1 hcl) (by decide) xLIS_1) (B + 182) (D + 3094) ⟨⟨Nat.le_refl _, bl hKc (Nat.le_of_ble_eq_true rfl)⟩, Nat.le_refl _, bl hKn (Nat.le_of_ble_eq_true rfl)⟩ rfl dL_isRefused_618 rfl ?_
  refine v_if_eq C (t := 862) dL_isRefused_621 rfl rfl (fun h => absurd h (by decide)) (fun _ => ?_)
  refine v_aload_n C dL_isRefused_624 rfl 6 rfl ?_
  refine v_bipush C (v := 19) dL_isRefused_625 rfl rfl ?_
  refine v_iload C dL_isRefused_627 rfl 4 rfl ?_
  refine v_iconst C (v := (-1)) dL_isRefused_629 rfl rfl ?_
  refine v_iconst C (v := 0) dL_isRefused_630 rfl rfl ?_
  refine l_no C (ax_rumour (s := s) (nm := nm) (nc := nc) (nr := nr) hst hG hW hJ.bs (e := 1) (cd := -1791000000) (e2_1 hce) (by decide) xLIA_1) (B + 189) (D + 3213) ⟨⟨Nat.le_refl _, bl hKc (Nat.le_of_ble_eq_true rfl)⟩, Nat.le_refl _, bl hKn (Nat.le_of_ble_eq_true rfl)⟩ rfl dL_isRefused_631 rfl ?_
  refine v_if_eq C (t := 862) dL_isRefused_634 rfl rfl (fun h => absurd h (by decide)) (fun _ => ?_)
  refine v_aload_n C dL_isRefused_637 rfl 6 rfl ?_
  refine v_bipush C (v := 19) dL_isRefused_638 rfl rfl ?_
  refine v_iload_n C dL_isRefused_640 rfl 8 rfl ?_
  refine v_bipush C (v := 40) dL_isRefused_641 rfl rfl ?_
  refine v_iremN C X0 40 rfl rfl (by omega) (by omega) (by omega) dL_isRefused_643 rfl ?_
  refine v_iload_n C dL_isRefused_644 rfl 5 rfl ?_
  refine v_ifB_eq C (t := 657) dL_isRefused_645 rfl rfl (fun h => absurd hlow h) (fun _ => ?_)
  refine v_iconst C (v := (-1)) dL_isRefused_648 rfl rfl ?_
  refine v_iload_n C dL_isRefused_649 rfl 8 rfl ?_
  refine v_bipush C (v := 30) dL_isRefused_650 rfl rfl ?_
  refine v_iremN C X0 30 rfl rfl (by omega) (by omega) (by omega) dL_isRefused_652 rfl ?_
  refine v_isub C dL_isRefused_653 rfl ?_
  refine v_goto C (q := 659) dL_isRefused_654 rfl ?_
  refine v_iconst C (v := 0) dL_isRefused_659 rfl rfl ?_
  refine l_off C (ax_rumour (s := s) (nm := nm) (nc := nc) (nr := nr) hst hG hW hJ.bs (e := 2) (cd := -1792000000) (e2_2 (cell_in (by omega)) (fun h => ng (by omega) (h.1))) (by decide) xLIA_2) (B + 196) (D + 3332) ⟨⟨Nat.le_refl _, bl hKc (Nat.le_of_ble_eq_true rfl)⟩, Nat.le_refl _, bl hKn (Nat.le_of_ble_eq_true rfl)⟩ rfl dL_isRefused_660 rfl ?_
  refine v_if_eq C (t := 862) dL_isRefused_663 rfl rfl (fun h => absurd h (by decide)) (fun _ => ?_)
  refine v_aload_n C dL_isRefused_666 rfl 6 rfl ?_
  refine v_bipush C (v := 20) dL_isRefused_667 rfl rfl ?_
  refine v_iload C dL_isRefused_669 rfl 4 rfl ?_
  refine v_iconst C (v := 0) dL_isRefused_671 rfl rfl ?_
  refine v_iconst C (v := 0) dL_isRefused_672 rfl rfl ?_
  refine l_no C (ax_holds (s := s) (nm := nm) (nc := nc) (nr := nr) hst hG hW hJ.bs (e := 1) (cd := -1791000000) (e1_1 hce) (by decide) xLI1_1) (B + 203) (D + 3451) ⟨⟨Nat.le_refl _, bl hKc (Nat.le_of_ble_eq_true rfl)⟩, Nat.le_refl _, bl hKn (Nat.le_of_ble_eq_true rfl)⟩ rfl dL_isRefused_673 rfl ?_
  refine v_if_eq C (t := 862) dL_isRefused_676 rfl rfl (fun h => absurd h (by decide)) (fun _ => ?_)
  refine v_aload_n C dL_isRefused_679 rfl 6 rfl ?_
  refine v_bipush C (v := 21) dL_isRefused_680 rfl rfl ?_
  refine v_iload C dL_isRefused_682 rfl 2 rfl ?_
  refine v_bipush C (v := 9) dL_isRefused_684 rfl rfl ?_
  refine v_iconst C (v := 0) dL_isRefused_686 rfl rfl ?_
  refine l_no C (ax_ofClaim (s := s) (nm := nm) (nc := nc) (nr := nr) hst hG hW hJ.bs (e := 1) (cd := -1791000000) (e2_1 hcl) (by decide) xLIA_1) (B + 210) (D + 3570) ⟨⟨Nat.le_refl _, bl hKc (Nat.le_of_ble_eq_true rfl)⟩, Nat.le_refl _, bl hKn (Nat.le_of_ble_eq_true rfl)⟩ rfl dL_isRefused_687 rfl ?_
  refine v_if_eq C (t := 862) dL_isRefused_690 rfl rfl (fun h => absurd h (by decide)) (fun _ => ?_)
  refine v_aload_n C dL_isRefused_693 rfl 6 rfl ?_
  refine v_bipush C (v := 22) dL_isRefused_694 rfl rfl ?_
  refine v_iload C dL_isRefused_696 rfl 3 rfl ?_
  refine v_bipush C (v := 9) dL_isRefused_698 rfl rfl ?_
  refine v_iconst C (v := 0) dL_isRefused_700 rfl rfl ?_
  refine l_no C (ax_ofMiner (s := s) (nm := nm) (nc := nc) (nr := nr) hst hG hW hJ.bs (e := 1) (cd := -1791000000) (e2_1 hmi) (by decide) xLIA_1) (B + 217) (D + 3689) ⟨⟨Nat.le_refl _, bl hKc (Nat.le_of_ble_eq_true rfl)⟩, Nat.le_refl _, bl hKn (Nat.le_of_ble_eq_true rfl)⟩ rfl dL_isRefused_701 rfl ?_
  refine v_if_eq C (t := 862) dL_isRefused_704 rfl rfl (fun h => absurd h (by decide)) (fun _ => ?_)
  refine v_aload_n C dL_isRefused_707 rfl 6 rfl ?_
  refine v_bipush C (v := 23) dL_isRefused_708 rfl rfl ?_
  refine v_iload_n C dL_isRefused_710 rfl 5 rfl ?_
  refine v_ifB_eq C (t := 723) dL_isRefused_711 rfl rfl (fun h => absurd hlow h) (fun _ => ?_)
  refine v_iconst C (v := (-1)) dL_isRefused_714 rfl rfl ?_
  refine v_iload_n C dL_isRefused_715 rfl 8 rfl ?_
  refine v_bipush C (v := 30) dL_isRefused_716 rfl rfl ?_
  refine v_iremN C X0 30 rfl rfl (by omega) (by omega) (by omega) dL_isRefused_718 rfl ?_
  refine v_isub C dL_isRefused_719 rfl ?_
  refine v_goto C (q := 731) dL_isRefused_720 rfl ?_
  refine v_iconst C (v := 0) dL_isRefused_731 rfl rfl ?_
  refine v_iconst C (v := 0) dL_isRefused_732 rfl rfl ?_
  refine l_no C (ax_gets (s := s) (nm := nm) (nc := nc) (nr := nr) hst hG hW hJ.bs (e := 1) (cd := -1791000000) (e1_1 (fun h => ng (by omega) (h.1))) (by decide) xLI1_1) (B + 224) (D + 3808) ⟨⟨Nat.le_refl _, bl hKc (Nat.le_of_ble_eq_true rfl)⟩, Nat.le_refl _, bl hKn (Nat.le_of_ble_eq_true rfl)⟩ rfl dL_isRefused_733 rfl ?_
  refine v_if_eq C (t := 862) dL_isRefused_736 rfl rfl (fun h => absurd h (by decide)) (fun _ => ?_)
  refine v_aload_n C dL_isRefused_739 rfl 6 rfl ?_
  refine v_bipush C (v := 24) dL_isRefused_740 rfl rfl ?_
  refine v_iload_n C dL_isRefused_742 rfl 5 rfl ?_
  refine v_ifB_eq C (t := 755) dL_isRefused_743 rfl rfl (fun h => absurd hlow h) (fun _ => ?_)
  refine v_iconst C (v := (-1)) dL_isRefused_746 rfl rfl ?_
  refine v_iload_n C dL_isRefused_747 rfl 8 rfl ?_
  refine v_bipush C (v := 30) dL_isRefused_748 rfl rfl ?_
  refine v_iremN C X0 30 rfl rfl (by omega) (by omega) (by omega) dL_isRefused_750 rfl ?_
  refine v_isub C dL_isRefused_751 rfl ?_
  refine v_goto C (q := 756) dL_isRefused_752 rfl ?_
  refine v_iconst C (v := 0) dL_isRefused_756 rfl rfl ?_
  refine v_iconst C (v := 0) dL_isRefused_757 rfl rfl ?_
  refine l_off C (ax_gold (s := s) (nm := nm) (nc := nc) (nr := nr) hst hG hW hJ.bs (e := 1) (cd := -1792000000) (e1_1 (fun h => ng (by omega) (h.1))) (by decide) xLA_1) (B + 231) (D + 3927) ⟨⟨Nat.le_refl _, bl hKc (Nat.le_of_ble_eq_true rfl)⟩, Nat.le_refl _, bl hKn (Nat.le_of_ble_eq_true rfl)⟩ rfl dL_isRefused_758 rfl ?_
  refine v_if_eq C (t := 862) dL_isRefused_761 rfl rfl (fun h => absurd h (by decide)) (fun _ => ?_)
  refine v_aload_n C dL_isRefused_764 rfl 6 rfl ?_
  refine v_bipush C (v := 25) dL_isRefused_765 rfl rfl ?_
  refine v_iload_n C dL_isRefused_767 rfl 5 rfl ?_
  refine v_ifB_eq C (t := 775) dL_isRefused_768 rfl rfl (fun h => absurd hlow h) (fun _ => ?_)
  refine v_iconst C (v := (-1)) dL_isRefused_771 rfl rfl ?_
  refine v_goto C (q := 782) dL_isRefused_772 rfl ?_
  refine v_iconst C (v := 0) dL_isRefused_782 rfl rfl ?_
  refine v_iconst C (v := 0) dL_isRefused_783 rfl rfl ?_
  refine l_off C (ax_camp (s := s) (nm := nm) (nc := nc) (nr := nr) hst hG hW hJ.bs (e := 1) (cd := -1792000000) (e1_1 (by decide)) (by decide) xLA_1) (B + 238) (D + 4046) ⟨⟨Nat.le_refl _, bl hKc (Nat.le_of_ble_eq_true rfl)⟩, Nat.le_refl _, bl hKn (Nat.le_of_ble_eq_true rfl)⟩ rfl dL_isRefused_784 rfl ?_
  refine v_if_eq C (t := 862) dL_isRefused_787 rfl rfl (fun h => absurd h (by decide)) (fun _ => ?_)
  refine v_aload_n C dL_isRefused_790 rfl 6 rfl ?_
  refine v_bipush C (v := 26) dL_isRefused_791 rfl rfl ?_
  refine v_iload C dL_isRefused_793 rfl 4 rfl ?_
  refine v_iconst C (v := 0) dL_isRefused_795 rfl rfl ?_
  refine v_iconst C (v := 0) dL_isRefused_796 rfl rfl ?_
  refine l_no C (ax_belief (s := s) (nm := nm) (nc := nc) (nr := nr) hst hG hW hJ.bs (e := 1) (cd := -1791000000) (e1_1 hce) (by decide) xLI1_1) (B + 245) (D + 4165) ⟨⟨Nat.le_refl _, bl hKc (Nat.le_of_ble_eq_true rfl)⟩, Nat.le_refl _, bl hKn (Nat.le_of_ble_eq_true rfl)⟩ rfl dL_isRefused_797 rfl ?_
  refine v_if_eq C (t := 862) dL_isRefused_800 rfl rfl (fun h => absurd h (by decide)) (fun _ => ?_)
  refine v_aload_n C dL_isRefused_803 rfl 6 rfl ?_
  refine v_bipush C (v := 27) dL_isRefused_804 rfl rfl ?_
  refine v_iload C dL_isRefused_806 rfl 2 rfl ?_
  refine v_bipush C (v := 9) dL_isRefused_808 rfl rfl ?_
  refine v_iconst C (v := 0) dL_isRefused_810 rfl rfl ?_
  refine l_no C (ax_plan (s := s) (nm := nm) (nc := nc) (nr := nr) hst hG hW hJ.bs (e := 1) (cd := -1791000000) (e3_1 hcl) (by decide) xL3_1) (B + 252) (D + 4284) ⟨⟨Nat.le_refl _, bl hKc (Nat.le_of_ble_eq_true rfl)⟩, Nat.le_refl _, bl hKn (Nat.le_of_ble_eq_true rfl)⟩ rfl dL_isRefused_811 rfl ?_
  refine v_if_eq C (t := 862) dL_isRefused_814 rfl rfl (fun h => absurd h (by decide)) (fun _ => ?_)
  refine v_aload_n C dL_isRefused_817 rfl 6 rfl ?_
  refine v_bipush C (v := 28) dL_isRefused_818 rfl rfl ?_
  refine v_iload C dL_isRefused_820 rfl 2 rfl ?_
  refine v_bipush C (v := 9) dL_isRefused_822 rfl rfl ?_
  refine v_iconst C (v := 0) dL_isRefused_824 rfl rfl ?_
  refine l_no C (ax_planCell (s := s) (nm := nm) (nc := nc) (nr := nr) hst hG hW hJ.bs (e := 1) (cd := -1791000000) (e3_1 (fun h => hcl h.1)) (by decide) xL3_1) (B + 259) (D + 4403) ⟨⟨Nat.le_refl _, bl hKc (Nat.le_of_ble_eq_true rfl)⟩, Nat.le_refl _, bl hKn (Nat.le_of_ble_eq_true rfl)⟩ rfl dL_isRefused_825 rfl ?_
  refine v_if_eq C (t := 862) dL_isRefused_828 rfl rfl (fun h => absurd h (by decide)) (fun _ => ?_)
  refine v_aload_n C dL_isRefused_831 rfl 6 rfl ?_
  refine q_day C hW hJ (B + 259) (D + 4403) ⟨⟨Nat.le_refl _, bl hKc (Nat.le_of_ble_eq_true rfl)⟩, Nat.le_refl _, bl hKn (Nat.le_of_ble_eq_true rfl)⟩ rfl dL_isRefused_832 rfl (fun b3 => ?_)
  refine v_ifN_ne C (t := 844) (tn (s 0 0)) rfl (by omega) dL_isRefused_835 rfl rfl (fun h4 => ?_) (fun h4 => ?_)
  · skip
    refine v_aload_n C dL_isRefused_844 rfl 6 rfl ?_
    refine v_iconst C (v := 0) dL_isRefused_845 rfl rfl ?_
    refine v_iload_n C dL_isRefused_846 rfl 8 rfl ?_
    refine v_bipush C (v := 40) dL_isRefused_847 rfl rfl ?_
    refine v_iremN C X0 40 rfl rfl (by omega) (by omega) (by omega) dL_isRefused_849 rfl ?_
    refine v_iconst C (v := 5) dL_isRefused_850 rfl rfl ?_
    refine v_iconst C (v := 5) dL_isRefused_851 rfl rfl ?_
    refine l_bars C (ax_ground (s := s) (nm := nm) (nc := nc) (nr := nr) hst hG hW hJ.bs (e := 3) (cd := -1793000000) (e3_3 (cell_in (by omega)) (by decide) (by first | exact Or.inr (by assumption) | exact Or.inl (day_pos hJ (by assumption)))) (by decide) xL3_3) (B + 266) (D + 4522) ⟨⟨Nat.le_refl _, bl hKc (Nat.le_of_ble_eq_true rfl)⟩, Nat.le_refl _, bl hKn (Nat.le_of_ble_eq_true rfl)⟩ rfl dL_isRefused_852 rfl ?_
    refine v_if_eq C (t := 862) dL_isRefused_855 rfl rfl (fun h => absurd h (by decide)) (fun _ => ?_)
    refine v_iconst C (v := 1) dL_isRefused_858 rfl rfl ?_
    refine v_goto C (q := 863) dL_isRefused_859 rfl ?_
    refine v_istore C (lv1 := [(10, .int (1)), (8, .long (allF s nm nc nr)), (7, .int (fo)), (6, .int (cl)), (5, .int (mi)), (4, .int (ce)), (3, .int (bI (X0 % 2 = 0))), (0, .ref (r 4)), (1, .ref (r 0)), (2, .int (nI (X0)))]) dL_isRefused_863 rfl (by decide) rfl ?_
    refine v_iconst C (v := 0) dL_isRefused_865 rfl rfl ?_
    refine v_istore C (lv1 := [(11, .int (0)), (10, .int (1)), (8, .long (allF s nm nc nr)), (7, .int (fo)), (6, .int (cl)), (5, .int (mi)), (4, .int (ce)), (3, .int (bI (X0 % 2 = 0))), (0, .ref (r 4)), (1, .ref (r 0)), (2, .int (nI (X0)))]) dL_isRefused_866 rfl (by decide) rfl ?_
    refine xx_lv [8, 9, 10, 7, 6, 5, 4, 3, 2, 1, 0] (lv' := [(0, .ref (r 4)), (1, .ref (r 0)), (2, .int (nI (X0))), (3, .int (bI (X0 % 2 = 0))), (4, .int (ce)), (5, .int (mi)), (6, .int (cl)), (7, .int (fo)), (8, .long (allF s nm nc nr)), (10, .int (1)), (11, .int (nI (0)))]) rfl ?_
    exact xx_mono (bm (Nat.le_of_ble_eq_true rfl)) (bm (Nat.le_of_ble_eq_true rfl)) (kk)
  · skip
    refine v_aload_n C dL_isRefused_838 rfl 7 rfl ?_
    refine v_iconst C (v := 4) dL_isRefused_839 rfl rfl ?_
    refine v_mld C hW 0 (by decide) 4 (show 4 < 6 by omega) dL_isRefused_840 rfl ?_
    refine xx_top (y := s 8 0) hT.1.2.2.2.2.1.1 ?_
    refine v_if_eq C (t := 858) dL_isRefused_841 rfl rfl (fun h5 => ?_) (fun h5 => ?_)
    · skip
      refine v_iconst C (v := 1) dL_isRefused_858 rfl rfl ?_
      refine v_goto C (q := 863) dL_isRefused_859 rfl ?_
      refine v_istore C (lv1 := [(10, .int (1)), (8, .long (allF s nm nc nr)), (7, .int (fo)), (6, .int (cl)), (5, .int (mi)), (4, .int (ce)), (3, .int (bI (X0 % 2 = 0))), (0, .ref (r 4)), (1, .ref (r 0)), (2, .int (nI (X0)))]) dL_isRefused_863 rfl (by decide) rfl ?_
      refine v_iconst C (v := 0) dL_isRefused_865 rfl rfl ?_
      refine v_istore C (lv1 := [(11, .int (0)), (10, .int (1)), (8, .long (allF s nm nc nr)), (7, .int (fo)), (6, .int (cl)), (5, .int (mi)), (4, .int (ce)), (3, .int (bI (X0 % 2 = 0))), (0, .ref (r 4)), (1, .ref (r 0)), (2, .int (nI (X0)))]) dL_isRefused_866 rfl (by decide) rfl ?_
      refine xx_lv [8, 9, 10, 7, 6, 5, 4, 3, 2, 1, 0] (lv' := [(0, .ref (r 4)), (1, .ref (r 0)), (2, .int (nI (X0))), (3, .int (bI (X0 % 2 = 0))), (4, .int (ce)), (5, .int (mi)), (6, .int (cl)), (7, .int (fo)), (8, .long (allF s nm nc nr)), (10, .int (1)), (11, .int (nI (0)))]) rfl ?_
      exact xx_mono (bm (Nat.le_of_ble_eq_true rfl)) (bm (Nat.le_of_ble_eq_true rfl)) (kk)
    · skip
      refine v_aload_n C dL_isRefused_844 rfl 6 rfl ?_
      refine v_iconst C (v := 0) dL_isRefused_845 rfl rfl ?_
      refine v_iload_n C dL_isRefused_846 rfl 8 rfl ?_
      refine v_bipush C (v := 40) dL_isRefused_847 rfl rfl ?_
      refine v_iremN C X0 40 rfl rfl (by omega) (by omega) (by omega) dL_isRefused_849 rfl ?_
      refine v_iconst C (v := 5) dL_isRefused_850 rfl rfl ?_
      refine v_iconst C (v := 5) dL_isRefused_851 rfl rfl ?_
      refine l_bars C (ax_ground (s := s) (nm := nm) (nc := nc) (nr := nr) hst hG hW hJ.bs (e := 3) (cd := -1793000000) (e3_3 (cell_in (by omega)) (by decide) (by first | exact Or.inr (by assumption) | exact Or.inl (day_pos hJ (by assumption)))) (by decide) xL3_3) (B + 266) (D + 4522) ⟨⟨Nat.le_refl _, bl hKc (Nat.le_of_ble_eq_true rfl)⟩, Nat.le_refl _, bl hKn (Nat.le_of_ble_eq_true rfl)⟩ rfl dL_isRefused_852 rfl ?_
      refine v_if_eq C (t := 862) dL_isRefused_855 rfl rfl (fun h => absurd h (by decide)) (fun _ => ?_)
      refine v_iconst C (v := 1) dL_isRefused_858 rfl rfl ?_
      refine v_goto C (q := 863) dL_isRefused_859 rfl ?_
      refine v_istore C (lv1 := [(10, .int (1)), (8, .long (allF s nm nc nr)), (7, .int (fo)), (6, .int (cl)), (5, .int (mi)), (4, .int (ce)), (3, .int (bI (X0 % 2 = 0))), (0, .ref (r 4)), (1, .ref (r 0)), (2, .int (nI (X0)))]) dL_isRefused_863 rfl (by decide) rfl ?_
      refine v_iconst C (v := 0) dL_isRefused_865 rfl rfl ?_
      refine v_istore C (lv1 := [(11, .int (0)), (10, .int (1)), (8, .long (allF s nm nc nr)), (7, .int (fo)), (6, .int (cl)), (5, .int (mi)), (4, .int (ce)), (3, .int (bI (X0 % 2 = 0))), (0, .ref (r 4)), (1, .ref (r 0)), (2, .int (nI (X0)))]) dL_isRefused_866 rfl (by decide) rfl ?_
      refine xx_lv [8, 9, 10, 7, 6, 5, 4, 3, 2, 1, 0] (lv' := [(0, .ref (r 4)), (1, .ref (r 0)), (2, .int (nI (X0))), (3, .int (bI (X0 % 2 = 0))), (4, .int (ce)), (5, .int (mi)), (6, .int (cl)), (7, .int (fo)), (8, .long (allF s nm nc nr)), (10, .int (1)), (11, .int (nI (0)))]) rfl ?_
      exact xx_mono (bm (Nat.le_of_ble_eq_true rfl)) (bm (Nat.le_of_ble_eq_true rfl)) (kk)

theorem sg_refL_B {X : XS} {G : GG} {w : va_W} {Q : State → Prop} {r : Nat → Nat} {s t : SS} {nm nc nr k B D : Nat} {X0 : Nat} {ce mi cl fo : Int32} {i : Nat} (C : Cx X G cL_isRefused 14 RL (Option.some Jvm.ClassFile.FieldType.boolean) r_L_isRefused "isRefused" []) (hW : Wd G r s t nm nc nr w) (hJ : Js s nm nc nr k) (hMi : MiOK G) (hk : k ≤ 131) (hT : K9 s t nm nc nr k) (hX : X0 < 2 ^ 31) (hlow : X0 % 2 = 0) (hce : ¬ ((0 : Int32) ≤ ce ∧ ce ≤ 39)) (hmi : ¬ ((0 : Int32) ≤ mi ∧ mi ≤ s 12 0 - 1)) (hcl : ¬ ((0 : Int32) ≤ cl ∧ cl ≤ s 21 0 - 1)) (hfo : ¬ ((0 : Int32) ≤ fo ∧ fo ≤ 3)) (hi0 : i ≤ nm) (hKc : B + 164 ≤ r_L_isRefused.cells) (hKn : D + 2678 ≤ r_L_isRefused.slots) (ih : i < nm → V X G 14 w (B + 164) (D + 2678) Q 868 [(0, .ref (r 4)), (1, .ref (r 0)), (2, .int (nI (X0))), (3, .int (bI (X0 % 2 = 0))), (4, .int (ce)), (5, .int (mi)), (6, .int (cl)), (7, .int (fo)), (8, .long (allF s nm nc nr)), (10, .int (1)), (11, .int (nI (i + 1)))] []) (kk : V X G 14 w (B + 164) (D + 2678) Q 1355 [(0, .ref (r 4)), (1, .ref (r 0)), (2, .int (nI (X0))), (3, .int (bI (X0 % 2 = 0))), (4, .int (ce)), (5, .int (mi)), (6, .int (cl)), (7, .int (fo)), (8, .long (allF s nm nc nr)), (10, .int (1)), (11, .int (nI (nm)))] []) : V X G 14 w B D Q 868 [(0, .ref (r 4)), (1, .ref (r 0)), (2, .int (nI (X0))), (3, .int (bI (X0 % 2 = 0))), (4, .int (ce)), (5, .int (mi)), (6, .int (cl)), (7, .int (fo)), (8, .long (allF s nm nc nr)), (10, .int (1)), (11, .int (nI (i)))] [] := by
  have hst : X.2.1.stackTraces = false := C.2.2.2.2.2.1
  have hG : GOK G := C.2.2.2.2.2.2.2.2.2.1
  have hm := hJ.1.1
  refine v_iload C dL_isRefused_868 rfl 10 rfl ?_
  refine v_aload_n C dL_isRefused_870 rfl 1 rfl ?_
  refine v_iconst C (v := 0) dL_isRefused_871 rfl rfl ?_
  refine v_mld C hW 0 (by decide) 0 (show 0 < 6 by omega) dL_isRefused_872 rfl ?_
  refine xx_top (y := nI (nm)) hT.1.1 ?_
  refine v_icN_ge C (t := 1355) i nm rfl rfl (by omega) (by omega) dL_isRefused_873 rfl rfl (fun h1 => ?_) (fun h1 => ?_)
  · skip
    obtain rfl : nm = i := by omega
    refine xx_lv [0, 1, 2, 3, 4, 5, 6, 7, 8, 9, 10] (lv' := [(0, .ref (r 4)), (1, .ref (r 0)), (2, .int (nI (X0))), (3, .int (bI (X0 % 2 = 0))), (4, .int (ce)), (5, .int (mi)), (6, .int (cl)), (7, .int (fo)), (8, .long (allF s nm nc nr)), (10, .int (1)), (11, .int (nI (nm)))]) rfl ?_
    exact xx_mono (Nat.le_add_right _ _) (Nat.le_add_right _ _) (kk)
  · skip
    have hi : i < nm := by omega
    refine v_iload C dL_isRefused_876 rfl 9 rfl ?_
    refine v_if_eq C (t := 1355) dL_isRefused_878 rfl rfl (fun h => absurd h (by decide)) (fun _ => ?_)
    refine v_aload_n C dL_isRefused_881 rfl 0 rfl ?_
    refine v_iload C dL_isRefused_882 rfl 10 rfl ?_
    refine v_iconst C (v := 4) dL_isRefused_884 rfl rfl ?_
    refine q_m4 C hW hJ (i := i) (by omega) (B + 2) (D + 12) ⟨⟨Nat.le_refl _, bl hKc (Nat.le_of_ble_eq_true rfl)⟩, Nat.le_refl _, bl hKn (Nat.le_of_ble_eq_true rfl)⟩ rfl dL_isRefused_885 rfl (fun b2 => ?_)
    refine xx_sel (P := (tn (s 17 i)) = 0) 896 [] ?_ (fun jj => ?_)
    · skip
      refine v_istore C (lv1 := [(12, .int (bI ((tn (s 17 i)) = 0))), (0, .ref (r 4)), (1, .ref (r 0)), (2, .int (nI (X0))), (3, .int (bI (X0 % 2 = 0))), (4, .int (ce)), (5, .int (mi)), (6, .int (cl)), (7, .int (fo)), (8, .long (allF s nm nc nr)), (10, .int (1)), (11, .int (nI (i)))]) dL_isRefused_896 rfl (by decide) rfl ?_
      refine v_aload_n C dL_isRefused_898 rfl 1 rfl ?_
      refine v_iload C dL_isRefused_899 rfl 11 rfl ?_
      refine v_iconst C (v := 0) dL_isRefused_901 rfl rfl ?_
      refine q_m0 C hW hJ (i := i) (by omega) (B + 4) (D + 24) ⟨⟨Nat.le_refl _, bl hKc (Nat.le_of_ble_eq_true rfl)⟩, Nat.le_refl _, bl hKn (Nat.le_of_ble_eq_true rfl)⟩ rfl dL_isRefused_902 rfl (fun b4 => ?_)
      refine v_aload_n C dL_isRefused_905 rfl 1 rfl ?_
      refine v_iload C dL_isRefused_906 rfl 11 rfl ?_
      refine v_iconst C (v := 1) dL_isRefused_908 rfl rfl ?_
      refine q_m1 C hW hJ (i := i) (by omega) (B + 6) (D + 36) ⟨⟨Nat.le_refl _, bl hKc (Nat.le_of_ble_eq_true rfl)⟩, Nat.le_refl _, bl hKn (Nat.le_of_ble_eq_true rfl)⟩ rfl dL_isRefused_909 rfl (fun b5 => ?_)
      refine v_iaddN C (tn (s 13 i)) (tn (s 14 i)) rfl rfl dL_isRefused_912 rfl ?_
      refine v_istore C (lv1 := [(13, .int (nI ((tn (s 13 i)) + (tn (s 14 i))))), (12, .int (bI ((tn (s 17 i)) = 0))), (0, .ref (r 4)), (1, .ref (r 0)), (2, .int (nI (X0))), (3, .int (bI (X0 % 2 = 0))), (4, .int (ce)), (5, .int (mi)), (6, .int (cl)), (7, .int (fo)), (8, .long (allF s nm nc nr)), (10, .int (1)), (11, .int (nI (i)))]) dL_isRefused_913 rfl (by decide) rfl ?_
      refine v_aload_n C dL_isRefused_915 rfl 2 rfl ?_
      refine v_iconst C (v := 5) dL_isRefused_916 rfl rfl ?_
      refine v_iload C dL_isRefused_917 rfl 12 rfl ?_
      refine v_iload C dL_isRefused_919 rfl 6 rfl ?_
      refine v_iconst C (v := 1) dL_isRefused_921 rfl rfl ?_
      refine l_no C (ax_peg (s := s) (nm := nm) (nc := nc) (nr := nr) hst hG hMi hW hJ.bs (e := 1) (cd := -1791000000) (e3_1 (fun h => hce h.2.1)) (by decide) xL3_1) (B + 13) (D + 155) ⟨⟨Nat.le_refl _, bl hKc (Nat.le_of_ble_eq_true rfl)⟩, Nat.le_refl _, bl hKn (Nat.le_of_ble_eq_true rfl)⟩ rfl dL_isRefused_922 rfl ?_
      refine v_if_eq C (t := 1346) dL_isRefused_925 rfl rfl (fun h => absurd h (by decide)) (fun _ => ?_)
      refine v_aload_n C dL_isRefused_928 rfl 2 rfl ?_
      refine v_iconst C (v := 5) dL_isRefused_929 rfl rfl ?_
      refine v_iload C dL_isRefused_930 rfl 12 rfl ?_
      refine v_bipush C (v := 36) dL_isRefused_932 rfl rfl ?_
      refine v_iconst C (v := 5) dL_isRefused_934 rfl rfl ?_
      refine l_no C (ax_peg (s := s) (nm := nm) (nc := nc) (nr := nr) hst hG hMi hW hJ.bs (e := 1) (cd := -1791000000) (e3_1 (fun h => absurd (h.2.2) (by decide))) (by decide) xL3_1) (B + 20) (D + 274) ⟨⟨Nat.le_refl _, bl hKc (Nat.le_of_ble_eq_true rfl)⟩, Nat.le_refl _, bl hKn (Nat.le_of_ble_eq_true rfl)⟩ rfl dL_isRefused_935 rfl ?_
      refine v_if_eq C (t := 1346) dL_isRefused_938 rfl rfl (fun h => absurd h (by decide)) (fun _ => ?_)
      refine v_aload_n C dL_isRefused_941 rfl 2 rfl ?_
      refine v_iconst C (v := 5) dL_isRefused_942 rfl rfl ?_
      refine v_iload C dL_isRefused_943 rfl 12 rfl ?_
      refine v_iconst C (v := 5) dL_isRefused_945 rfl rfl ?_
      refine v_iload_n C dL_isRefused_946 rfl 5 rfl ?_
      refine v_ifB_eq C (t := 959) dL_isRefused_947 rfl rfl (fun h => absurd hlow h) (fun _ => ?_)
      refine v_iconst C (v := 0) dL_isRefused_950 rfl rfl ?_
      refine v_iload_n C dL_isRefused_951 rfl 4 rfl ?_
      refine v_bipush C (v := 30) dL_isRefused_952 rfl rfl ?_
      refine v_iremN C X0 30 rfl rfl (by omega) (by omega) (by omega) dL_isRefused_954 rfl ?_
      refine v_isub C dL_isRefused_955 rfl ?_
      refine v_goto C (q := 961) dL_isRefused_956 rfl ?_
      refine l_off C (ax_peg (s := s) (nm := nm) (nc := nc) (nr := nr) hst hG hMi hW hJ.bs (e := 2) (cd := -1792000000) (e3_2 ⟨(mi_of hW.cnt.1 hi (by omega)), by decide, ng35 (by omega)⟩ (fun h => ng0 (by omega) (h.1))) (by decide) xL3_2) (B + 27) (D + 393) ⟨⟨Nat.le_refl _, bl hKc (Nat.le_of_ble_eq_true rfl)⟩, Nat.le_refl _, bl hKn (Nat.le_of_ble_eq_true rfl)⟩ rfl dL_isRefused_961 rfl ?_
      refine v_if_eq C (t := 1346) dL_isRefused_964 rfl rfl (fun h => absurd h (by decide)) (fun _ => ?_)
      refine v_aload_n C dL_isRefused_967 rfl 2 rfl ?_
      refine v_bipush C (v := 6) dL_isRefused_968 rfl rfl ?_
      refine v_iload C dL_isRefused_970 rfl 12 rfl ?_
      refine v_iload_n C dL_isRefused_972 rfl 5 rfl ?_
      refine v_ifB_eq C (t := 980) dL_isRefused_973 rfl rfl (fun h => absurd hlow h) (fun _ => ?_)
      refine v_iconst C (v := 0) dL_isRefused_976 rfl rfl ?_
      refine v_goto C (q := 988) dL_isRefused_977 rfl ?_
      refine v_iconst C (v := 0) dL_isRefused_988 rfl rfl ?_
      refine l_off C (ax_right (s := s) (nm := nm) (nc := nc) (nr := nr) hst hG hMi hW hJ.bs (e := 2) (cd := -1792000000) (e3_2 (mi_of hW.cnt.1 hi (by omega)) (by decide)) (by decide) xL3_2) (B + 34) (D + 512) ⟨⟨Nat.le_refl _, bl hKc (Nat.le_of_ble_eq_true rfl)⟩, Nat.le_refl _, bl hKn (Nat.le_of_ble_eq_true rfl)⟩ rfl dL_isRefused_989 rfl ?_
      refine v_if_eq C (t := 1346) dL_isRefused_992 rfl rfl (fun h => absurd h (by decide)) (fun _ => ?_)
      refine v_aload_n C dL_isRefused_995 rfl 2 rfl ?_
      refine v_bipush C (v := 7) dL_isRefused_996 rfl rfl ?_
      refine v_iload C dL_isRefused_998 rfl 12 rfl ?_
      refine v_iload C dL_isRefused_1000 rfl 6 rfl ?_
      refine v_iconst C (v := 0) dL_isRefused_1002 rfl rfl ?_
      refine l_no C (ax_work (s := s) (nm := nm) (nc := nc) (nr := nr) hst hG hW hJ.bs (e := 1) (cd := -1791000000) (e3_1 (fun h => hce h.2)) (by decide) xL3_1) (B + 41) (D + 631) ⟨⟨Nat.le_refl _, bl hKc (Nat.le_of_ble_eq_true rfl)⟩, Nat.le_refl _, bl hKn (Nat.le_of_ble_eq_true rfl)⟩ rfl dL_isRefused_1003 rfl ?_
      refine v_if_eq C (t := 1346) dL_isRefused_1006 rfl rfl (fun h => absurd h (by decide)) (fun _ => ?_)
      refine v_aload_n C dL_isRefused_1009 rfl 2 rfl ?_
      refine v_bipush C (v := 7) dL_isRefused_1010 rfl rfl ?_
      refine v_iload C dL_isRefused_1012 rfl 12 rfl ?_
      refine v_iload_n C dL_isRefused_1014 rfl 4 rfl ?_
      refine v_bipush C (v := 40) dL_isRefused_1015 rfl rfl ?_
      refine v_iremN C X0 40 rfl rfl (by omega) (by omega) (by omega) dL_isRefused_1017 rfl ?_
      refine v_iload C dL_isRefused_1018 rfl 9 rfl ?_
      refine l_off C (ax_work (s := s) (nm := nm) (nc := nc) (nr := nr) hst hG hW hJ.bs (e := 2) (cd := -1792000000) (e3_2 ⟨(mi_of hW.cnt.1 hi (by omega)), (cell_in (by omega))⟩ hfo) (by decide) xL3_2) (B + 48) (D + 750) ⟨⟨Nat.le_refl _, bl hKc (Nat.le_of_ble_eq_true rfl)⟩, Nat.le_refl _, bl hKn (Nat.le_of_ble_eq_true rfl)⟩ rfl dL_isRefused_1020 rfl ?_
      refine v_if_eq C (t := 1346) dL_isRefused_1023 rfl rfl (fun h => absurd h (by decide)) (fun _ => ?_)
      refine v_aload_n C dL_isRefused_1026 rfl 2 rfl ?_
      refine v_bipush C (v := 9) dL_isRefused_1027 rfl rfl ?_
      refine v_iload C dL_isRefused_1029 rfl 12 rfl ?_
      refine v_iload C dL_isRefused_1031 rfl 6 rfl ?_
      refine v_iconst C (v := 1) dL_isRefused_1033 rfl rfl ?_
      refine l_no C (ax_salt (s := s) (nm := nm) (nc := nc) (nr := nr) hst hG hW hJ.bs (e := 1) (cd := -1791000000) (e3_1 (fun h => hce h.2)) (by decide) xL3_1) (B + 55) (D + 869) ⟨⟨Nat.le_refl _, bl hKc (Nat.le_of_ble_eq_true rfl)⟩, Nat.le_refl _, bl hKn (Nat.le_of_ble_eq_true rfl)⟩ rfl dL_isRefused_1034 rfl ?_
      refine v_if_eq C (t := 1346) dL_isRefused_1037 rfl rfl (fun h => absurd h (by decide)) (fun _ => ?_)
      refine v_aload_n C dL_isRefused_1040 rfl 2 rfl ?_
      refine v_bipush C (v := 9) dL_isRefused_1041 rfl rfl ?_
      refine v_iload C dL_isRefused_1043 rfl 12 rfl ?_
      refine v_iconst C (v := 0) dL_isRefused_1045 rfl rfl ?_
      refine v_iload_n C dL_isRefused_1046 rfl 5 rfl ?_
      refine v_ifB_eq C (t := 1059) dL_isRefused_1047 rfl rfl (fun h => absurd hlow h) (fun _ => ?_)
      refine v_iconst C (v := 0) dL_isRefused_1050 rfl rfl ?_
      refine v_iload_n C dL_isRefused_1051 rfl 4 rfl ?_
      refine v_bipush C (v := 30) dL_isRefused_1052 rfl rfl ?_
      refine v_iremN C X0 30 rfl rfl (by omega) (by omega) (by omega) dL_isRefused_1054 rfl ?_
      refine v_isub C dL_isRefused_1055 rfl ?_
      refine v_goto C (q := 1062) dL_isRefused_1056 rfl ?_
      refine l_off C (ax_salt (s := s) (nm := nm) (nc := nc) (nr := nr) hst hG hW hJ.bs (e := 2) (cd := -1792000000) (e3_2 ⟨(mi_of hW.cnt.1 hi (by omega)), by decide⟩ (fun h => ng0 (by omega) (h.1))) (by decide) xL3_2) (B + 62) (D + 988) ⟨⟨Nat.le_refl _, bl hKc (Nat.le_of_ble_eq_true rfl)⟩, Nat.le_refl _, bl hKn (Nat.le_of_ble_eq_true rfl)⟩ rfl dL_isRefused_1062 rfl ?_
      refine v_if_eq C (t := 1346) dL_isRefused_1065 rfl rfl (fun h => absurd h (by decide)) (fun _ => ?_)
      refine v_aload_n C dL_isRefused_1068 rfl 2 rfl ?_
      refine v_bipush C (v := 10) dL_isRefused_1069 rfl rfl ?_
      refine v_iload C dL_isRefused_1071 rfl 12 rfl ?_
      refine v_iload_n C dL_isRefused_1073 rfl 5 rfl ?_
      refine v_ifB_eq C (t := 1086) dL_isRefused_1074 rfl rfl (fun h => absurd hlow h) (fun _ => ?_)
      refine v_iconst C (v := 0) dL_isRefused_1077 rfl rfl ?_
      refine v_iload_n C dL_isRefused_1078 rfl 4 rfl ?_
      refine v_bipush C (v := 30) dL_isRefused_1079 rfl rfl ?_
      refine v_iremN C X0 30 rfl rfl (by omega) (by omega) (by omega) dL_isRefused_1081 rfl ?_
      refine v_isub C dL_isRefused_1082 rfl ?_
      refine v_goto C (q := 1089) dL_isRefused_1083 rfl ?_
      refine v_iconst C (v := 0) dL_isRefused_1089 rfl rfl ?_
      refine l_off C (ax_brass (s := s) (nm := nm) (nc := nc) (nr := nr) hst hG hW hJ.bs (e := 2) (cd := -1792000000) (e3_2 (mi_of hW.cnt.1 hi (by omega)) (fun h => ng0 (by omega) (h.1))) (by decide) xL3_2) (B + 69) (D + 1107) ⟨⟨Nat.le_refl _, bl hKc (Nat.le_of_ble_eq_true rfl)⟩, Nat.le_refl _, bl hKn (Nat.le_of_ble_eq_true rfl)⟩ rfl dL_isRefused_1090 rfl ?_
      refine v_if_eq C (t := 1346) dL_isRefused_1093 rfl rfl (fun h => absurd h (by decide)) (fun _ => ?_)
      refine v_aload_n C dL_isRefused_1096 rfl 2 rfl ?_
      refine v_bipush C (v := 11) dL_isRefused_1097 rfl rfl ?_
      refine v_iload C dL_isRefused_1099 rfl 12 rfl ?_
      refine v_iload_n C dL_isRefused_1101 rfl 5 rfl ?_
      refine v_ifB_eq C (t := 1109) dL_isRefused_1102 rfl rfl (fun h => absurd hlow h) (fun _ => ?_)
      refine v_iconst C (v := 0) dL_isRefused_1105 rfl rfl ?_
      refine v_goto C (q := 1116) dL_isRefused_1106 rfl ?_
      refine v_iconst C (v := 0) dL_isRefused_1116 rfl rfl ?_
      refine l_off C (ax_sell (s := s) (nm := nm) (nc := nc) (nr := nr) hst hG hW hJ.bs (e := 2) (cd := -1792000000) (e3_2 (mi_of hW.cnt.1 hi (by omega)) (by decide)) (by decide) xL3_2) (B + 76) (D + 1226) ⟨⟨Nat.le_refl _, bl hKc (Nat.le_of_ble_eq_true rfl)⟩, Nat.le_refl _, bl hKn (Nat.le_of_ble_eq_true rfl)⟩ rfl dL_isRefused_1117 rfl ?_
      refine v_if_eq C (t := 1346) dL_isRefused_1120 rfl rfl (fun h => absurd h (by decide)) (fun _ => ?_)
      refine v_aload_n C dL_isRefused_1123 rfl 2 rfl ?_
      refine v_bipush C (v := 14) dL_isRefused_1124 rfl rfl ?_
      refine v_iload C dL_isRefused_1126 rfl 12 rfl ?_
      refine v_iload_n C dL_isRefused_1128 rfl 5 rfl ?_
      refine v_ifB_eq C (t := 1141) dL_isRefused_1129 rfl rfl (fun h => absurd hlow h) (fun _ => ?_)
      refine v_iconst C (v := 0) dL_isRefused_1132 rfl rfl ?_
      refine v_iload_n C dL_isRefused_1133 rfl 4 rfl ?_
      refine v_bipush C (v := 30) dL_isRefused_1134 rfl rfl ?_
      refine v_iremN C X0 30 rfl rfl (by omega) (by omega) (by omega) dL_isRefused_1136 rfl ?_
      refine v_isub C dL_isRefused_1137 rfl ?_
      refine v_goto C (q := 1144) dL_isRefused_1138 rfl ?_
      refine v_iconst C (v := 0) dL_isRefused_1144 rfl rfl ?_
      refine l_off C (ax_buy (s := s) (nm := nm) (nc := nc) (nr := nr) hst hG hW hJ.bs (e := 2) (cd := -1792000000) (e3_2 (mi_of hW.cnt.1 hi (by omega)) (fun h => ng0 (by omega) (h.1))) (by decide) xL3_2) (B + 83) (D + 1345) ⟨⟨Nat.le_refl _, bl hKc (Nat.le_of_ble_eq_true rfl)⟩, Nat.le_refl _, bl hKn (Nat.le_of_ble_eq_true rfl)⟩ rfl dL_isRefused_1145 rfl ?_
      refine v_if_eq C (t := 1346) dL_isRefused_1148 rfl rfl (fun h => absurd h (by decide)) (fun _ => ?_)
      refine v_aload_n C dL_isRefused_1151 rfl 2 rfl ?_
      refine v_bipush C (v := 15) dL_isRefused_1152 rfl rfl ?_
      refine v_iload C dL_isRefused_1154 rfl 12 rfl ?_
      refine v_iload C dL_isRefused_1156 rfl 12 rfl ?_
      refine v_iconst C (v := 5) dL_isRefused_1158 rfl rfl ?_
      refine l_off C (ax_back (s := s) (nm := nm) (nc := nc) (nr := nr) hst hG hW hJ.bs (e := 2) (cd := -1792000000) (e3_2 ⟨(mi_of hW.cnt.1 hi (by omega)), (mi_of hW.cnt.1 hi (by omega))⟩ (fun h => h.2.2 rfl)) (by decide) xL3_2) (B + 90) (D + 1464) ⟨⟨Nat.le_refl _, bl hKc (Nat.le_of_ble_eq_true rfl)⟩, Nat.le_refl _, bl hKn (Nat.le_of_ble_eq_true rfl)⟩ rfl dL_isRefused_1159 rfl ?_
      refine v_if_eq C (t := 1346) dL_isRefused_1162 rfl rfl (fun h => absurd h (by decide)) (fun _ => ?_)
      refine v_aload_n C dL_isRefused_1165 rfl 2 rfl ?_
      refine v_bipush C (v := 15) dL_isRefused_1166 rfl rfl ?_
      refine v_iload C dL_isRefused_1168 rfl 12 rfl ?_
      refine v_iload C dL_isRefused_1170 rfl 7 rfl ?_
      refine v_iconst C (v := 5) dL_isRefused_1172 rfl rfl ?_
      refine l_no C (ax_back (s := s) (nm := nm) (nc := nc) (nr := nr) hst hG hW hJ.bs (e := 1) (cd := -1791000000) (e3_1 (fun h => hmi h.2)) (by decide) xL3_1) (B + 97) (D + 1583) ⟨⟨Nat.le_refl _, bl hKc (Nat.le_of_ble_eq_true rfl)⟩, Nat.le_refl _, bl hKn (Nat.le_of_ble_eq_true rfl)⟩ rfl dL_isRefused_1173 rfl ?_
      refine v_if_eq C (t := 1346) dL_isRefused_1176 rfl rfl (fun h => absurd h (by decide)) (fun _ => ?_)
      refine v_aload_n C dL_isRefused_1179 rfl 2 rfl ?_
      refine v_bipush C (v := 22) dL_isRefused_1180 rfl rfl ?_
      refine v_iload C dL_isRefused_1182 rfl 12 rfl ?_
      refine v_iload_n C dL_isRefused_1184 rfl 5 rfl ?_
      refine v_ifB_eq C (t := 1197) dL_isRefused_1185 rfl rfl (fun h => absurd hlow h) (fun _ => ?_)
      refine v_iconst C (v := (-1)) dL_isRefused_1188 rfl rfl ?_
      refine v_iload_n C dL_isRefused_1189 rfl 4 rfl ?_
      refine v_bipush C (v := 30) dL_isRefused_1190 rfl rfl ?_
      refine v_iremN C X0 30 rfl rfl (by omega) (by omega) (by omega) dL_isRefused_1192 rfl ?_
      refine v_isub C dL_isRefused_1193 rfl ?_
      refine v_goto C (q := 1199) dL_isRefused_1194 rfl ?_
      refine v_iconst C (v := 0) dL_isRefused_1199 rfl rfl ?_
      refine l_off C (ax_ofMiner (s := s) (nm := nm) (nc := nc) (nr := nr) hst hG hW hJ.bs (e := 2) (cd := -1792000000) (e2_2 (mi_of hW.cnt.1 hi (by omega)) (fun h => ng (by omega) (h.1))) (by decide) xLIA_2) (B + 104) (D + 1702) ⟨⟨Nat.le_refl _, bl hKc (Nat.le_of_ble_eq_true rfl)⟩, Nat.le_refl _, bl hKn (Nat.le_of_ble_eq_true rfl)⟩ rfl dL_isRefused_1200 rfl ?_
      refine v_if_eq C (t := 1346) dL_isRefused_1203 rfl rfl (fun h => absurd h (by decide)) (fun _ => ?_)
      refine v_aload_n C dL_isRefused_1206 rfl 2 rfl ?_
      refine v_bipush C (v := 16) dL_isRefused_1207 rfl rfl ?_
      refine v_iload C dL_isRefused_1209 rfl 12 rfl ?_
      refine v_iload C dL_isRefused_1211 rfl 12 rfl ?_
      refine v_iconst C (v := 0) dL_isRefused_1213 rfl rfl ?_
      refine l_bars C (ax_end (s := s) (nm := nm) (nc := nc) (nr := nr) hst hG hW hJ.bs (e := 2) (cd := -1793000000) (e2_2 ⟨(mi_of hW.cnt.1 hi (by omega)), (mi_of hW.cnt.1 hi (by omega))⟩ (by rw [tn_nI (show i < 2 ^ 31 by omega), hJ.2.2.2.2.2.1.2.2.1 i hi]; decide)) (by decide) xLIS_2) (B + 111) (D + 1821) ⟨⟨Nat.le_refl _, bl hKc (Nat.le_of_ble_eq_true rfl)⟩, Nat.le_refl _, bl hKn (Nat.le_of_ble_eq_true rfl)⟩ rfl dL_isRefused_1214 rfl ?_
      refine v_if_eq C (t := 1346) dL_isRefused_1217 rfl rfl (fun h => absurd h (by decide)) (fun _ => ?_)
      refine v_aload_n C dL_isRefused_1220 rfl 2 rfl ?_
      refine v_bipush C (v := 11) dL_isRefused_1221 rfl rfl ?_
      refine v_iload C dL_isRefused_1223 rfl 12 rfl ?_
      refine v_iload C dL_isRefused_1225 rfl 0 rfl ?_
      refine v_iconst C (v := 1) dL_isRefused_1227 rfl rfl ?_
      refine v_iaddN C ((tn (s 13 i)) + (tn (s 14 i))) 1 rfl rfl dL_isRefused_1228 rfl ?_
      refine v_iconst C (v := 0) dL_isRefused_1229 rfl rfl ?_
      refine l_bars C (ax_sell (s := s) (nm := nm) (nc := nc) (nr := nr) hst hG hW hJ.bs (e := 3) (cd := -1793000000) (e3_3 (mi_of hW.cnt.1 hi (by omega)) ⟨nI_le (a := 1) (by omega) (by omega), nI_le (b := 1000000) (by omega) (by omega)⟩ (Or.inr (by rw [tn_nI (show i < 2 ^ 31 by omega)]; have h9 := (hJ.m13 hi).1.add (hJ.m14 hi).1 (by omega); have h8 := h9.2; exact (h9.1.ltc (by omega)).mpr (by omega)))) (by decide) xL3_3) (B + 118) (D + 1940) ⟨⟨Nat.le_refl _, bl hKc (Nat.le_of_ble_eq_true rfl)⟩, Nat.le_refl _, bl hKn (Nat.le_of_ble_eq_true rfl)⟩ rfl dL_isRefused_1230 rfl ?_
      refine v_if_eq C (t := 1346) dL_isRefused_1233 rfl rfl (fun h => absurd h (by decide)) (fun _ => ?_)
      refine v_aload_n C dL_isRefused_1236 rfl 2 rfl ?_
      refine v_iload C dL_isRefused_1237 rfl 12 rfl ?_
      refine v_iconst C (v := 0) dL_isRefused_1239 rfl rfl ?_
      refine q_m0 C hW hJ (i := i) (by omega) (B + 120) (D + 1952) ⟨⟨Nat.le_refl _, bl hKc (Nat.le_of_ble_eq_true rfl)⟩, Nat.le_refl _, bl hKn (Nat.le_of_ble_eq_true rfl)⟩ rfl dL_isRefused_1240 rfl (fun b6 => ?_)
      refine v_sipush C (v := 9999) dL_isRefused_1243 rfl rfl ?_
      refine v_icN_gt C (t := 1270) (tn (s 13 i)) 9999 rfl rfl (by omega) (by omega) dL_isRefused_1246 rfl rfl (fun h7 => ?_) (fun h7 => ?_)
      · skip
        refine v_iload C dL_isRefused_1270 rfl 1 rfl ?_
        refine v_ifB_eq C (t := 1342) dL_isRefused_1272 rfl rfl (fun h8 => ?_) (fun h8 => ?_)
        · skip
          refine v_iconst C (v := 1) dL_isRefused_1342 rfl rfl ?_
          refine v_goto C (q := 1347) dL_isRefused_1343 rfl ?_
          refine v_istore C (lv1 := [(10, .int (1)), (13, .int (nI ((tn (s 13 i)) + (tn (s 14 i))))), (12, .int (bI ((tn (s 17 i)) = 0))), (0, .ref (r 4)), (1, .ref (r 0)), (2, .int (nI (X0))), (3, .int (bI (X0 % 2 = 0))), (4, .int (ce)), (5, .int (mi)), (6, .int (cl)), (7, .int (fo)), (8, .long (allF s nm nc nr)), (11, .int (nI (i)))]) dL_isRefused_1347 rfl (by decide) rfl ?_
          refine v_iincN C (lv1 := [(11, .int (nI (i + 1))), (10, .int (1)), (13, .int (nI ((tn (s 13 i)) + (tn (s 14 i))))), (12, .int (bI ((tn (s 17 i)) = 0))), (0, .ref (r 4)), (1, .ref (r 0)), (2, .int (nI (X0))), (3, .int (bI (X0 % 2 = 0))), (4, .int (ce)), (5, .int (mi)), (6, .int (cl)), (7, .int (fo)), (8, .long (allF s nm nc nr))]) i rfl dL_isRefused_1349 rfl 12 rfl (by decide) rfl ?_
          refine v_goto C (q := 868) dL_isRefused_1352 rfl ?_
          refine xx_lv [4, 5, 6, 7, 8, 9, 10, 11, 12, 1, 0] (lv' := [(0, .ref (r 4)), (1, .ref (r 0)), (2, .int (nI (X0))), (3, .int (bI (X0 % 2 = 0))), (4, .int (ce)), (5, .int (mi)), (6, .int (cl)), (7, .int (fo)), (8, .long (allF s nm nc nr)), (10, .int (1)), (11, .int (nI (i + 1)))]) rfl ?_
          exact xx_mono (bm (Nat.le_of_ble_eq_true rfl)) (bm (Nat.le_of_ble_eq_true rfl)) (ih (by omega))
        · skip
          have hd0 : s 17 i = 0 := (hJ.m17 hi).1.eq0.mpr (by first | assumption | omega)
          refine v_aload_n C dL_isRefused_1275 rfl 2 rfl ?_
          refine v_iconst C (v := 5) dL_isRefused_1276 rfl rfl ?_
          refine v_iload C dL_isRefused_1277 rfl 12 rfl ?_
          refine v_iconst C (v := 0) dL_isRefused_1279 rfl rfl ?_
          refine v_iconst C (v := 1) dL_isRefused_1280 rfl rfl ?_
          refine l_bars C (ax_peg (s := s) (nm := nm) (nc := nc) (nr := nr) hst hG hMi hW hJ.bs (e := 3) (cd := -1793000000) (e3_3 ⟨(mi_of hW.cnt.1 hi (by omega)), by decide, by decide⟩ (by decide) (Or.inl (by rw [tn_nI (by omega)]; exact hd0))) (by decide) xL3_3) (B + 127) (D + 2071) ⟨⟨Nat.le_refl _, bl hKc (Nat.le_of_ble_eq_true rfl)⟩, Nat.le_refl _, bl hKn (Nat.le_of_ble_eq_true rfl)⟩ rfl dL_isRefused_1281 rfl ?_
          refine v_if_eq C (t := 1346) dL_isRefused_1284 rfl rfl (fun h => absurd h (by decide)) (fun _ => ?_)
          refine v_aload_n C dL_isRefused_1287 rfl 2 rfl ?_
          refine v_bipush C (v := 6) dL_isRefused_1288 rfl rfl ?_
          refine v_iload C dL_isRefused_1290 rfl 12 rfl ?_
          refine v_iconst C (v := 5) dL_isRefused_1292 rfl rfl ?_
          refine v_iconst C (v := 0) dL_isRefused_1293 rfl rfl ?_
          refine l_bars C (ax_right (s := s) (nm := nm) (nc := nc) (nr := nr) hst hG hMi hW hJ.bs (e := 3) (cd := -1793000000) (e3_3 (mi_of hW.cnt.1 hi (by omega)) (by decide) (Or.inl (by rw [tn_nI (by omega)]; exact hd0))) (by decide) xL3_3) (B + 134) (D + 2190) ⟨⟨Nat.le_refl _, bl hKc (Nat.le_of_ble_eq_true rfl)⟩, Nat.le_refl _, bl hKn (Nat.le_of_ble_eq_true rfl)⟩ rfl dL_isRefused_1294 rfl ?_
          refine v_if_eq C (t := 1346) dL_isRefused_1297 rfl rfl (fun h => absurd h (by decide)) (fun _ => ?_)
          refine v_aload_n C dL_isRefused_1300 rfl 2 rfl ?_
          refine v_bipush C (v := 7) dL_isRefused_1301 rfl rfl ?_
          refine v_iload C dL_isRefused_1303 rfl 12 rfl ?_
          refine v_iload_n C dL_isRefused_1305 rfl 4 rfl ?_
          refine v_bipush C (v := 40) dL_isRefused_1306 rfl rfl ?_
          refine v_iremN C X0 40 rfl rfl (by omega) (by omega) (by omega) dL_isRefused_1308 rfl ?_
          refine v_iconst C (v := 0) dL_isRefused_1309 rfl rfl ?_
          refine l_bars C (ax_work (s := s) (nm := nm) (nc := nc) (nr := nr) hst hG hW hJ.bs (e := 3) (cd := -1793000000) (e3_3 ⟨(mi_of hW.cnt.1 hi (by omega)), (cell_in (by omega))⟩ (by decide) (Or.inl (by rw [tn_nI (by omega)]; exact hd0))) (by decide) xL3_3) (B + 141) (D + 2309) ⟨⟨Nat.le_refl _, bl hKc (Nat.le_of_ble_eq_true rfl)⟩, Nat.le_refl _, bl hKn (Nat.le_of_ble_eq_true rfl)⟩ rfl dL_isRefused_1310 rfl ?_
          refine v_if_eq C (t := 1346) dL_isRefused_1313 rfl rfl (fun h => absurd h (by decide)) (fun _ => ?_)
          refine v_aload_n C dL_isRefused_1316 rfl 2 rfl ?_
          refine v_bipush C (v := 10) dL_isRefused_1317 rfl rfl ?_
          refine v_iload C dL_isRefused_1319 rfl 12 rfl ?_
          refine v_iconst C (v := 5) dL_isRefused_1321 rfl rfl ?_
          refine v_iconst C (v := 0) dL_isRefused_1322 rfl rfl ?_
          refine l_bars C (ax_brass (s := s) (nm := nm) (nc := nc) (nr := nr) hst hG hW hJ.bs (e := 3) (cd := -1793000000) (e3_3 (mi_of hW.cnt.1 hi (by omega)) (by decide) (Or.inl (by rw [tn_nI (by omega)]; exact hd0))) (by decide) xL3_3) (B + 148) (D + 2428) ⟨⟨Nat.le_refl _, bl hKc (Nat.le_of_ble_eq_true rfl)⟩, Nat.le_refl _, bl hKn (Nat.le_of_ble_eq_true rfl)⟩ rfl dL_isRefused_1323 rfl ?_
          refine v_if_eq C (t := 1346) dL_isRefused_1326 rfl rfl (fun h => absurd h (by decide)) (fun _ => ?_)
          refine v_aload_n C dL_isRefused_1329 rfl 2 rfl ?_
          refine v_bipush C (v := 14) dL_isRefused_1330 rfl rfl ?_
          refine v_iload C dL_isRefused_1332 rfl 12 rfl ?_
          refine v_iconst C (v := 1) dL_isRefused_1334 rfl rfl ?_
          refine v_iconst C (v := 0) dL_isRefused_1335 rfl rfl ?_
          refine l_bars C (ax_buy (s := s) (nm := nm) (nc := nc) (nr := nr) hst hG hW hJ.bs (e := 3) (cd := -1793000000) (e3_3 (mi_of hW.cnt.1 hi (by omega)) (by decide) (Or.inl (by rw [tn_nI (by omega)]; exact hd0))) (by decide) xL3_3) (B + 155) (D + 2547) ⟨⟨Nat.le_refl _, bl hKc (Nat.le_of_ble_eq_true rfl)⟩, Nat.le_refl _, bl hKn (Nat.le_of_ble_eq_true rfl)⟩ rfl dL_isRefused_1336 rfl ?_
          refine v_if_eq C (t := 1346) dL_isRefused_1339 rfl rfl (fun h => absurd h (by decide)) (fun _ => ?_)
          refine v_iconst C (v := 1) dL_isRefused_1342 rfl rfl ?_
          refine v_goto C (q := 1347) dL_isRefused_1343 rfl ?_
          refine v_istore C (lv1 := [(10, .int (1)), (13, .int (nI ((tn (s 13 i)) + (tn (s 14 i))))), (12, .int (bI ((tn (s 17 i)) = 0))), (0, .ref (r 4)), (1, .ref (r 0)), (2, .int (nI (X0))), (3, .int (bI (X0 % 2 = 0))), (4, .int (ce)), (5, .int (mi)), (6, .int (cl)), (7, .int (fo)), (8, .long (allF s nm nc nr)), (11, .int (nI (i)))]) dL_isRefused_1347 rfl (by decide) rfl ?_
          refine v_iincN C (lv1 := [(11, .int (nI (i + 1))), (10, .int (1)), (13, .int (nI ((tn (s 13 i)) + (tn (s 14 i))))), (12, .int (bI ((tn (s 17 i)) = 0))), (0, .ref (r 4)), (1, .ref (r 0)), (2, .int (nI (X0))), (3, .int (bI (X0 % 2 = 0))), (4, .int (ce)), (5, .int (mi)), (6, .int (cl)), (7, .int (fo)), (8, .long (allF s nm nc nr))]) i rfl dL_isRefused_1349 rfl 12 rfl (by decide) rfl ?_
          refine v_goto C (q := 868) dL_isRefused_1352 rfl ?_
          refine xx_lv [4, 5, 6, 7, 8, 9, 10, 11, 12, 1, 0] (lv' := [(0, .ref (r 4)), (1, .ref (r 0)), (2, .int (nI (X0))), (3, .int (bI (X0 % 2 = 0))), (4, .int (ce)), (5, .int (mi)), (6, .int (cl)), (7, .int (fo)), (8, .long (allF s nm nc nr)), (10, .int (1)), (11, .int (nI (i + 1)))]) rfl ?_
          exact xx_mono (bm (Nat.le_of_ble_eq_true rfl)) (bm (Nat.le_of_ble_eq_true rfl)) (ih (by omega))
      · skip
        refine v_aload_n C dL_isRefused_1249 rfl 2 rfl ?_
        refine v_bipush C (v := 9) dL_isRefused_1250 rfl rfl ?_
        refine v_iload C dL_isRefused_1252 rfl 12 rfl ?_
        refine v_iconst C (v := 5) dL_isRefused_1254 rfl rfl ?_
        refine v_aload_n C dL_isRefused_1255 rfl 2 rfl ?_
        refine v_iload C dL_isRefused_1256 rfl 12 rfl ?_
        refine v_iconst C (v := 0) dL_isRefused_1258 rfl rfl ?_
        refine q_m0 C hW hJ (i := i) (by omega) (B + 122) (D + 1964) ⟨⟨Nat.le_refl _, bl hKc (Nat.le_of_ble_eq_true rfl)⟩, Nat.le_refl _, bl hKn (Nat.le_of_ble_eq_true rfl)⟩ rfl dL_isRefused_1259 rfl (fun b9 => ?_)
        refine v_iconst C (v := 1) dL_isRefused_1262 rfl rfl ?_
        refine v_iaddN C (tn (s 13 i)) 1 rfl rfl dL_isRefused_1263 rfl ?_
        refine l_bars C (ax_salt (s := s) (nm := nm) (nc := nc) (nr := nr) hst hG hW hJ.bs (e := 3) (cd := -1793000000) (e3_3 ⟨(mi_of hW.cnt.1 hi (by omega)), by decide⟩ ⟨nI_le (a := 1) (by omega) (by omega), nI_le (b := 10000) (by omega) (by omega)⟩ (Or.inr (by rw [tn_nI (show i < 2 ^ 31 by omega)]; exact ((hJ.m13 hi).1.ltc (by omega)).mpr (by omega)))) (by decide) xL3_3) (B + 129) (D + 2083) ⟨⟨Nat.le_refl _, bl hKc (Nat.le_of_ble_eq_true rfl)⟩, Nat.le_refl _, bl hKn (Nat.le_of_ble_eq_true rfl)⟩ rfl dL_isRefused_1264 rfl ?_
        refine v_if_eq C (t := 1346) dL_isRefused_1267 rfl rfl (fun h => absurd h (by decide)) (fun _ => ?_)
        refine v_iload C dL_isRefused_1270 rfl 1 rfl ?_
        refine v_ifB_eq C (t := 1342) dL_isRefused_1272 rfl rfl (fun h10 => ?_) (fun h10 => ?_)
        · skip
          refine v_iconst C (v := 1) dL_isRefused_1342 rfl rfl ?_
          refine v_goto C (q := 1347) dL_isRefused_1343 rfl ?_
          refine v_istore C (lv1 := [(10, .int (1)), (13, .int (nI ((tn (s 13 i)) + (tn (s 14 i))))), (12, .int (bI ((tn (s 17 i)) = 0))), (0, .ref (r 4)), (1, .ref (r 0)), (2, .int (nI (X0))), (3, .int (bI (X0 % 2 = 0))), (4, .int (ce)), (5, .int (mi)), (6, .int (cl)), (7, .int (fo)), (8, .long (allF s nm nc nr)), (11, .int (nI (i)))]) dL_isRefused_1347 rfl (by decide) rfl ?_
          refine v_iincN C (lv1 := [(11, .int (nI (i + 1))), (10, .int (1)), (13, .int (nI ((tn (s 13 i)) + (tn (s 14 i))))), (12, .int (bI ((tn (s 17 i)) = 0))), (0, .ref (r 4)), (1, .ref (r 0)), (2, .int (nI (X0))), (3, .int (bI (X0 % 2 = 0))), (4, .int (ce)), (5, .int (mi)), (6, .int (cl)), (7, .int (fo)), (8, .long (allF s nm nc nr))]) i rfl dL_isRefused_1349 rfl 12 rfl (by decide) rfl ?_
          refine v_goto C (q := 868) dL_isRefused_1352 rfl ?_
          refine xx_lv [4, 5, 6, 7, 8, 9, 10, 11, 12, 1, 0] (lv' := [(0, .ref (r 4)), (1, .ref (r 0)), (2, .int (nI (X0))), (3, .int (bI (X0 % 2 = 0))), (4, .int (ce)), (5, .int (mi)), (6, .int (cl)), (7, .int (fo)), (8, .long (allF s nm nc nr)), (10, .int (1)), (11, .int (nI (i + 1)))]) rfl ?_
          exact xx_mono (bm (Nat.le_of_ble_eq_true rfl)) (bm (Nat.le_of_ble_eq_true rfl)) (ih (by omega))
        · skip
          have hd0 : s 17 i = 0 := (hJ.m17 hi).1.eq0.mpr (by first | assumption | omega)
          refine v_aload_n C dL_isRefused_1275 rfl 2 rfl ?_
          refine v_iconst C (v := 5) dL_isRefused_1276 rfl rfl ?_
          refine v_iload C dL_isRefused_1277 rfl 12 rfl ?_
          refine v_iconst C (v := 0) dL_isRefused_1279 rfl rfl ?_
          refine v_iconst C (v := 1) dL_isRefused_1280 rfl rfl ?_
          refine l_bars C (ax_peg (s := s) (nm := nm) (nc := nc) (nr := nr) hst hG hMi hW hJ.bs (e := 3) (cd := -1793000000) (e3_3 ⟨(mi_of hW.cnt.1 hi (by omega)), by decide, by decide⟩ (by decide) (Or.inl (by rw [tn_nI (by omega)]; exact hd0))) (by decide) xL3_3) (B + 136) (D + 2202) ⟨⟨Nat.le_refl _, bl hKc (Nat.le_of_ble_eq_true rfl)⟩, Nat.le_refl _, bl hKn (Nat.le_of_ble_eq_true rfl)⟩ rfl dL_isRefused_1281 rfl ?_
          refine v_if_eq C (t := 1346) dL_isRefused_1284 rfl rfl (fun h => absurd h (by decide)) (fun _ => ?_)
          refine v_aload_n C dL_isRefused_1287 rfl 2 rfl ?_
          refine v_bipush C (v := 6) dL_isRefused_1288 rfl rfl ?_
          refine v_iload C dL_isRefused_1290 rfl 12 rfl ?_
          refine v_iconst C (v := 5) dL_isRefused_1292 rfl rfl ?_
          refine v_iconst C (v := 0) dL_isRefused_1293 rfl rfl ?_
          refine l_bars C (ax_right (s := s) (nm := nm) (nc := nc) (nr := nr) hst hG hMi hW hJ.bs (e := 3) (cd := -1793000000) (e3_3 (mi_of hW.cnt.1 hi (by omega)) (by decide) (Or.inl (by rw [tn_nI (by omega)]; exact hd0))) (by decide) xL3_3) (B + 143) (D + 2321) ⟨⟨Nat.le_refl _, bl hKc (Nat.le_of_ble_eq_true rfl)⟩, Nat.le_refl _, bl hKn (Nat.le_of_ble_eq_true rfl)⟩ rfl dL_isRefused_1294 rfl ?_
          refine v_if_eq C (t := 1346) dL_isRefused_1297 rfl rfl (fun h => absurd h (by decide)) (fun _ => ?_)
          refine v_aload_n C dL_isRefused_1300 rfl 2 rfl ?_
          refine v_bipush C (v := 7) dL_isRefused_1301 rfl rfl ?_
          refine v_iload C dL_isRefused_1303 rfl 12 rfl ?_
          refine v_iload_n C dL_isRefused_1305 rfl 4 rfl ?_
          refine v_bipush C (v := 40) dL_isRefused_1306 rfl rfl ?_
          refine v_iremN C X0 40 rfl rfl (by omega) (by omega) (by omega) dL_isRefused_1308 rfl ?_
          refine v_iconst C (v := 0) dL_isRefused_1309 rfl rfl ?_
          refine l_bars C (ax_work (s := s) (nm := nm) (nc := nc) (nr := nr) hst hG hW hJ.bs (e := 3) (cd := -1793000000) (e3_3 ⟨(mi_of hW.cnt.1 hi (by omega)), (cell_in (by omega))⟩ (by decide) (Or.inl (by rw [tn_nI (by omega)]; exact hd0))) (by decide) xL3_3) (B + 150) (D + 2440) ⟨⟨Nat.le_refl _, bl hKc (Nat.le_of_ble_eq_true rfl)⟩, Nat.le_refl _, bl hKn (Nat.le_of_ble_eq_true rfl)⟩ rfl dL_isRefused_1310 rfl ?_
          refine v_if_eq C (t := 1346) dL_isRefused_1313 rfl rfl (fun h => absurd h (by decide)) (fun _ => ?_)
          refine v_aload_n C dL_isRefused_1316 rfl 2 rfl ?_
          refine v_bipush C (v := 10) dL_isRefused_1317 rfl rfl ?_
          refine v_iload C dL_isRefused_1319 rfl 12 rfl ?_
          refine v_iconst C (v := 5) dL_isRefused_1321 rfl rfl ?_
          refine v_iconst C (v := 0) dL_isRefused_1322 rfl rfl ?_
          refine l_bars C (ax_brass (s := s) (nm := nm) (nc := nc) (nr := nr) hst hG hW hJ.bs (e := 3) (cd := -1793000000) (e3_3 (mi_of hW.cnt.1 hi (by omega)) (by decide) (Or.inl (by rw [tn_nI (by omega)]; exact hd0))) (by decide) xL3_3) (B + 157) (D + 2559) ⟨⟨Nat.le_refl _, bl hKc (Nat.le_of_ble_eq_true rfl)⟩, Nat.le_refl _, bl hKn (Nat.le_of_ble_eq_true rfl)⟩ rfl dL_isRefused_1323 rfl ?_
          refine v_if_eq C (t := 1346) dL_isRefused_1326 rfl rfl (fun h => absurd h (by decide)) (fun _ => ?_)
          refine v_aload_n C dL_isRefused_1329 rfl 2 rfl ?_
          refine v_bipush C (v := 14) dL_isRefused_1330 rfl rfl ?_
          refine v_iload C dL_isRefused_1332 rfl 12 rfl ?_
          refine v_iconst C (v := 1) dL_isRefused_1334 rfl rfl ?_
          refine v_iconst C (v := 0) dL_isRefused_1335 rfl rfl ?_
          refine l_bars C (ax_buy (s := s) (nm := nm) (nc := nc) (nr := nr) hst hG hW hJ.bs (e := 3) (cd := -1793000000) (e3_3 (mi_of hW.cnt.1 hi (by omega)) (by decide) (Or.inl (by rw [tn_nI (by omega)]; exact hd0))) (by decide) xL3_3) (B + 164) (D + 2678) ⟨⟨Nat.le_refl _, bl hKc (Nat.le_of_ble_eq_true rfl)⟩, Nat.le_refl _, bl hKn (Nat.le_of_ble_eq_true rfl)⟩ rfl dL_isRefused_1336 rfl ?_
          refine v_if_eq C (t := 1346) dL_isRefused_1339 rfl rfl (fun h => absurd h (by decide)) (fun _ => ?_)
          refine v_iconst C (v := 1) dL_isRefused_1342 rfl rfl ?_
          refine v_goto C (q := 1347) dL_isRefused_1343 rfl ?_
          refine v_istore C (lv1 := [(10, .int (1)), (13, .int (nI ((tn (s 13 i)) + (tn (s 14 i))))), (12, .int (bI ((tn (s 17 i)) = 0))), (0, .ref (r 4)), (1, .ref (r 0)), (2, .int (nI (X0))), (3, .int (bI (X0 % 2 = 0))), (4, .int (ce)), (5, .int (mi)), (6, .int (cl)), (7, .int (fo)), (8, .long (allF s nm nc nr)), (11, .int (nI (i)))]) dL_isRefused_1347 rfl (by decide) rfl ?_
          refine v_iincN C (lv1 := [(11, .int (nI (i + 1))), (10, .int (1)), (13, .int (nI ((tn (s 13 i)) + (tn (s 14 i))))), (12, .int (bI ((tn (s 17 i)) = 0))), (0, .ref (r 4)), (1, .ref (r 0)), (2, .int (nI (X0))), (3, .int (bI (X0 % 2 = 0))), (4, .int (ce)), (5, .int (mi)), (6, .int (cl)), (7, .int (fo)), (8, .long (allF s nm nc nr))]) i rfl dL_isRefused_1349 rfl 12 rfl (by decide) rfl ?_
          refine v_goto C (q := 868) dL_isRefused_1352 rfl ?_
          refine xx_lv [4, 5, 6, 7, 8, 9, 10, 11, 12, 1, 0] (lv' := [(0, .ref (r 4)), (1, .ref (r 0)), (2, .int (nI (X0))), (3, .int (bI (X0 % 2 = 0))), (4, .int (ce)), (5, .int (mi)), (6, .int (cl)), (7, .int (fo)), (8, .long (allF s nm nc nr)), (10, .int (1)), (11, .int (nI (i + 1)))]) rfl ?_
          exact xx_mono (bm (Nat.le_of_ble_eq_true rfl)) (bm (Nat.le_of_ble_eq_true rfl)) (ih (by omega))
    refine v_ifN_ne C (t := 895) (tn (s 17 i)) rfl (by omega) dL_isRefused_888 rfl rfl (fun h3 => ?_) (fun h3 => ?_)
    · skip
      refine v_iconst C (v := 0) dL_isRefused_895 rfl rfl ?_
      exact jj _ (bI_f (by first | assumption | omega)).symm
    · skip
      refine v_iconst C (v := 1) dL_isRefused_891 rfl rfl ?_
      refine v_goto C (q := 896) dL_isRefused_892 rfl ?_
      exact jj _ (bI_t (by first | assumption | omega)).symm

theorem sg_refL_C {X : XS} {G : GG} {w : va_W} {Q : State → Prop} {r : Nat → Nat} {s t : SS} {nm nc nr k B D : Nat} {X0 : Nat} {ce mi cl fo : Int32} {i : Nat} (C : Cx X G cL_isRefused 14 RL (Option.some Jvm.ClassFile.FieldType.boolean) r_L_isRefused "isRefused" []) (hW : Wd G r s t nm nc nr w) (hJ : Js s nm nc nr k) (hMi : MiOK G) (hk : k ≤ 131) (hT : K9 s t nm nc nr k) (hX : X0 < 2 ^ 31) (hlow : X0 % 2 = 0) (hce : ¬ ((0 : Int32) ≤ ce ∧ ce ≤ 39)) (hmi : ¬ ((0 : Int32) ≤ mi ∧ mi ≤ s 12 0 - 1)) (hcl : ¬ ((0 : Int32) ≤ cl ∧ cl ≤ s 21 0 - 1)) (hfo : ¬ ((0 : Int32) ≤ fo ∧ fo ≤ 3)) (hi0 : i ≤ nc) (hKc : B + 53 ≤ r_L_isRefused.cells) (hKn : D + 857 ≤ r_L_isRefused.slots) (ih : i < nc → V X G 14 w (B + 53) (D + 857) Q 1358 [(0, .ref (r 4)), (1, .ref (r 0)), (2, .int (nI (X0))), (3, .int (bI (X0 % 2 = 0))), (4, .int (ce)), (5, .int (mi)), (6, .int (cl)), (7, .int (fo)), (8, .long (allF s nm nc nr)), (10, .int (1)), (11, .int (nI (i + 1)))] []) (kk : V X G 14 w (B + 53) (D + 857) Q 1539 [(0, .ref (r 4)), (1, .ref (r 0)), (2, .int (nI (X0))), (3, .int (bI (X0 % 2 = 0))), (4, .int (ce)), (5, .int (mi)), (6, .int (cl)), (7, .int (fo)), (8, .long (allF s nm nc nr)), (10, .int (1)), (11, .int (nI (nc)))] []) : V X G 14 w B D Q 1358 [(0, .ref (r 4)), (1, .ref (r 0)), (2, .int (nI (X0))), (3, .int (bI (X0 % 2 = 0))), (4, .int (ce)), (5, .int (mi)), (6, .int (cl)), (7, .int (fo)), (8, .long (allF s nm nc nr)), (10, .int (1)), (11, .int (nI (i)))] [] := by
  have hst : X.2.1.stackTraces = false := C.2.2.2.2.2.1
  have hG : GOK G := C.2.2.2.2.2.2.2.2.2.1
  have hm := hJ.1.1
  refine v_iload C dL_isRefused_1358 rfl 10 rfl ?_
  refine v_aload_n C dL_isRefused_1360 rfl 1 rfl ?_
  refine v_iconst C (v := 1) dL_isRefused_1361 rfl rfl ?_
  refine v_mld C hW 0 (by decide) 1 (show 1 < 6 by omega) dL_isRefused_1362 rfl ?_
  refine xx_top (y := nI (nc)) hT.1.2.1 ?_
  refine v_icN_ge C (t := 1539) i nc rfl rfl (by omega) (by omega) dL_isRefused_1363 rfl rfl (fun h1 => ?_) (fun h1 => ?_)
  · skip
    obtain rfl : nc = i := by omega
    refine xx_lv [0, 1, 2, 3, 4, 5, 6, 7, 8, 9, 10] (lv' := [(0, .ref (r 4)), (1, .ref (r 0)), (2, .int (nI (X0))), (3, .int (bI (X0 % 2 = 0))), (4, .int (ce)), (5, .int (mi)), (6, .int (cl)), (7, .int (fo)), (8, .long (allF s nm nc nr)), (10, .int (1)), (11, .int (nI (nc)))]) rfl ?_
    exact xx_mono (Nat.le_add_right _ _) (Nat.le_add_right _ _) (kk)
  · skip
    have hi : i < nc := by omega
    refine v_iload C dL_isRefused_1366 rfl 9 rfl ?_
    refine v_if_eq C (t := 1539) dL_isRefused_1368 rfl rfl (fun h => absurd h (by decide)) (fun _ => ?_)
    refine v_aload_n C dL_isRefused_1371 rfl 0 rfl ?_
    refine v_iload C dL_isRefused_1372 rfl 10 rfl ?_
    refine v_iconst C (v := 0) dL_isRefused_1374 rfl rfl ?_
    refine q_c0 C hW hJ (i := i) (by omega) (B + 2) (D + 12) ⟨⟨Nat.le_refl _, bl hKc (Nat.le_of_ble_eq_true rfl)⟩, Nat.le_refl _, bl hKn (Nat.le_of_ble_eq_true rfl)⟩ rfl dL_isRefused_1375 rfl (fun b2 => ?_)
    refine v_istore C (lv1 := [(12, .int (nI (tn (s 22 i)))), (0, .ref (r 4)), (1, .ref (r 0)), (2, .int (nI (X0))), (3, .int (bI (X0 % 2 = 0))), (4, .int (ce)), (5, .int (mi)), (6, .int (cl)), (7, .int (fo)), (8, .long (allF s nm nc nr)), (10, .int (1)), (11, .int (nI (i)))]) dL_isRefused_1378 rfl (by decide) rfl ?_
    refine v_aload_n C dL_isRefused_1380 rfl 1 rfl ?_
    refine v_bipush C (v := 17) dL_isRefused_1381 rfl rfl ?_
    refine v_iload C dL_isRefused_1383 rfl 11 rfl ?_
    refine v_iload C dL_isRefused_1385 rfl 6 rfl ?_
    refine v_iconst C (v := 0) dL_isRefused_1387 rfl rfl ?_
    refine l_no C (ax_trade (s := s) (nm := nm) (nc := nc) (nr := nr) hst hG hW hJ.bs (e := 1) (cd := -1791000000) (e3_1 (fun h => hmi h.2)) (by decide) xL3_1) (B + 9) (D + 131) ⟨⟨Nat.le_refl _, bl hKc (Nat.le_of_ble_eq_true rfl)⟩, Nat.le_refl _, bl hKn (Nat.le_of_ble_eq_true rfl)⟩ rfl dL_isRefused_1388 rfl ?_
    refine v_if_eq C (t := 1530) dL_isRefused_1391 rfl rfl (fun h => absurd h (by decide)) (fun _ => ?_)
    refine v_aload_n C dL_isRefused_1394 rfl 1 rfl ?_
    refine v_bipush C (v := 17) dL_isRefused_1395 rfl rfl ?_
    refine v_iload C dL_isRefused_1397 rfl 11 rfl ?_
    refine v_iload C dL_isRefused_1399 rfl 0 rfl ?_
    refine v_iconst C (v := 0) dL_isRefused_1401 rfl rfl ?_
    refine l_off C (ax_trade (s := s) (nm := nm) (nc := nc) (nr := nr) hst hG hW hJ.bs (e := 2) (cd := -1792000000) (e3_2 ⟨(mi_of hW.cnt.2.1 hi (by omega)), mi_of hW.cnt.1 (hJ.c22 hi).2 (by omega)⟩ (fun h => h.2 (by rw [tn_nI (show i < 2 ^ 31 by omega)]; exact (hJ.c22 hi).1.e.symm))) (by decide) xL3_2) (B + 16) (D + 250) ⟨⟨Nat.le_refl _, bl hKc (Nat.le_of_ble_eq_true rfl)⟩, Nat.le_refl _, bl hKn (Nat.le_of_ble_eq_true rfl)⟩ rfl dL_isRefused_1402 rfl ?_
    refine v_if_eq C (t := 1530) dL_isRefused_1405 rfl rfl (fun h => absurd h (by decide)) (fun _ => ?_)
    refine v_aload_n C dL_isRefused_1408 rfl 1 rfl ?_
    refine v_bipush C (v := 21) dL_isRefused_1409 rfl rfl ?_
    refine v_iload C dL_isRefused_1411 rfl 11 rfl ?_
    refine v_iload_n C dL_isRefused_1413 rfl 4 rfl ?_
    refine v_ifB_eq C (t := 1426) dL_isRefused_1414 rfl rfl (fun h => absurd hlow h) (fun _ => ?_)
    refine v_iconst C (v := (-1)) dL_isRefused_1417 rfl rfl ?_
    refine v_iload_n C dL_isRefused_1418 rfl 3 rfl ?_
    refine v_bipush C (v := 30) dL_isRefused_1419 rfl rfl ?_
    refine v_iremN C X0 30 rfl rfl (by omega) (by omega) (by omega) dL_isRefused_1421 rfl ?_
    refine v_isub C dL_isRefused_1422 rfl ?_
    refine v_goto C (q := 1428) dL_isRefused_1423 rfl ?_
    refine v_iconst C (v := 0) dL_isRefused_1428 rfl rfl ?_
    refine l_off C (ax_ofClaim (s := s) (nm := nm) (nc := nc) (nr := nr) hst hG hW hJ.bs (e := 2) (cd := -1792000000) (e2_2 (mi_of hW.cnt.2.1 hi (by omega)) (fun h => ng (by omega) (h.1))) (by decide) xLIA_2) (B + 23) (D + 369) ⟨⟨Nat.le_refl _, bl hKc (Nat.le_of_ble_eq_true rfl)⟩, Nat.le_refl _, bl hKn (Nat.le_of_ble_eq_true rfl)⟩ rfl dL_isRefused_1429 rfl ?_
    refine v_if_eq C (t := 1530) dL_isRefused_1432 rfl rfl (fun h => absurd h (by decide)) (fun _ => ?_)
    refine v_aload_n C dL_isRefused_1435 rfl 1 rfl ?_
    refine v_bipush C (v := 27) dL_isRefused_1436 rfl rfl ?_
    refine v_iload C dL_isRefused_1438 rfl 11 rfl ?_
    refine v_iload C dL_isRefused_1440 rfl 8 rfl ?_
    refine v_iconst C (v := 0) dL_isRefused_1442 rfl rfl ?_
    refine l_off C (ax_plan (s := s) (nm := nm) (nc := nc) (nr := nr) hst hG hW hJ.bs (e := 2) (cd := -1792000000) (e3_2 (mi_of hW.cnt.2.1 hi (by omega)) hfo) (by decide) xL3_2) (B + 30) (D + 488) ⟨⟨Nat.le_refl _, bl hKc (Nat.le_of_ble_eq_true rfl)⟩, Nat.le_refl _, bl hKn (Nat.le_of_ble_eq_true rfl)⟩ rfl dL_isRefused_1443 rfl ?_
    refine v_if_eq C (t := 1530) dL_isRefused_1446 rfl rfl (fun h => absurd h (by decide)) (fun _ => ?_)
    refine v_aload_n C dL_isRefused_1449 rfl 1 rfl ?_
    refine v_bipush C (v := 28) dL_isRefused_1450 rfl rfl ?_
    refine v_iload C dL_isRefused_1452 rfl 11 rfl ?_
    refine v_bipush C (v := 9) dL_isRefused_1454 rfl rfl ?_
    refine v_iconst C (v := (-1)) dL_isRefused_1456 rfl rfl ?_
    refine v_iload_n C dL_isRefused_1457 rfl 3 rfl ?_
    refine v_bipush C (v := 30) dL_isRefused_1458 rfl rfl ?_
    refine v_iremN C X0 30 rfl rfl (by omega) (by omega) (by omega) dL_isRefused_1460 rfl ?_
    refine v_isub C dL_isRefused_1461 rfl ?_
    refine l_no C (ax_planCell (s := s) (nm := nm) (nc := nc) (nr := nr) hst hG hW hJ.bs (e := 1) (cd := -1791000000) (e3_1 (fun h => ng (by omega) h.2)) (by decide) xL3_1) (B + 37) (D + 607) ⟨⟨Nat.le_refl _, bl hKc (Nat.le_of_ble_eq_true rfl)⟩, Nat.le_refl _, bl hKn (Nat.le_of_ble_eq_true rfl)⟩ rfl dL_isRefused_1462 rfl ?_
    refine v_if_eq C (t := 1530) dL_isRefused_1465 rfl rfl (fun h => absurd h (by decide)) (fun _ => ?_)
    refine v_aload_n C dL_isRefused_1468 rfl 1 rfl ?_
    refine v_bipush C (v := 28) dL_isRefused_1469 rfl rfl ?_
    refine v_iload C dL_isRefused_1471 rfl 11 rfl ?_
    refine v_iload C dL_isRefused_1473 rfl 8 rfl ?_
    refine v_iconst C (v := 0) dL_isRefused_1475 rfl rfl ?_
    refine l_off C (ax_planCell (s := s) (nm := nm) (nc := nc) (nr := nr) hst hG hW hJ.bs (e := 2) (cd := -1792000000) (e3_2 ⟨(mi_of hW.cnt.2.1 hi (by omega)), by decide⟩ hfo) (by decide) xL3_2) (B + 44) (D + 726) ⟨⟨Nat.le_refl _, bl hKc (Nat.le_of_ble_eq_true rfl)⟩, Nat.le_refl _, bl hKn (Nat.le_of_ble_eq_true rfl)⟩ rfl dL_isRefused_1476 rfl ?_
    refine v_if_eq C (t := 1530) dL_isRefused_1479 rfl rfl (fun h => absurd h (by decide)) (fun _ => ?_)
    refine v_aload_n C dL_isRefused_1482 rfl 1 rfl ?_
    refine v_iload C dL_isRefused_1483 rfl 11 rfl ?_
    refine v_iconst C (v := 3) dL_isRefused_1485 rfl rfl ?_
    refine q_c3 C hW hJ (i := i) (by omega) (B + 46) (D + 738) ⟨⟨Nat.le_refl _, bl hKc (Nat.le_of_ble_eq_true rfl)⟩, Nat.le_refl _, bl hKn (Nat.le_of_ble_eq_true rfl)⟩ rfl dL_isRefused_1486 rfl (fun b3 => ?_)
    refine v_iconst C (v := 1) dL_isRefused_1489 rfl rfl ?_
    refine v_icN_eq C (t := 1526) (tn (s 25 i)) 1 rfl rfl (by omega) (by omega) dL_isRefused_1490 rfl rfl (fun h4 => ?_) (fun h4 => ?_)
    · skip
      refine v_iconst C (v := 1) dL_isRefused_1526 rfl rfl ?_
      refine v_goto C (q := 1531) dL_isRefused_1527 rfl ?_
      refine v_istore C (lv1 := [(10, .int (1)), (12, .int (nI (tn (s 22 i)))), (0, .ref (r 4)), (1, .ref (r 0)), (2, .int (nI (X0))), (3, .int (bI (X0 % 2 = 0))), (4, .int (ce)), (5, .int (mi)), (6, .int (cl)), (7, .int (fo)), (8, .long (allF s nm nc nr)), (11, .int (nI (i)))]) dL_isRefused_1531 rfl (by decide) rfl ?_
      refine v_iincN C (lv1 := [(11, .int (nI (i + 1))), (10, .int (1)), (12, .int (nI (tn (s 22 i)))), (0, .ref (r 4)), (1, .ref (r 0)), (2, .int (nI (X0))), (3, .int (bI (X0 % 2 = 0))), (4, .int (ce)), (5, .int (mi)), (6, .int (cl)), (7, .int (fo)), (8, .long (allF s nm nc nr))]) i rfl dL_isRefused_1533 rfl 11 rfl (by decide) rfl ?_
      refine v_goto C (q := 1358) dL_isRefused_1536 rfl ?_
      refine xx_lv [3, 4, 5, 6, 7, 8, 9, 10, 11, 1, 0] (lv' := [(0, .ref (r 4)), (1, .ref (r 0)), (2, .int (nI (X0))), (3, .int (bI (X0 % 2 = 0))), (4, .int (ce)), (5, .int (mi)), (6, .int (cl)), (7, .int (fo)), (8, .long (allF s nm nc nr)), (10, .int (1)), (11, .int (nI (i + 1)))]) rfl ?_
      exact xx_mono (bm (Nat.le_of_ble_eq_true rfl)) (bm (Nat.le_of_ble_eq_true rfl)) (ih (by omega))
    · skip
      have hlap : s 25 i = 0 := (z01 (hJ.c25 hi)).1.eq0.mpr (by omega)
      by_cases h1m : nm = 1
      · skip
        refine v_aload_n C dL_isRefused_1493 rfl 1 rfl ?_
        refine v_bipush C (v := 17) dL_isRefused_1494 rfl rfl ?_
        refine v_iload C dL_isRefused_1496 rfl 11 rfl ?_
        refine v_iload C dL_isRefused_1498 rfl 0 rfl ?_
        refine v_ifN_ne C (t := 1511) (tn (s 22 i)) rfl (by omega) dL_isRefused_1500 rfl rfl (fun h5 => ?_) (fun h5 => ?_)
        · skip
          refine v_iconst C (v := 0) dL_isRefused_1511 rfl rfl ?_
          refine v_iconst C (v := 0) dL_isRefused_1512 rfl rfl ?_
          refine l_bars0 C (cd := -1792000000) (by decide) (ax_trade (s := s) (nm := nm) (nc := nc) (nr := nr) hst hG hW hJ.bs (e := 2) (cd := -1792000000) (e3_2 ⟨(mi_of hW.cnt.2.1 hi (by omega)), mi_of hW.cnt.1 (j := 0) (by omega) (by omega)⟩ (fun h => h.2 (by rw [tn_nI (show i < 2 ^ 31 by omega), (hJ.c22 hi).1.e]; exact congrArg nI (by omega)))) (by decide) xL3_2) (B + 53) (D + 857) ⟨⟨Nat.le_refl _, bl hKc (Nat.le_of_ble_eq_true rfl)⟩, Nat.le_refl _, bl hKn (Nat.le_of_ble_eq_true rfl)⟩ rfl dL_isRefused_1513 rfl ?_
          refine v_if_ne C (t := 1526) dL_isRefused_1516 rfl rfl (fun h => absurd h (by decide)) (fun _ => ?_)
          refine v_aload_n C dL_isRefused_1519 rfl 2 rfl ?_
          refine v_iconst C (v := 0) dL_isRefused_1520 rfl rfl ?_
          refine v_mld C hW 0 (by decide) 0 (show 0 < 6 by omega) dL_isRefused_1521 rfl ?_
          refine xx_top (y := nI (nm)) hT.1.1 ?_
          refine v_iconst C (v := 1) dL_isRefused_1522 rfl rfl ?_
          refine v_icN_ne C (t := 1530) nm 1 rfl rfl (by omega) (by omega) dL_isRefused_1523 rfl rfl (fun h => (by omega : False).elim) (fun h6 => ?_)
          refine v_iconst C (v := 1) dL_isRefused_1526 rfl rfl ?_
          refine v_goto C (q := 1531) dL_isRefused_1527 rfl ?_
          refine v_istore C (lv1 := [(10, .int (1)), (12, .int (nI (tn (s 22 i)))), (0, .ref (r 4)), (1, .ref (r 0)), (2, .int (nI (X0))), (3, .int (bI (X0 % 2 = 0))), (4, .int (ce)), (5, .int (mi)), (6, .int (cl)), (7, .int (fo)), (8, .long (allF s nm nc nr)), (11, .int (nI (i)))]) dL_isRefused_1531 rfl (by decide) rfl ?_
          refine v_iincN C (lv1 := [(11, .int (nI (i + 1))), (10, .int (1)), (12, .int (nI (tn (s 22 i)))), (0, .ref (r 4)), (1, .ref (r 0)), (2, .int (nI (X0))), (3, .int (bI (X0 % 2 = 0))), (4, .int (ce)), (5, .int (mi)), (6, .int (cl)), (7, .int (fo)), (8, .long (allF s nm nc nr))]) i rfl dL_isRefused_1533 rfl 11 rfl (by decide) rfl ?_
          refine v_goto C (q := 1358) dL_isRefused_1536 rfl ?_
          refine xx_lv [3, 4, 5, 6, 7, 8, 9, 10, 11, 1, 0] (lv' := [(0, .ref (r 4)), (1, .ref (r 0)), (2, .int (nI (X0))), (3, .int (bI (X0 % 2 = 0))), (4, .int (ce)), (5, .int (mi)), (6, .int (cl)), (7, .int (fo)), (8, .long (allF s nm nc nr)), (10, .int (1)), (11, .int (nI (i + 1)))]) rfl ?_
          exact xx_mono (bm (Nat.le_of_ble_eq_true rfl)) (bm (Nat.le_of_ble_eq_true rfl)) (ih (by omega))
        · skip
          refine v_aload_n C dL_isRefused_1503 rfl 2 rfl ?_
          refine v_iconst C (v := 0) dL_isRefused_1504 rfl rfl ?_
          refine v_mld C hW 0 (by decide) 0 (show 0 < 6 by omega) dL_isRefused_1505 rfl ?_
          refine xx_top (y := nI (nm)) hT.1.1 ?_
          refine v_iconst C (v := 1) dL_isRefused_1506 rfl rfl ?_
          refine v_isubN C nm 1 (by omega) rfl rfl dL_isRefused_1507 rfl ?_
          refine v_goto C (q := 1512) dL_isRefused_1508 rfl ?_
          refine v_iconst C (v := 0) dL_isRefused_1512 rfl rfl ?_
          refine l_bars0 C (cd := -1792000000) (by decide) (ax_trade (s := s) (nm := nm) (nc := nc) (nr := nr) hst hG hW hJ.bs (e := 2) (cd := -1792000000) (e3_2 ⟨(mi_of hW.cnt.2.1 hi (by omega)), mi_of hW.cnt.1 (j := nm - 1) (by omega) (by omega)⟩ (fun h => h.2 (by rw [tn_nI (show i < 2 ^ 31 by omega), (hJ.c22 hi).1.e]; exact congrArg nI (by omega)))) (by decide) xL3_2) (B + 53) (D + 857) ⟨⟨Nat.le_refl _, bl hKc (Nat.le_of_ble_eq_true rfl)⟩, Nat.le_refl _, bl hKn (Nat.le_of_ble_eq_true rfl)⟩ rfl dL_isRefused_1513 rfl ?_
          refine v_if_ne C (t := 1526) dL_isRefused_1516 rfl rfl (fun h => absurd h (by decide)) (fun _ => ?_)
          refine v_aload_n C dL_isRefused_1519 rfl 2 rfl ?_
          refine v_iconst C (v := 0) dL_isRefused_1520 rfl rfl ?_
          refine v_mld C hW 0 (by decide) 0 (show 0 < 6 by omega) dL_isRefused_1521 rfl ?_
          refine xx_top (y := nI (nm)) hT.1.1 ?_
          refine v_iconst C (v := 1) dL_isRefused_1522 rfl rfl ?_
          refine v_icN_ne C (t := 1530) nm 1 rfl rfl (by omega) (by omega) dL_isRefused_1523 rfl rfl (fun h => (by omega : False).elim) (fun h7 => ?_)
          refine v_iconst C (v := 1) dL_isRefused_1526 rfl rfl ?_
          refine v_goto C (q := 1531) dL_isRefused_1527 rfl ?_
          refine v_istore C (lv1 := [(10, .int (1)), (12, .int (nI (tn (s 22 i)))), (0, .ref (r 4)), (1, .ref (r 0)), (2, .int (nI (X0))), (3, .int (bI (X0 % 2 = 0))), (4, .int (ce)), (5, .int (mi)), (6, .int (cl)), (7, .int (fo)), (8, .long (allF s nm nc nr)), (11, .int (nI (i)))]) dL_isRefused_1531 rfl (by decide) rfl ?_
          refine v_iincN C (lv1 := [(11, .int (nI (i + 1))), (10, .int (1)), (12, .int (nI (tn (s 22 i)))), (0, .ref (r 4)), (1, .ref (r 0)), (2, .int (nI (X0))), (3, .int (bI (X0 % 2 = 0))), (4, .int (ce)), (5, .int (mi)), (6, .int (cl)), (7, .int (fo)), (8, .long (allF s nm nc nr))]) i rfl dL_isRefused_1533 rfl 11 rfl (by decide) rfl ?_
          refine v_goto C (q := 1358) dL_isRefused_1536 rfl ?_
          refine xx_lv [3, 4, 5, 6, 7, 8, 9, 10, 11, 1, 0] (lv' := [(0, .ref (r 4)), (1, .ref (r 0)), (2, .int (nI (X0))), (3, .int (bI (X0 % 2 = 0))), (4, .int (ce)), (5, .int (mi)), (6, .int (cl)), (7, .int (fo)), (8, .long (allF s nm nc nr)), (10, .int (1)), (11, .int (nI (i + 1)))]) rfl ?_
          exact xx_mono (bm (Nat.le_of_ble_eq_true rfl)) (bm (Nat.le_of_ble_eq_true rfl)) (ih (by omega))
      · skip
        refine v_aload_n C dL_isRefused_1493 rfl 1 rfl ?_
        refine v_bipush C (v := 17) dL_isRefused_1494 rfl rfl ?_
        refine v_iload C dL_isRefused_1496 rfl 11 rfl ?_
        refine v_iload C dL_isRefused_1498 rfl 0 rfl ?_
        refine v_ifN_ne C (t := 1511) (tn (s 22 i)) rfl (by omega) dL_isRefused_1500 rfl rfl (fun h8 => ?_) (fun h8 => ?_)
        · skip
          refine v_iconst C (v := 0) dL_isRefused_1511 rfl rfl ?_
          refine v_iconst C (v := 0) dL_isRefused_1512 rfl rfl ?_
          refine l_bars C (ax_trade (s := s) (nm := nm) (nc := nc) (nr := nr) hst hG hW hJ.bs (e := 3) (cd := -1793000000) (e3_3 ⟨(mi_of hW.cnt.2.1 hi (by omega)), mi_of hW.cnt.1 (j := 0) (by omega) (by omega)⟩ ⟨by decide, fun h => by have h9 := nI_inj (a := 0) (b := tn (s 22 i)) (by omega) (by omega) (h.trans (by rw [tn_nI (show i < 2 ^ 31 by omega)]; exact (hJ.c22 hi).1.e)); omega⟩ (Or.inl (by rw [tn_nI (show i < 2 ^ 31 by omega)]; exact hlap))) (by decide) xL3_3) (B + 53) (D + 857) ⟨⟨Nat.le_refl _, bl hKc (Nat.le_of_ble_eq_true rfl)⟩, Nat.le_refl _, bl hKn (Nat.le_of_ble_eq_true rfl)⟩ rfl dL_isRefused_1513 rfl ?_
          refine v_if_ne C (t := 1526) dL_isRefused_1516 rfl rfl (fun _ => ?_) (fun h => absurd h (by decide))
          refine v_iconst C (v := 1) dL_isRefused_1526 rfl rfl ?_
          refine v_goto C (q := 1531) dL_isRefused_1527 rfl ?_
          refine v_istore C (lv1 := [(10, .int (1)), (12, .int (nI (tn (s 22 i)))), (0, .ref (r 4)), (1, .ref (r 0)), (2, .int (nI (X0))), (3, .int (bI (X0 % 2 = 0))), (4, .int (ce)), (5, .int (mi)), (6, .int (cl)), (7, .int (fo)), (8, .long (allF s nm nc nr)), (11, .int (nI (i)))]) dL_isRefused_1531 rfl (by decide) rfl ?_
          refine v_iincN C (lv1 := [(11, .int (nI (i + 1))), (10, .int (1)), (12, .int (nI (tn (s 22 i)))), (0, .ref (r 4)), (1, .ref (r 0)), (2, .int (nI (X0))), (3, .int (bI (X0 % 2 = 0))), (4, .int (ce)), (5, .int (mi)), (6, .int (cl)), (7, .int (fo)), (8, .long (allF s nm nc nr))]) i rfl dL_isRefused_1533 rfl 11 rfl (by decide) rfl ?_
          refine v_goto C (q := 1358) dL_isRefused_1536 rfl ?_
          refine xx_lv [3, 4, 5, 6, 7, 8, 9, 10, 11, 1, 0] (lv' := [(0, .ref (r 4)), (1, .ref (r 0)), (2, .int (nI (X0))), (3, .int (bI (X0 % 2 = 0))), (4, .int (ce)), (5, .int (mi)), (6, .int (cl)), (7, .int (fo)), (8, .long (allF s nm nc nr)), (10, .int (1)), (11, .int (nI (i + 1)))]) rfl ?_
          exact xx_mono (bm (Nat.le_of_ble_eq_true rfl)) (bm (Nat.le_of_ble_eq_true rfl)) (ih (by omega))
        · skip
          refine v_aload_n C dL_isRefused_1503 rfl 2 rfl ?_
          refine v_iconst C (v := 0) dL_isRefused_1504 rfl rfl ?_
          refine v_mld C hW 0 (by decide) 0 (show 0 < 6 by omega) dL_isRefused_1505 rfl ?_
          refine xx_top (y := nI (nm)) hT.1.1 ?_
          refine v_iconst C (v := 1) dL_isRefused_1506 rfl rfl ?_
          refine v_isubN C nm 1 (by omega) rfl rfl dL_isRefused_1507 rfl ?_
          refine v_goto C (q := 1512) dL_isRefused_1508 rfl ?_
          refine v_iconst C (v := 0) dL_isRefused_1512 rfl rfl ?_
          refine l_bars C (ax_trade (s := s) (nm := nm) (nc := nc) (nr := nr) hst hG hW hJ.bs (e := 3) (cd := -1793000000) (e3_3 ⟨(mi_of hW.cnt.2.1 hi (by omega)), mi_of hW.cnt.1 (j := nm - 1) (by omega) (by omega)⟩ ⟨by decide, fun h => by have h9 := nI_inj (a := nm - 1) (b := tn (s 22 i)) (by omega) (by omega) (h.trans (by rw [tn_nI (show i < 2 ^ 31 by omega)]; exact (hJ.c22 hi).1.e)); omega⟩ (Or.inl (by rw [tn_nI (show i < 2 ^ 31 by omega)]; exact hlap))) (by decide) xL3_3) (B + 53) (D + 857) ⟨⟨Nat.le_refl _, bl hKc (Nat.le_of_ble_eq_true rfl)⟩, Nat.le_refl _, bl hKn (Nat.le_of_ble_eq_true rfl)⟩ rfl dL_isRefused_1513 rfl ?_
          refine v_if_ne C (t := 1526) dL_isRefused_1516 rfl rfl (fun _ => ?_) (fun h => absurd h (by decide))
          refine v_iconst C (v := 1) dL_isRefused_1526 rfl rfl ?_
          refine v_goto C (q := 1531) dL_isRefused_1527 rfl ?_
          refine v_istore C (lv1 := [(10, .int (1)), (12, .int (nI (tn (s 22 i)))), (0, .ref (r 4)), (1, .ref (r 0)), (2, .int (nI (X0))), (3, .int (bI (X0 % 2 = 0))), (4, .int (ce)), (5, .int (mi)), (6, .int (cl)), (7, .int (fo)), (8, .long (allF s nm nc nr)), (11, .int (nI (i)))]) dL_isRefused_1531 rfl (by decide) rfl ?_
          refine v_iincN C (lv1 := [(11, .int (nI (i + 1))), (10, .int (1)), (12, .int (nI (tn (s 22 i)))), (0, .ref (r 4)), (1, .ref (r 0)), (2, .int (nI (X0))), (3, .int (bI (X0 % 2 = 0))), (4, .int (ce)), (5, .int (mi)), (6, .int (cl)), (7, .int (fo)), (8, .long (allF s nm nc nr))]) i rfl dL_isRefused_1533 rfl 11 rfl (by decide) rfl ?_
          refine v_goto C (q := 1358) dL_isRefused_1536 rfl ?_
          refine xx_lv [3, 4, 5, 6, 7, 8, 9, 10, 11, 1, 0] (lv' := [(0, .ref (r 4)), (1, .ref (r 0)), (2, .int (nI (X0))), (3, .int (bI (X0 % 2 = 0))), (4, .int (ce)), (5, .int (mi)), (6, .int (cl)), (7, .int (fo)), (8, .long (allF s nm nc nr)), (10, .int (1)), (11, .int (nI (i + 1)))]) rfl ?_
          exact xx_mono (bm (Nat.le_of_ble_eq_true rfl)) (bm (Nat.le_of_ble_eq_true rfl)) (ih (by omega))

theorem lp_refL_B {X : XS} {G : GG} {w : va_W} {Q : State → Prop} {r : Nat → Nat} {s t : SS} {nm nc nr k B D : Nat} {X0 : Nat} {ce mi cl fo : Int32} (C : Cx X G cL_isRefused 14 RL (Option.some Jvm.ClassFile.FieldType.boolean) r_L_isRefused "isRefused" []) (hW : Wd G r s t nm nc nr w) (hJ : Js s nm nc nr k) (hMi : MiOK G) (hk : k ≤ 131) (hT : K9 s t nm nc nr k) (hX : X0 < 2 ^ 31) (hlow : X0 % 2 = 0) (hce : ¬ ((0 : Int32) ≤ ce ∧ ce ≤ 39)) (hmi : ¬ ((0 : Int32) ≤ mi ∧ mi ≤ s 12 0 - 1)) (hcl : ¬ ((0 : Int32) ≤ cl ∧ cl ≤ s 21 0 - 1)) (hfo : ¬ ((0 : Int32) ≤ fo ∧ fo ≤ 3)) (hKc : B + 2132 ≤ r_L_isRefused.cells) (hKn : D + 34814 ≤ r_L_isRefused.slots) (kk : V X G 14 w (B + 2132) (D + 34814) Q 1355 [(0, .ref (r 4)), (1, .ref (r 0)), (2, .int (nI (X0))), (3, .int (bI (X0 % 2 = 0))), (4, .int (ce)), (5, .int (mi)), (6, .int (cl)), (7, .int (fo)), (8, .long (allF s nm nc nr)), (10, .int (1)), (11, .int (nI (nm)))] []) : V X G 14 w B D Q 868 [(0, .ref (r 4)), (1, .ref (r 0)), (2, .int (nI (X0))), (3, .int (bI (X0 % 2 = 0))), (4, .int (ce)), (5, .int (mi)), (6, .int (cl)), (7, .int (fo)), (8, .long (allF s nm nc nr)), (10, .int (1)), (11, .int (nI (0)))] [] := by
  have hm := hJ.1.1
  have key := ind_up (α := Unit) (P := fun i _ => V X G 14 w (B + 164 * i) (D + 2678 * i) Q 868 [(0, .ref (r 4)), (1, .ref (r 0)), (2, .int (nI (X0))), (3, .int (bI (X0 % 2 = 0))), (4, .int (ce)), (5, .int (mi)), (6, .int (cl)), (7, .int (fo)), (8, .long (allF s nm nc nr)), (10, .int (1)), (11, .int (nI (i)))] []) nm (fun i _ hi ih => sg_refL_B C hW hJ hMi hk hT hX hlow hce hmi hcl hfo hi (by omega) (by omega) (fun h => xx_mono (by omega) (by omega) (ih h ())) (xx_mono (by omega) (by omega) kk))
  exact key 0 () (by omega)

theorem lp_refL_C {X : XS} {G : GG} {w : va_W} {Q : State → Prop} {r : Nat → Nat} {s t : SS} {nm nc nr k B D : Nat} {X0 : Nat} {ce mi cl fo : Int32} (C : Cx X G cL_isRefused 14 RL (Option.some Jvm.ClassFile.FieldType.boolean) r_L_isRefused "isRefused" []) (hW : Wd G r s t nm nc nr w) (hJ : Js s nm nc nr k) (hMi : MiOK G) (hk : k ≤ 131) (hT : K9 s t nm nc nr k) (hX : X0 < 2 ^ 31) (hlow : X0 % 2 = 0) (hce : ¬ ((0 : Int32) ≤ ce ∧ ce ≤ 39)) (hmi : ¬ ((0 : Int32) ≤ mi ∧ mi ≤ s 12 0 - 1)) (hcl : ¬ ((0 : Int32) ≤ cl ∧ cl ≤ s 21 0 - 1)) (hfo : ¬ ((0 : Int32) ≤ fo ∧ fo ≤ 3)) (hKc : B + 1643 ≤ r_L_isRefused.cells) (hKn : D + 26567 ≤ r_L_isRefused.slots) (kk : V X G 14 w (B + 1643) (D + 26567) Q 1539 [(0, .ref (r 4)), (1, .ref (r 0)), (2, .int (nI (X0))), (3, .int (bI (X0 % 2 = 0))), (4, .int (ce)), (5, .int (mi)), (6, .int (cl)), (7, .int (fo)), (8, .long (allF s nm nc nr)), (10, .int (1)), (11, .int (nI (nc)))] []) : V X G 14 w B D Q 1358 [(0, .ref (r 4)), (1, .ref (r 0)), (2, .int (nI (X0))), (3, .int (bI (X0 % 2 = 0))), (4, .int (ce)), (5, .int (mi)), (6, .int (cl)), (7, .int (fo)), (8, .long (allF s nm nc nr)), (10, .int (1)), (11, .int (nI (0)))] [] := by
  have hm := hJ.1.1
  have key := ind_up (α := Unit) (P := fun i _ => V X G 14 w (B + 53 * i) (D + 857 * i) Q 1358 [(0, .ref (r 4)), (1, .ref (r 0)), (2, .int (nI (X0))), (3, .int (bI (X0 % 2 = 0))), (4, .int (ce)), (5, .int (mi)), (6, .int (cl)), (7, .int (fo)), (8, .long (allF s nm nc nr)), (10, .int (1)), (11, .int (nI (i)))] []) nc (fun i _ hi ih => sg_refL_C C hW hJ hMi hk hT hX hlow hce hmi hcl hfo hi (by omega) (by omega) (fun h => xx_mono (by omega) (by omega) (ih h ())) (xx_mono (by omega) (by omega) kk))
  exact key 0 () (by omega)

theorem sg_refH_A {X : XS} {G : GG} {w : va_W} {Q : State → Prop} {r : Nat → Nat} {s t : SS} {nm nc nr k B D : Nat} {X0 : Nat} {ce mi cl fo : Int32} (C : Cx X G cL_isRefused 14 RL (Option.some Jvm.ClassFile.FieldType.boolean) r_L_isRefused "isRefused" []) (hW : Wd G r s t nm nc nr w) (hJ : Js s nm nc nr k) (hMi : MiOK G) (hk : k ≤ 131) (hT : K9 s t nm nc nr k) (hX : X0 < 2 ^ 31) (hlow : ¬ (X0 % 2 = 0)) (hce : ¬ ((0 : Int32) ≤ ce ∧ ce ≤ 39)) (hmi : ¬ ((0 : Int32) ≤ mi ∧ mi ≤ s 12 0 - 1)) (hcl : ¬ ((0 : Int32) ≤ cl ∧ cl ≤ s 21 0 - 1)) (hfo : ¬ ((0 : Int32) ≤ fo ∧ fo ≤ 3)) (hKc : B + 266 ≤ r_L_isRefused.cells) (hKn : D + 4522 ≤ r_L_isRefused.slots) (kk : V X G 14 w (B + 266) (D + 4522) Q 868 [(0, .ref (r 4)), (1, .ref (r 0)), (2, .int (nI (X0))), (3, .int (bI (X0 % 2 = 0))), (4, .int (ce)), (5, .int (mi)), (6, .int (cl)), (7, .int (fo)), (8, .long (allF s nm nc nr)), (10, .int (1)), (11, .int (nI (0)))] []) : V X G 14 w B D Q 108 [(8, .long (allF s nm nc nr)), (7, .int (fo)), (6, .int (cl)), (5, .int (mi)), (4, .int (ce)), (3, .int (bI (X0 % 2 = 0))), (0, .ref (r 4)), (1, .ref (r 0)), (2, .int (nI (X0)))] [] := by
  have hst : X.2.1.stackTraces = false := C.2.2.2.2.2.1
  have hG : GOK G := C.2.2.2.2.2.2.2.2.2.1
  have hm := hJ.1.1
  refine v_aload_n C dL_isRefused_108 rfl 6 rfl ?_
  refine v_iconst C (v := 0) dL_isRefused_109 rfl rfl ?_
  refine v_iload C dL_isRefused_110 rfl 4 rfl ?_
  refine v_iconst C (v := (-1)) dL_isRefused_112 rfl rfl ?_
  refine v_bipush C (v := 99) dL_isRefused_113 rfl rfl ?_
  refine l_no C (ax_ground (s := s) (nm := nm) (nc := nc) (nr := nr) hst hG hW hJ.bs (e := 1) (cd := -1791000000) (e3_1 hce) (by decide) xL3_1) (B + 7) (D + 119) ⟨⟨Nat.le_refl _, bl hKc (Nat.le_of_ble_eq_true rfl)⟩, Nat.le_refl _, bl hKn (Nat.le_of_ble_eq_true rfl)⟩ rfl dL_isRefused_115 rfl ?_
  refine v_if_eq C (t := 862) dL_isRefused_118 rfl rfl (fun h => absurd h (by decide)) (fun _ => ?_)
  refine v_aload_n C dL_isRefused_121 rfl 6 rfl ?_
  refine v_iconst C (v := 0) dL_isRefused_122 rfl rfl ?_
  refine v_iload_n C dL_isRefused_123 rfl 8 rfl ?_
  refine v_bipush C (v := 40) dL_isRefused_124 rfl rfl ?_
  refine v_iremN C X0 40 rfl rfl (by omega) (by omega) (by omega) dL_isRefused_126 rfl ?_
  refine v_iload_n C dL_isRefused_127 rfl 5 rfl ?_
  refine v_ifB_eq C (t := 140) dL_isRefused_128 rfl rfl (fun _ => ?_) (fun h => absurd h hlow)
  refine v_ldc C (v := 100001) dL_isRefused_140 rfl N_L_145 ?_
  refine v_iconst C (v := 0) dL_isRefused_142 rfl rfl ?_
  refine l_off C (ax_ground (s := s) (nm := nm) (nc := nc) (nr := nr) hst hG hW hJ.bs (e := 2) (cd := -1792000000) (e3_2 (cell_in (by omega)) (by decide)) (by decide) xL3_2) (B + 14) (D + 238) ⟨⟨Nat.le_refl _, bl hKc (Nat.le_of_ble_eq_true rfl)⟩, Nat.le_refl _, bl hKn (Nat.le_of_ble_eq_true rfl)⟩ rfl dL_isRefused_143 rfl ?_
  refine v_if_eq C (t := 862) dL_isRefused_146 rfl rfl (fun h => absurd h (by decide)) (fun _ => ?_)
  refine v_aload_n C dL_isRefused_149 rfl 6 rfl ?_
  refine v_iconst C (v := 0) dL_isRefused_150 rfl rfl ?_
  refine v_iload_n C dL_isRefused_151 rfl 8 rfl ?_
  refine v_bipush C (v := 40) dL_isRefused_152 rfl rfl ?_
  refine v_iremN C X0 40 rfl rfl (by omega) (by omega) (by omega) dL_isRefused_154 rfl ?_
  refine v_iconst C (v := 0) dL_isRefused_155 rfl rfl ?_
  refine v_iload_n C dL_isRefused_156 rfl 5 rfl ?_
  refine v_ifB_eq C (t := 164) dL_isRefused_157 rfl rfl (fun _ => ?_) (fun h => absurd h hlow)
  refine v_bipush C (v := 10) dL_isRefused_164 rfl rfl ?_
  refine v_iload_n C dL_isRefused_166 rfl 8 rfl ?_
  refine v_bipush C (v := 30) dL_isRefused_167 rfl rfl ?_
  refine v_iremN C X0 30 rfl rfl (by omega) (by omega) (by omega) dL_isRefused_169 rfl ?_
  refine v_iaddN C 10 (X0 % 30) rfl rfl dL_isRefused_170 rfl ?_
  refine l_off C (ax_ground (s := s) (nm := nm) (nc := nc) (nr := nr) hst hG hW hJ.bs (e := 2) (cd := -1792000000) (e3_2 (cell_in (by omega)) (fun h => nle (b := 9) (by omega) (by omega) (h.2.2))) (by decide) xL3_2) (B + 21) (D + 357) ⟨⟨Nat.le_refl _, bl hKc (Nat.le_of_ble_eq_true rfl)⟩, Nat.le_refl _, bl hKn (Nat.le_of_ble_eq_true rfl)⟩ rfl dL_isRefused_171 rfl ?_
  refine v_if_eq C (t := 862) dL_isRefused_174 rfl rfl (fun h => absurd h (by decide)) (fun _ => ?_)
  refine v_aload_n C dL_isRefused_177 rfl 6 rfl ?_
  refine v_iconst C (v := 1) dL_isRefused_178 rfl rfl ?_
  refine v_iload_n C dL_isRefused_179 rfl 5 rfl ?_
  refine v_ifB_eq C (t := 192) dL_isRefused_180 rfl rfl (fun _ => ?_) (fun h => absurd h hlow)
  refine v_sipush C (v := 1001) dL_isRefused_192 rfl rfl ?_
  refine v_iconst C (v := 0) dL_isRefused_195 rfl rfl ?_
  refine v_iconst C (v := 0) dL_isRefused_196 rfl rfl ?_
  refine l_off C (ax_flow (s := s) (nm := nm) (nc := nc) (nr := nr) hst hG hW hJ.bs (e := 1) (cd := -1792000000) (e1_1 (by decide)) (by decide) xLA_1) (B + 28) (D + 476) ⟨⟨Nat.le_refl _, bl hKc (Nat.le_of_ble_eq_true rfl)⟩, Nat.le_refl _, bl hKn (Nat.le_of_ble_eq_true rfl)⟩ rfl dL_isRefused_197 rfl ?_
  refine v_if_eq C (t := 862) dL_isRefused_200 rfl rfl (fun h => absurd h (by decide)) (fun _ => ?_)
  refine v_aload_n C dL_isRefused_203 rfl 6 rfl ?_
  refine v_iconst C (v := 2) dL_isRefused_204 rfl rfl ?_
  refine v_iload_n C dL_isRefused_205 rfl 5 rfl ?_
  refine v_ifB_eq C (t := 213) dL_isRefused_206 rfl rfl (fun _ => ?_) (fun h => absurd h hlow)
  refine v_sipush C (v := 1001) dL_isRefused_213 rfl rfl ?_
  refine v_iload_n C dL_isRefused_216 rfl 8 rfl ?_
  refine v_bipush C (v := 30) dL_isRefused_217 rfl rfl ?_
  refine v_iremN C X0 30 rfl rfl (by omega) (by omega) (by omega) dL_isRefused_219 rfl ?_
  refine v_iaddN C 1001 (X0 % 30) rfl rfl dL_isRefused_220 rfl ?_
  refine v_iconst C (v := 0) dL_isRefused_221 rfl rfl ?_
  refine v_iconst C (v := 0) dL_isRefused_222 rfl rfl ?_
  refine l_off C (ax_miner (s := s) (nm := nm) (nc := nc) (nr := nr) hst hG hMi hW hJ.bs (e := 1) (cd := -1792000000) (e4_1 (fun h => nle (b := 1000) (by omega) (by omega) (h.1.2))) (by decide) xLAS_1) (B + 35) (D + 595) ⟨⟨Nat.le_refl _, bl hKc (Nat.le_of_ble_eq_true rfl)⟩, Nat.le_refl _, bl hKn (Nat.le_of_ble_eq_true rfl)⟩ rfl dL_isRefused_223 rfl ?_
  refine v_if_eq C (t := 862) dL_isRefused_226 rfl rfl (fun h => absurd h (by decide)) (fun _ => ?_)
  refine v_aload_n C dL_isRefused_229 rfl 6 rfl ?_
  refine v_iconst C (v := 2) dL_isRefused_230 rfl rfl ?_
  refine v_iconst C (v := 0) dL_isRefused_231 rfl rfl ?_
  refine v_iload_n C dL_isRefused_232 rfl 5 rfl ?_
  refine v_ifB_eq C (t := 245) dL_isRefused_233 rfl rfl (fun _ => ?_) (fun h => absurd h hlow)
  refine v_ldc C (v := 100001) dL_isRefused_245 rfl N_L_145 ?_
  refine v_iconst C (v := 0) dL_isRefused_247 rfl rfl ?_
  refine l_off C (ax_miner (s := s) (nm := nm) (nc := nc) (nr := nr) hst hG hMi hW hJ.bs (e := 1) (cd := -1792000000) (e4_1 (by decide)) (by decide) xLAS_1) (B + 42) (D + 714) ⟨⟨Nat.le_refl _, bl hKc (Nat.le_of_ble_eq_true rfl)⟩, Nat.le_refl _, bl hKn (Nat.le_of_ble_eq_true rfl)⟩ rfl dL_isRefused_248 rfl ?_
  refine v_if_eq C (t := 862) dL_isRefused_251 rfl rfl (fun h => absurd h (by decide)) (fun _ => ?_)
  refine v_aload_n C dL_isRefused_254 rfl 6 rfl ?_
  refine v_iconst C (v := 3) dL_isRefused_255 rfl rfl ?_
  refine v_iload_n C dL_isRefused_256 rfl 5 rfl ?_
  refine v_ifB_eq C (t := 269) dL_isRefused_257 rfl rfl (fun _ => ?_) (fun h => absurd h hlow)
  refine v_sipush C (v := 201) dL_isRefused_269 rfl rfl ?_
  refine v_iconst C (v := 0) dL_isRefused_272 rfl rfl ?_
  refine v_iconst C (v := 0) dL_isRefused_273 rfl rfl ?_
  refine l_off C (ax_pass (s := s) (nm := nm) (nc := nc) (nr := nr) hst hG hW hJ.bs (e := 1) (cd := -1792000000) (e4_1 (by decide)) (by decide) xLAS_1) (B + 49) (D + 833) ⟨⟨Nat.le_refl _, bl hKc (Nat.le_of_ble_eq_true rfl)⟩, Nat.le_refl _, bl hKn (Nat.le_of_ble_eq_true rfl)⟩ rfl dL_isRefused_274 rfl ?_
  refine v_if_eq C (t := 862) dL_isRefused_277 rfl rfl (fun h => absurd h (by decide)) (fun _ => ?_)
  refine v_aload_n C dL_isRefused_280 rfl 6 rfl ?_
  refine v_iconst C (v := 4) dL_isRefused_281 rfl rfl ?_
  refine v_iload_n C dL_isRefused_282 rfl 5 rfl ?_
  refine v_ifB_eq C (t := 295) dL_isRefused_283 rfl rfl (fun _ => ?_) (fun h => absurd h hlow)
  refine v_bipush C (v := 11) dL_isRefused_295 rfl rfl ?_
  refine v_iconst C (v := 5) dL_isRefused_297 rfl rfl ?_
  refine v_iconst C (v := 0) dL_isRefused_298 rfl rfl ?_
  refine l_off C (ax_meet (s := s) (nm := nm) (nc := nc) (nr := nr) hst hG hW hJ.bs (e := 1) (cd := -1792000000) (e1_1 (fun h => absurd (h.1.1) (by decide))) (by decide) xLA_1) (B + 56) (D + 952) ⟨⟨Nat.le_refl _, bl hKc (Nat.le_of_ble_eq_true rfl)⟩, Nat.le_refl _, bl hKn (Nat.le_of_ble_eq_true rfl)⟩ rfl dL_isRefused_299 rfl ?_
  refine v_if_eq C (t := 862) dL_isRefused_302 rfl rfl (fun h => absurd h (by decide)) (fun _ => ?_)
  refine v_aload_n C dL_isRefused_305 rfl 6 rfl ?_
  refine v_iconst C (v := 4) dL_isRefused_306 rfl rfl ?_
  refine v_iconst C (v := 5) dL_isRefused_307 rfl rfl ?_
  refine v_iload_n C dL_isRefused_308 rfl 5 rfl ?_
  refine v_ifB_eq C (t := 316) dL_isRefused_309 rfl rfl (fun _ => ?_) (fun h => absurd h hlow)
  refine v_bipush C (v := 101) dL_isRefused_316 rfl rfl ?_
  refine v_iload_n C dL_isRefused_318 rfl 8 rfl ?_
  refine v_bipush C (v := 30) dL_isRefused_319 rfl rfl ?_
  refine v_iremN C X0 30 rfl rfl (by omega) (by omega) (by omega) dL_isRefused_321 rfl ?_
  refine v_iaddN C 101 (X0 % 30) rfl rfl dL_isRefused_322 rfl ?_
  refine v_iconst C (v := 0) dL_isRefused_323 rfl rfl ?_
  refine l_off C (ax_meet (s := s) (nm := nm) (nc := nc) (nr := nr) hst hG hW hJ.bs (e := 1) (cd := -1792000000) (e1_1 (fun h => nle (b := 100) (by omega) (by omega) (h.1.2.1.2))) (by decide) xLA_1) (B + 63) (D + 1071) ⟨⟨Nat.le_refl _, bl hKc (Nat.le_of_ble_eq_true rfl)⟩, Nat.le_refl _, bl hKn (Nat.le_of_ble_eq_true rfl)⟩ rfl dL_isRefused_324 rfl ?_
  refine v_if_eq C (t := 862) dL_isRefused_327 rfl rfl (fun h => absurd h (by decide)) (fun _ => ?_)
  refine v_aload_n C dL_isRefused_330 rfl 6 rfl ?_
  refine v_iconst C (v := 4) dL_isRefused_331 rfl rfl ?_
  refine v_iconst C (v := 5) dL_isRefused_332 rfl rfl ?_
  refine v_iconst C (v := 5) dL_isRefused_333 rfl rfl ?_
  refine v_iload_n C dL_isRefused_334 rfl 5 rfl ?_
  refine v_ifB_eq C (t := 347) dL_isRefused_335 rfl rfl (fun _ => ?_) (fun h => absurd h hlow)
  refine v_bipush C (v := 13) dL_isRefused_347 rfl rfl ?_
  refine l_off C (ax_meet (s := s) (nm := nm) (nc := nc) (nr := nr) hst hG hW hJ.bs (e := 1) (cd := -1792000000) (e1_1 (fun h => absurd (h.1.2.2.1) (by decide))) (by decide) xLA_1) (B + 70) (D + 1190) ⟨⟨Nat.le_refl _, bl hKc (Nat.le_of_ble_eq_true rfl)⟩, Nat.le_refl _, bl hKn (Nat.le_of_ble_eq_true rfl)⟩ rfl dL_isRefused_349 rfl ?_
  refine v_if_eq C (t := 862) dL_isRefused_352 rfl rfl (fun h => absurd h (by decide)) (fun _ => ?_)
  refine v_aload_n C dL_isRefused_355 rfl 6 rfl ?_
  refine v_iconst C (v := 4) dL_isRefused_356 rfl rfl ?_
  refine v_iconst C (v := 5) dL_isRefused_357 rfl rfl ?_
  refine v_iconst C (v := 5) dL_isRefused_358 rfl rfl ?_
  refine v_iconst C (v := 0) dL_isRefused_359 rfl rfl ?_
  refine v_iload_n C dL_isRefused_360 rfl 5 rfl ?_
  refine v_ifB_eq C (t := 373) dL_isRefused_361 rfl rfl (fun _ => ?_) (fun h => absurd h hlow)
  refine v_bipush C (v := 13) dL_isRefused_373 rfl rfl ?_
  refine l_actK C (ax_meet (s := s) (nm := nm) (nc := nc) (nr := nr) hst hG hW hJ.bs (e := 1) (cd := -1792000000) (e1_1 (fun h => absurd (h.1.2.2.2) (by decide))) (by decide) xLA_1) (B + 77) (D + 1309) ⟨⟨Nat.le_refl _, bl hKc (Nat.le_of_ble_eq_true rfl)⟩, Nat.le_refl _, bl hKn (Nat.le_of_ble_eq_true rfl)⟩ rfl dL_isRefused_375 rfl (fun v_ w_ hv1 => ?_)
  obtain ⟨rfl, hw_, -⟩ := hv1
  rw [hw_]
  show V X G 14 _ _ _ _ _ _ [.int ((-1792000000))]
  refine v_ldc C (v := (-1792000000)) dL_isRefused_378 rfl N_L_111 ?_
  refine v_icmp_ne C (t := 862) dL_isRefused_380 rfl rfl (fun h => absurd h (by decide)) (fun _ => ?_)
  refine v_aload_n C dL_isRefused_383 rfl 6 rfl ?_
  refine v_iconst C (v := 5) dL_isRefused_384 rfl rfl ?_
  refine v_iload C dL_isRefused_385 rfl 3 rfl ?_
  refine v_iconst C (v := 0) dL_isRefused_387 rfl rfl ?_
  refine v_iconst C (v := 0) dL_isRefused_388 rfl rfl ?_
  refine l_no C (ax_peg (s := s) (nm := nm) (nc := nc) (nr := nr) hst hG hMi hW hJ.bs (e := 1) (cd := -1791000000) (e3_1 (fun h => hmi h.1)) (by decide) xL3_1) (B + 84) (D + 1428) ⟨⟨Nat.le_refl _, bl hKc (Nat.le_of_ble_eq_true rfl)⟩, Nat.le_refl _, bl hKn (Nat.le_of_ble_eq_true rfl)⟩ rfl dL_isRefused_389 rfl ?_
  refine v_if_eq C (t := 862) dL_isRefused_392 rfl rfl (fun h => absurd h (by decide)) (fun _ => ?_)
  refine v_aload_n C dL_isRefused_395 rfl 6 rfl ?_
  refine v_bipush C (v := 6) dL_isRefused_396 rfl rfl ?_
  refine v_iload C dL_isRefused_398 rfl 3 rfl ?_
  refine v_iconst C (v := 0) dL_isRefused_400 rfl rfl ?_
  refine v_iconst C (v := 0) dL_isRefused_401 rfl rfl ?_
  refine l_no C (ax_right (s := s) (nm := nm) (nc := nc) (nr := nr) hst hG hMi hW hJ.bs (e := 1) (cd := -1791000000) (e3_1 hmi) (by decide) xL3_1) (B + 91) (D + 1547) ⟨⟨Nat.le_refl _, bl hKc (Nat.le_of_ble_eq_true rfl)⟩, Nat.le_refl _, bl hKn (Nat.le_of_ble_eq_true rfl)⟩ rfl dL_isRefused_402 rfl ?_
  refine v_if_eq C (t := 862) dL_isRefused_405 rfl rfl (fun h => absurd h (by decide)) (fun _ => ?_)
  refine v_aload_n C dL_isRefused_408 rfl 6 rfl ?_
  refine v_bipush C (v := 7) dL_isRefused_409 rfl rfl ?_
  refine v_iload C dL_isRefused_411 rfl 3 rfl ?_
  refine v_iconst C (v := 0) dL_isRefused_413 rfl rfl ?_
  refine v_bipush C (v := 9) dL_isRefused_414 rfl rfl ?_
  refine l_no C (ax_work (s := s) (nm := nm) (nc := nc) (nr := nr) hst hG hW hJ.bs (e := 1) (cd := -1791000000) (e3_1 (fun h => hmi h.1)) (by decide) xL3_1) (B + 98) (D + 1666) ⟨⟨Nat.le_refl _, bl hKc (Nat.le_of_ble_eq_true rfl)⟩, Nat.le_refl _, bl hKn (Nat.le_of_ble_eq_true rfl)⟩ rfl dL_isRefused_416 rfl ?_
  refine v_if_eq C (t := 862) dL_isRefused_419 rfl rfl (fun h => absurd h (by decide)) (fun _ => ?_)
  refine v_aload_n C dL_isRefused_422 rfl 6 rfl ?_
  refine v_bipush C (v := 8) dL_isRefused_423 rfl rfl ?_
  refine v_iload C dL_isRefused_425 rfl 4 rfl ?_
  refine v_iconst C (v := 0) dL_isRefused_427 rfl rfl ?_
  refine v_iconst C (v := 0) dL_isRefused_428 rfl rfl ?_
  refine l_no C (ax_sample (s := s) (nm := nm) (nc := nc) (nr := nr) hst hG hW hJ.bs (e := 1) (cd := -1791000000) (e1_1 hce) (by decide) xLI1_1) (B + 105) (D + 1785) ⟨⟨Nat.le_refl _, bl hKc (Nat.le_of_ble_eq_true rfl)⟩, Nat.le_refl _, bl hKn (Nat.le_of_ble_eq_true rfl)⟩ rfl dL_isRefused_429 rfl ?_
  refine v_if_eq C (t := 862) dL_isRefused_432 rfl rfl (fun h => absurd h (by decide)) (fun _ => ?_)
  refine v_aload_n C dL_isRefused_435 rfl 6 rfl ?_
  refine v_bipush C (v := 9) dL_isRefused_436 rfl rfl ?_
  refine v_iload C dL_isRefused_438 rfl 3 rfl ?_
  refine v_iconst C (v := 0) dL_isRefused_440 rfl rfl ?_
  refine v_iconst C (v := 0) dL_isRefused_441 rfl rfl ?_
  refine l_no C (ax_salt (s := s) (nm := nm) (nc := nc) (nr := nr) hst hG hW hJ.bs (e := 1) (cd := -1791000000) (e3_1 (fun h => hmi h.1)) (by decide) xL3_1) (B + 112) (D + 1904) ⟨⟨Nat.le_refl _, bl hKc (Nat.le_of_ble_eq_true rfl)⟩, Nat.le_refl _, bl hKn (Nat.le_of_ble_eq_true rfl)⟩ rfl dL_isRefused_442 rfl ?_
  refine v_if_eq C (t := 862) dL_isRefused_445 rfl rfl (fun h => absurd h (by decide)) (fun _ => ?_)
  refine v_aload_n C dL_isRefused_448 rfl 6 rfl ?_
  refine v_bipush C (v := 10) dL_isRefused_449 rfl rfl ?_
  refine v_iload C dL_isRefused_451 rfl 3 rfl ?_
  refine v_iconst C (v := 0) dL_isRefused_453 rfl rfl ?_
  refine v_iconst C (v := 0) dL_isRefused_454 rfl rfl ?_
  refine l_no C (ax_brass (s := s) (nm := nm) (nc := nc) (nr := nr) hst hG hW hJ.bs (e := 1) (cd := -1791000000) (e3_1 hmi) (by decide) xL3_1) (B + 119) (D + 2023) ⟨⟨Nat.le_refl _, bl hKc (Nat.le_of_ble_eq_true rfl)⟩, Nat.le_refl _, bl hKn (Nat.le_of_ble_eq_true rfl)⟩ rfl dL_isRefused_455 rfl ?_
  refine v_if_eq C (t := 862) dL_isRefused_458 rfl rfl (fun h => absurd h (by decide)) (fun _ => ?_)
  refine v_aload_n C dL_isRefused_461 rfl 6 rfl ?_
  refine v_bipush C (v := 11) dL_isRefused_462 rfl rfl ?_
  refine v_iload C dL_isRefused_464 rfl 3 rfl ?_
  refine v_iconst C (v := 0) dL_isRefused_466 rfl rfl ?_
  refine v_iconst C (v := 0) dL_isRefused_467 rfl rfl ?_
  refine l_no C (ax_sell (s := s) (nm := nm) (nc := nc) (nr := nr) hst hG hW hJ.bs (e := 1) (cd := -1791000000) (e3_1 hmi) (by decide) xL3_1) (B + 126) (D + 2142) ⟨⟨Nat.le_refl _, bl hKc (Nat.le_of_ble_eq_true rfl)⟩, Nat.le_refl _, bl hKn (Nat.le_of_ble_eq_true rfl)⟩ rfl dL_isRefused_468 rfl ?_
  refine v_if_eq C (t := 862) dL_isRefused_471 rfl rfl (fun h => absurd h (by decide)) (fun _ => ?_)
  refine v_aload_n C dL_isRefused_474 rfl 6 rfl ?_
  refine v_bipush C (v := 12) dL_isRefused_475 rfl rfl ?_
  refine v_iload_n C dL_isRefused_477 rfl 5 rfl ?_
  refine v_ifB_eq C (t := 490) dL_isRefused_478 rfl rfl (fun _ => ?_) (fun h => absurd h hlow)
  refine v_bipush C (v := 101) dL_isRefused_490 rfl rfl ?_
  refine v_iconst C (v := 0) dL_isRefused_492 rfl rfl ?_
  refine v_iconst C (v := 0) dL_isRefused_493 rfl rfl ?_
  refine l_off C (ax_rate (s := s) (nm := nm) (nc := nc) (nr := nr) hst hG hW hJ.bs (e := 1) (cd := -1792000000) (e1_1 (by decide)) (by decide) xLA_1) (B + 133) (D + 2261) ⟨⟨Nat.le_refl _, bl hKc (Nat.le_of_ble_eq_true rfl)⟩, Nat.le_refl _, bl hKn (Nat.le_of_ble_eq_true rfl)⟩ rfl dL_isRefused_494 rfl ?_
  refine v_if_eq C (t := 862) dL_isRefused_497 rfl rfl (fun h => absurd h (by decide)) (fun _ => ?_)
  refine v_aload_n C dL_isRefused_500 rfl 6 rfl ?_
  refine v_bipush C (v := 13) dL_isRefused_501 rfl rfl ?_
  refine v_iload_n C dL_isRefused_503 rfl 5 rfl ?_
  refine v_ifB_eq C (t := 511) dL_isRefused_504 rfl rfl (fun _ => ?_) (fun h => absurd h hlow)
  refine v_sipush C (v := 1001) dL_isRefused_511 rfl rfl ?_
  refine v_iload_n C dL_isRefused_514 rfl 8 rfl ?_
  refine v_bipush C (v := 30) dL_isRefused_515 rfl rfl ?_
  refine v_iremN C X0 30 rfl rfl (by omega) (by omega) (by omega) dL_isRefused_517 rfl ?_
  refine v_iaddN C 1001 (X0 % 30) rfl rfl dL_isRefused_518 rfl ?_
  refine v_sipush C (v := 5000) dL_isRefused_519 rfl rfl ?_
  refine v_iconst C (v := 0) dL_isRefused_522 rfl rfl ?_
  refine l_off C (ax_freight (s := s) (nm := nm) (nc := nc) (nr := nr) hst hG hW hJ.bs (e := 1) (cd := -1792000000) (if_pos (fun h => nle (b := 1000) (by omega) (by omega) (h.2))) (by decide) xLAS_1) (B + 140) (D + 2380) ⟨⟨Nat.le_refl _, bl hKc (Nat.le_of_ble_eq_true rfl)⟩, Nat.le_refl _, bl hKn (Nat.le_of_ble_eq_true rfl)⟩ rfl dL_isRefused_523 rfl ?_
  refine v_if_eq C (t := 862) dL_isRefused_526 rfl rfl (fun h => absurd h (by decide)) (fun _ => ?_)
  refine v_aload_n C dL_isRefused_529 rfl 6 rfl ?_
  refine v_bipush C (v := 13) dL_isRefused_530 rfl rfl ?_
  refine v_iconst C (v := 5) dL_isRefused_532 rfl rfl ?_
  refine v_iload_n C dL_isRefused_533 rfl 5 rfl ?_
  refine v_ifB_eq C (t := 549) dL_isRefused_534 rfl rfl (fun _ => ?_) (fun h => absurd h hlow)
  refine v_sipush C (v := 5001) dL_isRefused_549 rfl rfl ?_
  refine v_iconst C (v := 0) dL_isRefused_552 rfl rfl ?_
  refine l_off C (ax_freight (s := s) (nm := nm) (nc := nc) (nr := nr) hst hG hW hJ.bs (e := 1) (cd := -1792000000) ((if_neg (fun z => z (by decide))).trans (if_pos (fun h => absurd (h.2) (by decide)))) (by decide) xLAS_1) (B + 147) (D + 2499) ⟨⟨Nat.le_refl _, bl hKc (Nat.le_of_ble_eq_true rfl)⟩, Nat.le_refl _, bl hKn (Nat.le_of_ble_eq_true rfl)⟩ rfl dL_isRefused_553 rfl ?_
  refine v_if_eq C (t := 862) dL_isRefused_556 rfl rfl (fun h => absurd h (by decide)) (fun _ => ?_)
  refine v_aload_n C dL_isRefused_559 rfl 6 rfl ?_
  refine v_bipush C (v := 14) dL_isRefused_560 rfl rfl ?_
  refine v_iload C dL_isRefused_562 rfl 3 rfl ?_
  refine v_iconst C (v := 0) dL_isRefused_564 rfl rfl ?_
  refine v_iconst C (v := 0) dL_isRefused_565 rfl rfl ?_
  refine l_no C (ax_buy (s := s) (nm := nm) (nc := nc) (nr := nr) hst hG hW hJ.bs (e := 1) (cd := -1791000000) (e3_1 hmi) (by decide) xL3_1) (B + 154) (D + 2618) ⟨⟨Nat.le_refl _, bl hKc (Nat.le_of_ble_eq_true rfl)⟩, Nat.le_refl _, bl hKn (Nat.le_of_ble_eq_true rfl)⟩ rfl dL_isRefused_566 rfl ?_
  refine v_if_eq C (t := 862) dL_isRefused_569 rfl rfl (fun h => absurd h (by decide)) (fun _ => ?_)
  refine v_aload_n C dL_isRefused_572 rfl 6 rfl ?_
  refine v_bipush C (v := 15) dL_isRefused_573 rfl rfl ?_
  refine v_iload C dL_isRefused_575 rfl 3 rfl ?_
  refine v_iconst C (v := 0) dL_isRefused_577 rfl rfl ?_
  refine v_iconst C (v := 0) dL_isRefused_578 rfl rfl ?_
  refine l_no C (ax_back (s := s) (nm := nm) (nc := nc) (nr := nr) hst hG hW hJ.bs (e := 1) (cd := -1791000000) (e3_1 (fun h => hmi h.1)) (by decide) xL3_1) (B + 161) (D + 2737) ⟨⟨Nat.le_refl _, bl hKc (Nat.le_of_ble_eq_true rfl)⟩, Nat.le_refl _, bl hKn (Nat.le_of_ble_eq_true rfl)⟩ rfl dL_isRefused_579 rfl ?_
  refine v_if_eq C (t := 862) dL_isRefused_582 rfl rfl (fun h => absurd h (by decide)) (fun _ => ?_)
  refine v_aload_n C dL_isRefused_585 rfl 6 rfl ?_
  refine v_bipush C (v := 16) dL_isRefused_586 rfl rfl ?_
  refine v_iload C dL_isRefused_588 rfl 3 rfl ?_
  refine v_iconst C (v := 0) dL_isRefused_590 rfl rfl ?_
  refine v_iconst C (v := 0) dL_isRefused_591 rfl rfl ?_
  refine l_no C (ax_end (s := s) (nm := nm) (nc := nc) (nr := nr) hst hG hW hJ.bs (e := 1) (cd := -1791000000) (e2_1 (fun h => hmi h.1)) (by decide) xLIS_1) (B + 168) (D + 2856) ⟨⟨Nat.le_refl _, bl hKc (Nat.le_of_ble_eq_true rfl)⟩, Nat.le_refl _, bl hKn (Nat.le_of_ble_eq_true rfl)⟩ rfl dL_isRefused_592 rfl ?_
  refine v_if_eq C (t := 862) dL_isRefused_595 rfl rfl (fun h => absurd h (by decide)) (fun _ => ?_)
  refine v_aload_n C dL_isRefused_598 rfl 6 rfl ?_
  refine v_bipush C (v := 17) dL_isRefused_599 rfl rfl ?_
  refine v_iload C dL_isRefused_601 rfl 2 rfl ?_
  refine v_iconst C (v := 0) dL_isRefused_603 rfl rfl ?_
  refine v_iconst C (v := (-1)) dL_isRefused_604 rfl rfl ?_
  refine l_no C (ax_trade (s := s) (nm := nm) (nc := nc) (nr := nr) hst hG hW hJ.bs (e := 1) (cd := -1791000000) (e3_1 (fun h => hcl h.1)) (by decide) xL3_1) (B + 175) (D + 2975) ⟨⟨Nat.le_refl _, bl hKc (Nat.le_of_ble_eq_true rfl)⟩, Nat.le_refl _, bl hKn (Nat.le_of_ble_eq_true rfl)⟩ rfl dL_isRefused_605 rfl ?_
  refine v_if_eq C (t := 862) dL_isRefused_608 rfl rfl (fun h => absurd h (by decide)) (fun _ => ?_)
  refine v_aload_n C dL_isRefused_611 rfl 6 rfl ?_
  refine v_bipush C (v := 18) dL_isRefused_612 rfl rfl ?_
  refine v_iload C dL_isRefused_614 rfl 2 rfl ?_
  refine v_iconst C (v := 0) dL_isRefused_616 rfl rfl ?_
  refine v_iconst C (v := 0) dL_isRefused_617 rfl rfl ?_
  refine l_no C (ax_suit (s := s) (nm := nm) (nc := nc) (nr := nr) hst hG hW hJ.bs (e := 1) (cd := -1791000000) (e4_1 hcl) (by decide) xLIS_1) (B + 182) (D + 3094) ⟨⟨Nat.le_refl _, bl hKc (Nat.le_of_ble_eq_true rfl)⟩, Nat.le_refl _, bl hKn (Nat.le_of_ble_eq_true rfl)⟩ rfl dL_isRefused_618 rfl ?_
  refine v_if_eq C (t := 862) dL_isRefused_621 rfl rfl (fun h => absurd h (by decide)) (fun _ => ?_)
  refine v_aload_n C dL_isRefused_624 rfl 6 rfl ?_
  refine v_bipush C (v := 19) dL_isRefused_625 rfl rfl ?_
  refine v_iload C dL_isRefused_627 rfl 4 rfl ?_
  refine v_iconst C (v := (-1)) dL_isRefused_629 rfl rfl ?_
  refine v_iconst C (v := 0) dL_isRefused_630 rfl rfl ?_
  refine l_no C (ax_rumour (s := s) (nm := nm) (nc := nc) (nr := nr) hst hG hW hJ.bs (e := 1) (cd := -1791000000) (e2_1 hce) (by decide) xLIA_1) (B + 189) (D + 3213) ⟨⟨Nat.le_refl _, bl hKc (Nat.le_of_ble_eq_true rfl)⟩, Nat.le_refl _, bl hKn (Nat.le_of_ble_eq_true rfl)⟩ rfl dL_isRefused_631 rfl ?_
  refine v_if_eq C (t := 862) dL_isRefused_634 rfl rfl (fun h => absurd h (by decide)) (fun _ => ?_)
  refine v_aload_n C dL_isRefused_637 rfl 6 rfl ?_
  refine v_bipush C (v := 19) dL_isRefused_638 rfl rfl ?_
  refine v_iload_n C dL_isRefused_640 rfl 8 rfl ?_
  refine v_bipush C (v := 40) dL_isRefused_641 rfl rfl ?_
  refine v_iremN C X0 40 rfl rfl (by omega) (by omega) (by omega) dL_isRefused_643 rfl ?_
  refine v_iload_n C dL_isRefused_644 rfl 5 rfl ?_
  refine v_ifB_eq C (t := 657) dL_isRefused_645 rfl rfl (fun _ => ?_) (fun h => absurd h hlow)
  refine v_bipush C (v := 101) dL_isRefused_657 rfl rfl ?_
  refine v_iconst C (v := 0) dL_isRefused_659 rfl rfl ?_
  refine l_off C (ax_rumour (s := s) (nm := nm) (nc := nc) (nr := nr) hst hG hW hJ.bs (e := 2) (cd := -1792000000) (e2_2 (cell_in (by omega)) (by decide)) (by decide) xLIA_2) (B + 196) (D + 3332) ⟨⟨Nat.le_refl _, bl hKc (Nat.le_of_ble_eq_true rfl)⟩, Nat.le_refl _, bl hKn (Nat.le_of_ble_eq_true rfl)⟩ rfl dL_isRefused_660 rfl ?_
  refine v_if_eq C (t := 862) dL_isRefused_663 rfl rfl (fun h => absurd h (by decide)) (fun _ => ?_)
  refine v_aload_n C dL_isRefused_666 rfl 6 rfl ?_
  refine v_bipush C (v := 20) dL_isRefused_667 rfl rfl ?_
  refine v_iload C dL_isRefused_669 rfl 4 rfl ?_
  refine v_iconst C (v := 0) dL_isRefused_671 rfl rfl ?_
  refine v_iconst C (v := 0) dL_isRefused_672 rfl rfl ?_
  refine l_no C (ax_holds (s := s) (nm := nm) (nc := nc) (nr := nr) hst hG hW hJ.bs (e := 1) (cd := -1791000000) (e1_1 hce) (by decide) xLI1_1) (B + 203) (D + 3451) ⟨⟨Nat.le_refl _, bl hKc (Nat.le_of_ble_eq_true rfl)⟩, Nat.le_refl _, bl hKn (Nat.le_of_ble_eq_true rfl)⟩ rfl dL_isRefused_673 rfl ?_
  refine v_if_eq C (t := 862) dL_isRefused_676 rfl rfl (fun h => absurd h (by decide)) (fun _ => ?_)
  refine v_aload_n C dL_isRefused_679 rfl 6 rfl ?_
  refine v_bipush C (v := 21) dL_isRefused_680 rfl rfl ?_
  refine v_iload C dL_isRefused_682 rfl 2 rfl ?_
  refine v_bipush C (v := 9) dL_isRefused_684 rfl rfl ?_
  refine v_iconst C (v := 0) dL_isRefused_686 rfl rfl ?_
  refine l_no C (ax_ofClaim (s := s) (nm := nm) (nc := nc) (nr := nr) hst hG hW hJ.bs (e := 1) (cd := -1791000000) (e2_1 hcl) (by decide) xLIA_1) (B + 210) (D + 3570) ⟨⟨Nat.le_refl _, bl hKc (Nat.le_of_ble_eq_true rfl)⟩, Nat.le_refl _, bl hKn (Nat.le_of_ble_eq_true rfl)⟩ rfl dL_isRefused_687 rfl ?_
  refine v_if_eq C (t := 862) dL_isRefused_690 rfl rfl (fun h => absurd h (by decide)) (fun _ => ?_)
  refine v_aload_n C dL_isRefused_693 rfl 6 rfl ?_
  refine v_bipush C (v := 22) dL_isRefused_694 rfl rfl ?_
  refine v_iload C dL_isRefused_696 rfl 3 rfl ?_
  refine v_bipush C (v := 9) dL_isRefused_698 rfl rfl ?_
  refine v_iconst C (v := 0) dL_isRefused_700 rfl rfl ?_
  refine l_no C (ax_ofMiner (s := s) (nm := nm) (nc := nc) (nr := nr) hst hG hW hJ.bs (e := 1) (cd := -1791000000) (e2_1 hmi) (by decide) xLIA_1) (B + 217) (D + 3689) ⟨⟨Nat.le_refl _, bl hKc (Nat.le_of_ble_eq_true rfl)⟩, Nat.le_refl _, bl hKn (Nat.le_of_ble_eq_true rfl)⟩ rfl dL_isRefused_701 rfl ?_
  refine v_if_eq C (t := 862) dL_isRefused_704 rfl rfl (fun h => absurd h (by decide)) (fun _ => ?_)
  refine v_aload_n C dL_isRefused_707 rfl 6 rfl ?_
  refine v_bipush C (v := 23) dL_isRefused_708 rfl rfl ?_
  refine v_iload_n C dL_isRefused_710 rfl 5 rfl ?_
  refine v_ifB_eq C (t := 723) dL_isRefused_711 rfl rfl (fun _ => ?_) (fun h => absurd h hlow)
  refine v_aload_n C dL_isRefused_723 rfl 7 rfl ?_
  refine v_iconst C (v := 2) dL_isRefused_724 rfl rfl ?_
  refine v_mld C hW 0 (by decide) 2 (show 2 < 6 by omega) dL_isRefused_725 rfl ?_
  refine xx_top (y := nI (nr)) hT.1.2.2.1 ?_
  refine v_iload_n C dL_isRefused_726 rfl 8 rfl ?_
  refine v_bipush C (v := 30) dL_isRefused_727 rfl rfl ?_
  refine v_iremN C X0 30 rfl rfl (by omega) (by omega) (by omega) dL_isRefused_729 rfl ?_
  refine v_iaddN C nr (X0 % 30) rfl rfl dL_isRefused_730 rfl ?_
  refine v_iconst C (v := 0) dL_isRefused_731 rfl rfl ?_
  refine v_iconst C (v := 0) dL_isRefused_732 rfl rfl ?_
  refine l_no C (ax_gets (s := s) (nm := nm) (nc := nc) (nr := nr) hst hG hW hJ.bs (e := 1) (cd := -1791000000) (e1_1 (ocn hW.cnt.2.2 (by omega) (by omega))) (by decide) xLI1_1) (B + 224) (D + 3808) ⟨⟨Nat.le_refl _, bl hKc (Nat.le_of_ble_eq_true rfl)⟩, Nat.le_refl _, bl hKn (Nat.le_of_ble_eq_true rfl)⟩ rfl dL_isRefused_733 rfl ?_
  refine v_if_eq C (t := 862) dL_isRefused_736 rfl rfl (fun h => absurd h (by decide)) (fun _ => ?_)
  refine v_aload_n C dL_isRefused_739 rfl 6 rfl ?_
  refine v_bipush C (v := 24) dL_isRefused_740 rfl rfl ?_
  refine v_iload_n C dL_isRefused_742 rfl 5 rfl ?_
  refine v_ifB_eq C (t := 755) dL_isRefused_743 rfl rfl (fun _ => ?_) (fun h => absurd h hlow)
  refine v_iconst C (v := 5) dL_isRefused_755 rfl rfl ?_
  refine v_iconst C (v := 0) dL_isRefused_756 rfl rfl ?_
  refine v_iconst C (v := 0) dL_isRefused_757 rfl rfl ?_
  refine l_off C (ax_gold (s := s) (nm := nm) (nc := nc) (nr := nr) hst hG hW hJ.bs (e := 1) (cd := -1792000000) (e1_1 (by decide)) (by decide) xLA_1) (B + 231) (D + 3927) ⟨⟨Nat.le_refl _, bl hKc (Nat.le_of_ble_eq_true rfl)⟩, Nat.le_refl _, bl hKn (Nat.le_of_ble_eq_true rfl)⟩ rfl dL_isRefused_758 rfl ?_
  refine v_if_eq C (t := 862) dL_isRefused_761 rfl rfl (fun h => absurd h (by decide)) (fun _ => ?_)
  refine v_aload_n C dL_isRefused_764 rfl 6 rfl ?_
  refine v_bipush C (v := 25) dL_isRefused_765 rfl rfl ?_
  refine v_iload_n C dL_isRefused_767 rfl 5 rfl ?_
  refine v_ifB_eq C (t := 775) dL_isRefused_768 rfl rfl (fun _ => ?_) (fun h => absurd h hlow)
  refine v_bipush C (v := 6) dL_isRefused_775 rfl rfl ?_
  refine v_iload_n C dL_isRefused_777 rfl 8 rfl ?_
  refine v_bipush C (v := 30) dL_isRefused_778 rfl rfl ?_
  refine v_iremN C X0 30 rfl rfl (by omega) (by omega) (by omega) dL_isRefused_780 rfl ?_
  refine v_iaddN C 6 (X0 % 30) rfl rfl dL_isRefused_781 rfl ?_
  refine v_iconst C (v := 0) dL_isRefused_782 rfl rfl ?_
  refine v_iconst C (v := 0) dL_isRefused_783 rfl rfl ?_
  refine l_off C (ax_camp (s := s) (nm := nm) (nc := nc) (nr := nr) hst hG hW hJ.bs (e := 1) (cd := -1792000000) (e1_1 (fun h => nle (b := 5) (by omega) (by omega) (h.2))) (by decide) xLA_1) (B + 238) (D + 4046) ⟨⟨Nat.le_refl _, bl hKc (Nat.le_of_ble_eq_true rfl)⟩, Nat.le_refl _, bl hKn (Nat.le_of_ble_eq_true rfl)⟩ rfl dL_isRefused_784 rfl ?_
  refine v_if_eq C (t := 862) dL_isRefused_787 rfl rfl (fun h => absurd h (by decide)) (fun _ => ?_)
  refine v_aload_n C dL_isRefused_790 rfl 6 rfl ?_
  refine v_bipush C (v := 26) dL_isRefused_791 rfl rfl ?_
  refine v_iload C dL_isRefused_793 rfl 4 rfl ?_
  refine v_iconst C (v := 0) dL_isRefused_795 rfl rfl ?_
  refine v_iconst C (v := 0) dL_isRefused_796 rfl rfl ?_
  refine l_no C (ax_belief (s := s) (nm := nm) (nc := nc) (nr := nr) hst hG hW hJ.bs (e := 1) (cd := -1791000000) (e1_1 hce) (by decide) xLI1_1) (B + 245) (D + 4165) ⟨⟨Nat.le_refl _, bl hKc (Nat.le_of_ble_eq_true rfl)⟩, Nat.le_refl _, bl hKn (Nat.le_of_ble_eq_true rfl)⟩ rfl dL_isRefused_797 rfl ?_
  refine v_if_eq C (t := 862) dL_isRefused_800 rfl rfl (fun h => absurd h (by decide)) (fun _ => ?_)
  refine v_aload_n C dL_isRefused_803 rfl 6 rfl ?_
  refine v_bipush C (v := 27) dL_isRefused_804 rfl rfl ?_
  refine v_iload C dL_isRefused_806 rfl 2 rfl ?_
  refine v_bipush C (v := 9) dL_isRefused_808 rfl rfl ?_
  refine v_iconst C (v := 0) dL_isRefused_810 rfl rfl ?_
  refine l_no C (ax_plan (s := s) (nm := nm) (nc := nc) (nr := nr) hst hG hW hJ.bs (e := 1) (cd := -1791000000) (e3_1 hcl) (by decide) xL3_1) (B + 252) (D + 4284) ⟨⟨Nat.le_refl _, bl hKc (Nat.le_of_ble_eq_true rfl)⟩, Nat.le_refl _, bl hKn (Nat.le_of_ble_eq_true rfl)⟩ rfl dL_isRefused_811 rfl ?_
  refine v_if_eq C (t := 862) dL_isRefused_814 rfl rfl (fun h => absurd h (by decide)) (fun _ => ?_)
  refine v_aload_n C dL_isRefused_817 rfl 6 rfl ?_
  refine v_bipush C (v := 28) dL_isRefused_818 rfl rfl ?_
  refine v_iload C dL_isRefused_820 rfl 2 rfl ?_
  refine v_bipush C (v := 9) dL_isRefused_822 rfl rfl ?_
  refine v_iconst C (v := 0) dL_isRefused_824 rfl rfl ?_
  refine l_no C (ax_planCell (s := s) (nm := nm) (nc := nc) (nr := nr) hst hG hW hJ.bs (e := 1) (cd := -1791000000) (e3_1 (fun h => hcl h.1)) (by decide) xL3_1) (B + 259) (D + 4403) ⟨⟨Nat.le_refl _, bl hKc (Nat.le_of_ble_eq_true rfl)⟩, Nat.le_refl _, bl hKn (Nat.le_of_ble_eq_true rfl)⟩ rfl dL_isRefused_825 rfl ?_
  refine v_if_eq C (t := 862) dL_isRefused_828 rfl rfl (fun h => absurd h (by decide)) (fun _ => ?_)
  refine v_aload_n C dL_isRefused_831 rfl 6 rfl ?_
  refine q_day C hW hJ (B + 259) (D + 4403) ⟨⟨Nat.le_refl _, bl hKc (Nat.le_of_ble_eq_true rfl)⟩, Nat.le_refl _, bl hKn (Nat.le_of_ble_eq_true rfl)⟩ rfl dL_isRefused_832 rfl (fun b2 => ?_)
  refine v_ifN_ne C (t := 844) (tn (s 0 0)) rfl (by omega) dL_isRefused_835 rfl rfl (fun h3 => ?_) (fun h3 => ?_)
  · skip
    refine v_aload_n C dL_isRefused_844 rfl 6 rfl ?_
    refine v_iconst C (v := 0) dL_isRefused_845 rfl rfl ?_
    refine v_iload_n C dL_isRefused_846 rfl 8 rfl ?_
    refine v_bipush C (v := 40) dL_isRefused_847 rfl rfl ?_
    refine v_iremN C X0 40 rfl rfl (by omega) (by omega) (by omega) dL_isRefused_849 rfl ?_
    refine v_iconst C (v := 5) dL_isRefused_850 rfl rfl ?_
    refine v_iconst C (v := 5) dL_isRefused_851 rfl rfl ?_
    refine l_bars C (ax_ground (s := s) (nm := nm) (nc := nc) (nr := nr) hst hG hW hJ.bs (e := 3) (cd := -1793000000) (e3_3 (cell_in (by omega)) (by decide) (by first | exact Or.inr (by assumption) | exact Or.inl (day_pos hJ (by assumption)))) (by decide) xL3_3) (B + 266) (D + 4522) ⟨⟨Nat.le_refl _, bl hKc (Nat.le_of_ble_eq_true rfl)⟩, Nat.le_refl _, bl hKn (Nat.le_of_ble_eq_true rfl)⟩ rfl dL_isRefused_852 rfl ?_
    refine v_if_eq C (t := 862) dL_isRefused_855 rfl rfl (fun h => absurd h (by decide)) (fun _ => ?_)
    refine v_iconst C (v := 1) dL_isRefused_858 rfl rfl ?_
    refine v_goto C (q := 863) dL_isRefused_859 rfl ?_
    refine v_istore C (lv1 := [(10, .int (1)), (8, .long (allF s nm nc nr)), (7, .int (fo)), (6, .int (cl)), (5, .int (mi)), (4, .int (ce)), (3, .int (bI (X0 % 2 = 0))), (0, .ref (r 4)), (1, .ref (r 0)), (2, .int (nI (X0)))]) dL_isRefused_863 rfl (by decide) rfl ?_
    refine v_iconst C (v := 0) dL_isRefused_865 rfl rfl ?_
    refine v_istore C (lv1 := [(11, .int (0)), (10, .int (1)), (8, .long (allF s nm nc nr)), (7, .int (fo)), (6, .int (cl)), (5, .int (mi)), (4, .int (ce)), (3, .int (bI (X0 % 2 = 0))), (0, .ref (r 4)), (1, .ref (r 0)), (2, .int (nI (X0)))]) dL_isRefused_866 rfl (by decide) rfl ?_
    refine xx_lv [8, 9, 10, 7, 6, 5, 4, 3, 2, 1, 0] (lv' := [(0, .ref (r 4)), (1, .ref (r 0)), (2, .int (nI (X0))), (3, .int (bI (X0 % 2 = 0))), (4, .int (ce)), (5, .int (mi)), (6, .int (cl)), (7, .int (fo)), (8, .long (allF s nm nc nr)), (10, .int (1)), (11, .int (nI (0)))]) rfl ?_
    exact xx_mono (bm (Nat.le_of_ble_eq_true rfl)) (bm (Nat.le_of_ble_eq_true rfl)) (kk)
  · skip
    refine v_aload_n C dL_isRefused_838 rfl 7 rfl ?_
    refine v_iconst C (v := 4) dL_isRefused_839 rfl rfl ?_
    refine v_mld C hW 0 (by decide) 4 (show 4 < 6 by omega) dL_isRefused_840 rfl ?_
    refine xx_top (y := s 8 0) hT.1.2.2.2.2.1.1 ?_
    refine v_if_eq C (t := 858) dL_isRefused_841 rfl rfl (fun h4 => ?_) (fun h4 => ?_)
    · skip
      refine v_iconst C (v := 1) dL_isRefused_858 rfl rfl ?_
      refine v_goto C (q := 863) dL_isRefused_859 rfl ?_
      refine v_istore C (lv1 := [(10, .int (1)), (8, .long (allF s nm nc nr)), (7, .int (fo)), (6, .int (cl)), (5, .int (mi)), (4, .int (ce)), (3, .int (bI (X0 % 2 = 0))), (0, .ref (r 4)), (1, .ref (r 0)), (2, .int (nI (X0)))]) dL_isRefused_863 rfl (by decide) rfl ?_
      refine v_iconst C (v := 0) dL_isRefused_865 rfl rfl ?_
      refine v_istore C (lv1 := [(11, .int (0)), (10, .int (1)), (8, .long (allF s nm nc nr)), (7, .int (fo)), (6, .int (cl)), (5, .int (mi)), (4, .int (ce)), (3, .int (bI (X0 % 2 = 0))), (0, .ref (r 4)), (1, .ref (r 0)), (2, .int (nI (X0)))]) dL_isRefused_866 rfl (by decide) rfl ?_
      refine xx_lv [8, 9, 10, 7, 6, 5, 4, 3, 2, 1, 0] (lv' := [(0, .ref (r 4)), (1, .ref (r 0)), (2, .int (nI (X0))), (3, .int (bI (X0 % 2 = 0))), (4, .int (ce)), (5, .int (mi)), (6, .int (cl)), (7, .int (fo)), (8, .long (allF s nm nc nr)), (10, .int (1)), (11, .int (nI (0)))]) rfl ?_
      exact xx_mono (bm (Nat.le_of_ble_eq_true rfl)) (bm (Nat.le_of_ble_eq_true rfl)) (kk)
    · skip
      refine v_aload_n C dL_isRefused_844 rfl 6 rfl ?_
      refine v_iconst C (v := 0) dL_isRefused_845 rfl rfl ?_
      refine v_iload_n C dL_isRefused_846 rfl 8 rfl ?_
      refine v_bipush C (v := 40) dL_isRefused_847 rfl rfl ?_
      refine v_iremN C X0 40 rfl rfl (by omega) (by omega) (by omega) dL_isRefused_849 rfl ?_
      refine v_iconst C (v := 5) dL_isRefused_850 rfl rfl ?_
      refine v_iconst C (v := 5) dL_isRefused_851 rfl rfl ?_
      refine l_bars C (ax_ground (s := s) (nm := nm) (nc := nc) (nr := nr) hst hG hW hJ.bs (e := 3) (cd := -1793000000) (e3_3 (cell_in (by omega)) (by decide) (by first | exact Or.inr (by assumption) | exact Or.inl (day_pos hJ (by assumption)))) (by decide) xL3_3) (B + 266) (D + 4522) ⟨⟨Nat.le_refl _, bl hKc (Nat.le_of_ble_eq_true rfl)⟩, Nat.le_refl _, bl hKn (Nat.le_of_ble_eq_true rfl)⟩ rfl dL_isRefused_852 rfl ?_
      refine v_if_eq C (t := 862) dL_isRefused_855 rfl rfl (fun h => absurd h (by decide)) (fun _ => ?_)
      refine v_iconst C (v := 1) dL_isRefused_858 rfl rfl ?_
      refine v_goto C (q := 863) dL_isRefused_859 rfl ?_
      refine v_istore C (lv1 := [(10, .int (1)), (8, .long (allF s nm nc nr)), (7, .int (fo)), (6, .int (cl)), (5, .int (mi)), (4, .int (ce)), (3, .int (bI (X0 % 2 = 0))), (0, .ref (r 4)), (1, .ref (r 0)), (2, .int (nI (X0)))]) dL_isRefused_863 rfl (by decide) rfl ?_
      refine v_iconst C (v := 0) dL_isRefused_865 rfl rfl ?_
      refine v_istore C (lv1 := [(11, .int (0)), (10, .int (1)), (8, .long (allF s nm nc nr)), (7, .int (fo)), (6, .int (cl)), (5, .int (mi)), (4, .int (ce)), (3, .int (bI (X0 % 2 = 0))), (0, .ref (r 4)), (1, .ref (r 0)), (2, .int (nI (X0)))]) dL_isRefused_866 rfl (by decide) rfl ?_
      refine xx_lv [8, 9, 10, 7, 6, 5, 4, 3, 2, 1, 0] (lv' := [(0, .ref (r 4)), (1, .ref (r 0)), (2, .int (nI (X0))), (3, .int (bI (X0 % 2 = 0))), (4, .int (ce)), (5, .int (mi)), (6, .int (cl)), (7, .int (fo)), (8, .long (allF s nm nc nr)), (10, .int (1)), (11, .int (nI (0)))]) rfl ?_
      exact xx_mono (bm (Nat.le_of_ble_eq_true rfl)) (bm (Nat.le_of_ble_eq_true rfl)) (kk)

theorem sg_refH_B {X : XS} {G : GG} {w : va_W} {Q : State → Prop} {r : Nat → Nat} {s t : SS} {nm nc nr k B D : Nat} {X0 : Nat} {ce mi cl fo : Int32} {i : Nat} (C : Cx X G cL_isRefused 14 RL (Option.some Jvm.ClassFile.FieldType.boolean) r_L_isRefused "isRefused" []) (hW : Wd G r s t nm nc nr w) (hJ : Js s nm nc nr k) (hMi : MiOK G) (hk : k ≤ 131) (hT : K9 s t nm nc nr k) (hX : X0 < 2 ^ 31) (hlow : ¬ (X0 % 2 = 0)) (hce : ¬ ((0 : Int32) ≤ ce ∧ ce ≤ 39)) (hmi : ¬ ((0 : Int32) ≤ mi ∧ mi ≤ s 12 0 - 1)) (hcl : ¬ ((0 : Int32) ≤ cl ∧ cl ≤ s 21 0 - 1)) (hfo : ¬ ((0 : Int32) ≤ fo ∧ fo ≤ 3)) (hi0 : i ≤ nm) (hKc : B + 164 ≤ r_L_isRefused.cells) (hKn : D + 2678 ≤ r_L_isRefused.slots) (ih : i < nm → V X G 14 w (B + 164) (D + 2678) Q 868 [(0, .ref (r 4)), (1, .ref (r 0)), (2, .int (nI (X0))), (3, .int (bI (X0 % 2 = 0))), (4, .int (ce)), (5, .int (mi)), (6, .int (cl)), (7, .int (fo)), (8, .long (allF s nm nc nr)), (10, .int (1)), (11, .int (nI (i + 1)))] []) (kk : V X G 14 w (B + 164) (D + 2678) Q 1355 [(0, .ref (r 4)), (1, .ref (r 0)), (2, .int (nI (X0))), (3, .int (bI (X0 % 2 = 0))), (4, .int (ce)), (5, .int (mi)), (6, .int (cl)), (7, .int (fo)), (8, .long (allF s nm nc nr)), (10, .int (1)), (11, .int (nI (nm)))] []) : V X G 14 w B D Q 868 [(0, .ref (r 4)), (1, .ref (r 0)), (2, .int (nI (X0))), (3, .int (bI (X0 % 2 = 0))), (4, .int (ce)), (5, .int (mi)), (6, .int (cl)), (7, .int (fo)), (8, .long (allF s nm nc nr)), (10, .int (1)), (11, .int (nI (i)))] [] := by
  have hst : X.2.1.stackTraces = false := C.2.2.2.2.2.1
  have hG : GOK G := C.2.2.2.2.2.2.2.2.2.1
  have hm := hJ.1.1
  refine v_iload C dL_isRefused_868 rfl 10 rfl ?_
  refine v_aload_n C dL_isRefused_870 rfl 1 rfl ?_
  refine v_iconst C (v := 0) dL_isRefused_871 rfl rfl ?_
  refine v_mld C hW 0 (by decide) 0 (show 0 < 6 by omega) dL_isRefused_872 rfl ?_
  refine xx_top (y := nI (nm)) hT.1.1 ?_
  refine v_icN_ge C (t := 1355) i nm rfl rfl (by omega) (by omega) dL_isRefused_873 rfl rfl (fun h1 => ?_) (fun h1 => ?_)
  · skip
    obtain rfl : nm = i := by omega
    refine xx_lv [0, 1, 2, 3, 4, 5, 6, 7, 8, 9, 10] (lv' := [(0, .ref (r 4)), (1, .ref (r 0)), (2, .int (nI (X0))), (3, .int (bI (X0 % 2 = 0))), (4, .int (ce)), (5, .int (mi)), (6, .int (cl)), (7, .int (fo)), (8, .long (allF s nm nc nr)), (10, .int (1)), (11, .int (nI (nm)))]) rfl ?_
    exact xx_mono (Nat.le_add_right _ _) (Nat.le_add_right _ _) (kk)
  · skip
    have hi : i < nm := by omega
    refine v_iload C dL_isRefused_876 rfl 9 rfl ?_
    refine v_if_eq C (t := 1355) dL_isRefused_878 rfl rfl (fun h => absurd h (by decide)) (fun _ => ?_)
    refine v_aload_n C dL_isRefused_881 rfl 0 rfl ?_
    refine v_iload C dL_isRefused_882 rfl 10 rfl ?_
    refine v_iconst C (v := 4) dL_isRefused_884 rfl rfl ?_
    refine q_m4 C hW hJ (i := i) (by omega) (B + 2) (D + 12) ⟨⟨Nat.le_refl _, bl hKc (Nat.le_of_ble_eq_true rfl)⟩, Nat.le_refl _, bl hKn (Nat.le_of_ble_eq_true rfl)⟩ rfl dL_isRefused_885 rfl (fun b2 => ?_)
    refine xx_sel (P := (tn (s 17 i)) = 0) 896 [] ?_ (fun jj => ?_)
    · skip
      refine v_istore C (lv1 := [(12, .int (bI ((tn (s 17 i)) = 0))), (0, .ref (r 4)), (1, .ref (r 0)), (2, .int (nI (X0))), (3, .int (bI (X0 % 2 = 0))), (4, .int (ce)), (5, .int (mi)), (6, .int (cl)), (7, .int (fo)), (8, .long (allF s nm nc nr)), (10, .int (1)), (11, .int (nI (i)))]) dL_isRefused_896 rfl (by decide) rfl ?_
      refine v_aload_n C dL_isRefused_898 rfl 1 rfl ?_
      refine v_iload C dL_isRefused_899 rfl 11 rfl ?_
      refine v_iconst C (v := 0) dL_isRefused_901 rfl rfl ?_
      refine q_m0 C hW hJ (i := i) (by omega) (B + 4) (D + 24) ⟨⟨Nat.le_refl _, bl hKc (Nat.le_of_ble_eq_true rfl)⟩, Nat.le_refl _, bl hKn (Nat.le_of_ble_eq_true rfl)⟩ rfl dL_isRefused_902 rfl (fun b4 => ?_)
      refine v_aload_n C dL_isRefused_905 rfl 1 rfl ?_
      refine v_iload C dL_isRefused_906 rfl 11 rfl ?_
      refine v_iconst C (v := 1) dL_isRefused_908 rfl rfl ?_
      refine q_m1 C hW hJ (i := i) (by omega) (B + 6) (D + 36) ⟨⟨Nat.le_refl _, bl hKc (Nat.le_of_ble_eq_true rfl)⟩, Nat.le_refl _, bl hKn (Nat.le_of_ble_eq_true rfl)⟩ rfl dL_isRefused_909 rfl (fun b5 => ?_)
      refine v_iaddN C (tn (s 13 i)) (tn (s 14 i)) rfl rfl dL_isRefused_912 rfl ?_
      refine v_istore C (lv1 := [(13, .int (nI ((tn (s 13 i)) + (tn (s 14 i))))), (12, .int (bI ((tn (s 17 i)) = 0))), (0, .ref (r 4)), (1, .ref (r 0)), (2, .int (nI (X0))), (3, .int (bI (X0 % 2 = 0))), (4, .int (ce)), (5, .int (mi)), (6, .int (cl)), (7, .int (fo)), (8, .long (allF s nm nc nr)), (10, .int (1)), (11, .int (nI (i)))]) dL_isRefused_913 rfl (by decide) rfl ?_
      refine v_aload_n C dL_isRefused_915 rfl 2 rfl ?_
      refine v_iconst C (v := 5) dL_isRefused_916 rfl rfl ?_
      refine v_iload C dL_isRefused_917 rfl 12 rfl ?_
      refine v_iload C dL_isRefused_919 rfl 6 rfl ?_
      refine v_iconst C (v := 1) dL_isRefused_921 rfl rfl ?_
      refine l_no C (ax_peg (s := s) (nm := nm) (nc := nc) (nr := nr) hst hG hMi hW hJ.bs (e := 1) (cd := -1791000000) (e3_1 (fun h => hce h.2.1)) (by decide) xL3_1) (B + 13) (D + 155) ⟨⟨Nat.le_refl _, bl hKc (Nat.le_of_ble_eq_true rfl)⟩, Nat.le_refl _, bl hKn (Nat.le_of_ble_eq_true rfl)⟩ rfl dL_isRefused_922 rfl ?_
      refine v_if_eq C (t := 1346) dL_isRefused_925 rfl rfl (fun h => absurd h (by decide)) (fun _ => ?_)
      refine v_aload_n C dL_isRefused_928 rfl 2 rfl ?_
      refine v_iconst C (v := 5) dL_isRefused_929 rfl rfl ?_
      refine v_iload C dL_isRefused_930 rfl 12 rfl ?_
      refine v_bipush C (v := 36) dL_isRefused_932 rfl rfl ?_
      refine v_iconst C (v := 5) dL_isRefused_934 rfl rfl ?_
      refine l_no C (ax_peg (s := s) (nm := nm) (nc := nc) (nr := nr) hst hG hMi hW hJ.bs (e := 1) (cd := -1791000000) (e3_1 (fun h => absurd (h.2.2) (by decide))) (by decide) xL3_1) (B + 20) (D + 274) ⟨⟨Nat.le_refl _, bl hKc (Nat.le_of_ble_eq_true rfl)⟩, Nat.le_refl _, bl hKn (Nat.le_of_ble_eq_true rfl)⟩ rfl dL_isRefused_935 rfl ?_
      refine v_if_eq C (t := 1346) dL_isRefused_938 rfl rfl (fun h => absurd h (by decide)) (fun _ => ?_)
      refine v_aload_n C dL_isRefused_941 rfl 2 rfl ?_
      refine v_iconst C (v := 5) dL_isRefused_942 rfl rfl ?_
      refine v_iload C dL_isRefused_943 rfl 12 rfl ?_
      refine v_iconst C (v := 5) dL_isRefused_945 rfl rfl ?_
      refine v_iload_n C dL_isRefused_946 rfl 5 rfl ?_
      refine v_ifB_eq C (t := 959) dL_isRefused_947 rfl rfl (fun _ => ?_) (fun h => absurd h hlow)
      refine v_bipush C (v := 11) dL_isRefused_959 rfl rfl ?_
      refine l_off C (ax_peg (s := s) (nm := nm) (nc := nc) (nr := nr) hst hG hMi hW hJ.bs (e := 2) (cd := -1792000000) (e3_2 ⟨(mi_of hW.cnt.1 hi (by omega)), by decide, by decide⟩ (by decide)) (by decide) xL3_2) (B + 27) (D + 393) ⟨⟨Nat.le_refl _, bl hKc (Nat.le_of_ble_eq_true rfl)⟩, Nat.le_refl _, bl hKn (Nat.le_of_ble_eq_true rfl)⟩ rfl dL_isRefused_961 rfl ?_
      refine v_if_eq C (t := 1346) dL_isRefused_964 rfl rfl (fun h => absurd h (by decide)) (fun _ => ?_)
      refine v_aload_n C dL_isRefused_967 rfl 2 rfl ?_
      refine v_bipush C (v := 6) dL_isRefused_968 rfl rfl ?_
      refine v_iload C dL_isRefused_970 rfl 12 rfl ?_
      refine v_iload_n C dL_isRefused_972 rfl 5 rfl ?_
      refine v_ifB_eq C (t := 980) dL_isRefused_973 rfl rfl (fun _ => ?_) (fun h => absurd h hlow)
      refine v_sipush C (v := 201) dL_isRefused_980 rfl rfl ?_
      refine v_iload_n C dL_isRefused_983 rfl 4 rfl ?_
      refine v_bipush C (v := 30) dL_isRefused_984 rfl rfl ?_
      refine v_iremN C X0 30 rfl rfl (by omega) (by omega) (by omega) dL_isRefused_986 rfl ?_
      refine v_iaddN C 201 (X0 % 30) rfl rfl dL_isRefused_987 rfl ?_
      refine v_iconst C (v := 0) dL_isRefused_988 rfl rfl ?_
      refine l_off C (ax_right (s := s) (nm := nm) (nc := nc) (nr := nr) hst hG hMi hW hJ.bs (e := 2) (cd := -1792000000) (e3_2 (mi_of hW.cnt.1 hi (by omega)) (fun h => nle (b := 200) (by omega) (by omega) (h.2))) (by decide) xL3_2) (B + 34) (D + 512) ⟨⟨Nat.le_refl _, bl hKc (Nat.le_of_ble_eq_true rfl)⟩, Nat.le_refl _, bl hKn (Nat.le_of_ble_eq_true rfl)⟩ rfl dL_isRefused_989 rfl ?_
      refine v_if_eq C (t := 1346) dL_isRefused_992 rfl rfl (fun h => absurd h (by decide)) (fun _ => ?_)
      refine v_aload_n C dL_isRefused_995 rfl 2 rfl ?_
      refine v_bipush C (v := 7) dL_isRefused_996 rfl rfl ?_
      refine v_iload C dL_isRefused_998 rfl 12 rfl ?_
      refine v_iload C dL_isRefused_1000 rfl 6 rfl ?_
      refine v_iconst C (v := 0) dL_isRefused_1002 rfl rfl ?_
      refine l_no C (ax_work (s := s) (nm := nm) (nc := nc) (nr := nr) hst hG hW hJ.bs (e := 1) (cd := -1791000000) (e3_1 (fun h => hce h.2)) (by decide) xL3_1) (B + 41) (D + 631) ⟨⟨Nat.le_refl _, bl hKc (Nat.le_of_ble_eq_true rfl)⟩, Nat.le_refl _, bl hKn (Nat.le_of_ble_eq_true rfl)⟩ rfl dL_isRefused_1003 rfl ?_
      refine v_if_eq C (t := 1346) dL_isRefused_1006 rfl rfl (fun h => absurd h (by decide)) (fun _ => ?_)
      refine v_aload_n C dL_isRefused_1009 rfl 2 rfl ?_
      refine v_bipush C (v := 7) dL_isRefused_1010 rfl rfl ?_
      refine v_iload C dL_isRefused_1012 rfl 12 rfl ?_
      refine v_iload_n C dL_isRefused_1014 rfl 4 rfl ?_
      refine v_bipush C (v := 40) dL_isRefused_1015 rfl rfl ?_
      refine v_iremN C X0 40 rfl rfl (by omega) (by omega) (by omega) dL_isRefused_1017 rfl ?_
      refine v_iload C dL_isRefused_1018 rfl 9 rfl ?_
      refine l_off C (ax_work (s := s) (nm := nm) (nc := nc) (nr := nr) hst hG hW hJ.bs (e := 2) (cd := -1792000000) (e3_2 ⟨(mi_of hW.cnt.1 hi (by omega)), (cell_in (by omega))⟩ hfo) (by decide) xL3_2) (B + 48) (D + 750) ⟨⟨Nat.le_refl _, bl hKc (Nat.le_of_ble_eq_true rfl)⟩, Nat.le_refl _, bl hKn (Nat.le_of_ble_eq_true rfl)⟩ rfl dL_isRefused_1020 rfl ?_
      refine v_if_eq C (t := 1346) dL_isRefused_1023 rfl rfl (fun h => absurd h (by decide)) (fun _ => ?_)
      refine v_aload_n C dL_isRefused_1026 rfl 2 rfl ?_
      refine v_bipush C (v := 9) dL_isRefused_1027 rfl rfl ?_
      refine v_iload C dL_isRefused_1029 rfl 12 rfl ?_
      refine v_iload C dL_isRefused_1031 rfl 6 rfl ?_
      refine v_iconst C (v := 1) dL_isRefused_1033 rfl rfl ?_
      refine l_no C (ax_salt (s := s) (nm := nm) (nc := nc) (nr := nr) hst hG hW hJ.bs (e := 1) (cd := -1791000000) (e3_1 (fun h => hce h.2)) (by decide) xL3_1) (B + 55) (D + 869) ⟨⟨Nat.le_refl _, bl hKc (Nat.le_of_ble_eq_true rfl)⟩, Nat.le_refl _, bl hKn (Nat.le_of_ble_eq_true rfl)⟩ rfl dL_isRefused_1034 rfl ?_
      refine v_if_eq C (t := 1346) dL_isRefused_1037 rfl rfl (fun h => absurd h (by decide)) (fun _ => ?_)
      refine v_aload_n C dL_isRefused_1040 rfl 2 rfl ?_
      refine v_bipush C (v := 9) dL_isRefused_1041 rfl rfl ?_
      refine v_iload C dL_isRefused_1043 rfl 12 rfl ?_
      refine v_iconst C (v := 0) dL_isRefused_1045 rfl rfl ?_
      refine v_iload_n C dL_isRefused_1046 rfl 5 rfl ?_
      refine v_ifB_eq C (t := 1059) dL_isRefused_1047 rfl rfl (fun _ => ?_) (fun h => absurd h hlow)
      refine v_sipush C (v := 10001) dL_isRefused_1059 rfl rfl ?_
      refine l_off C (ax_salt (s := s) (nm := nm) (nc := nc) (nr := nr) hst hG hW hJ.bs (e := 2) (cd := -1792000000) (e3_2 ⟨(mi_of hW.cnt.1 hi (by omega)), by decide⟩ (by decide)) (by decide) xL3_2) (B + 62) (D + 988) ⟨⟨Nat.le_refl _, bl hKc (Nat.le_of_ble_eq_true rfl)⟩, Nat.le_refl _, bl hKn (Nat.le_of_ble_eq_true rfl)⟩ rfl dL_isRefused_1062 rfl ?_
      refine v_if_eq C (t := 1346) dL_isRefused_1065 rfl rfl (fun h => absurd h (by decide)) (fun _ => ?_)
      refine v_aload_n C dL_isRefused_1068 rfl 2 rfl ?_
      refine v_bipush C (v := 10) dL_isRefused_1069 rfl rfl ?_
      refine v_iload C dL_isRefused_1071 rfl 12 rfl ?_
      refine v_iload_n C dL_isRefused_1073 rfl 5 rfl ?_
      refine v_ifB_eq C (t := 1086) dL_isRefused_1074 rfl rfl (fun _ => ?_) (fun h => absurd h hlow)
      refine v_sipush C (v := 10001) dL_isRefused_1086 rfl rfl ?_
      refine v_iconst C (v := 0) dL_isRefused_1089 rfl rfl ?_
      refine l_off C (ax_brass (s := s) (nm := nm) (nc := nc) (nr := nr) hst hG hW hJ.bs (e := 2) (cd := -1792000000) (e3_2 (mi_of hW.cnt.1 hi (by omega)) (by decide)) (by decide) xL3_2) (B + 69) (D + 1107) ⟨⟨Nat.le_refl _, bl hKc (Nat.le_of_ble_eq_true rfl)⟩, Nat.le_refl _, bl hKn (Nat.le_of_ble_eq_true rfl)⟩ rfl dL_isRefused_1090 rfl ?_
      refine v_if_eq C (t := 1346) dL_isRefused_1093 rfl rfl (fun h => absurd h (by decide)) (fun _ => ?_)
      refine v_aload_n C dL_isRefused_1096 rfl 2 rfl ?_
      refine v_bipush C (v := 11) dL_isRefused_1097 rfl rfl ?_
      refine v_iload C dL_isRefused_1099 rfl 12 rfl ?_
      refine v_iload_n C dL_isRefused_1101 rfl 5 rfl ?_
      refine v_ifB_eq C (t := 1109) dL_isRefused_1102 rfl rfl (fun _ => ?_) (fun h => absurd h hlow)
      refine v_ldc C (v := 1000001) dL_isRefused_1109 rfl N_L_152 ?_
      refine v_iload_n C dL_isRefused_1111 rfl 4 rfl ?_
      refine v_bipush C (v := 30) dL_isRefused_1112 rfl rfl ?_
      refine v_iremN C X0 30 rfl rfl (by omega) (by omega) (by omega) dL_isRefused_1114 rfl ?_
      refine v_iaddN C 1000001 (X0 % 30) rfl rfl dL_isRefused_1115 rfl ?_
      refine v_iconst C (v := 0) dL_isRefused_1116 rfl rfl ?_
      refine l_off C (ax_sell (s := s) (nm := nm) (nc := nc) (nr := nr) hst hG hW hJ.bs (e := 2) (cd := -1792000000) (e3_2 (mi_of hW.cnt.1 hi (by omega)) (fun h => nle (b := 1000000) (by omega) (by omega) (h.2))) (by decide) xL3_2) (B + 76) (D + 1226) ⟨⟨Nat.le_refl _, bl hKc (Nat.le_of_ble_eq_true rfl)⟩, Nat.le_refl _, bl hKn (Nat.le_of_ble_eq_true rfl)⟩ rfl dL_isRefused_1117 rfl ?_
      refine v_if_eq C (t := 1346) dL_isRefused_1120 rfl rfl (fun h => absurd h (by decide)) (fun _ => ?_)
      refine v_aload_n C dL_isRefused_1123 rfl 2 rfl ?_
      refine v_bipush C (v := 14) dL_isRefused_1124 rfl rfl ?_
      refine v_iload C dL_isRefused_1126 rfl 12 rfl ?_
      refine v_iload_n C dL_isRefused_1128 rfl 5 rfl ?_
      refine v_ifB_eq C (t := 1141) dL_isRefused_1129 rfl rfl (fun _ => ?_) (fun h => absurd h hlow)
      refine v_sipush C (v := 1001) dL_isRefused_1141 rfl rfl ?_
      refine v_iconst C (v := 0) dL_isRefused_1144 rfl rfl ?_
      refine l_off C (ax_buy (s := s) (nm := nm) (nc := nc) (nr := nr) hst hG hW hJ.bs (e := 2) (cd := -1792000000) (e3_2 (mi_of hW.cnt.1 hi (by omega)) (by decide)) (by decide) xL3_2) (B + 83) (D + 1345) ⟨⟨Nat.le_refl _, bl hKc (Nat.le_of_ble_eq_true rfl)⟩, Nat.le_refl _, bl hKn (Nat.le_of_ble_eq_true rfl)⟩ rfl dL_isRefused_1145 rfl ?_
      refine v_if_eq C (t := 1346) dL_isRefused_1148 rfl rfl (fun h => absurd h (by decide)) (fun _ => ?_)
      refine v_aload_n C dL_isRefused_1151 rfl 2 rfl ?_
      refine v_bipush C (v := 15) dL_isRefused_1152 rfl rfl ?_
      refine v_iload C dL_isRefused_1154 rfl 12 rfl ?_
      refine v_iload C dL_isRefused_1156 rfl 12 rfl ?_
      refine v_iconst C (v := 5) dL_isRefused_1158 rfl rfl ?_
      refine l_off C (ax_back (s := s) (nm := nm) (nc := nc) (nr := nr) hst hG hW hJ.bs (e := 2) (cd := -1792000000) (e3_2 ⟨(mi_of hW.cnt.1 hi (by omega)), (mi_of hW.cnt.1 hi (by omega))⟩ (fun h => h.2.2 rfl)) (by decide) xL3_2) (B + 90) (D + 1464) ⟨⟨Nat.le_refl _, bl hKc (Nat.le_of_ble_eq_true rfl)⟩, Nat.le_refl _, bl hKn (Nat.le_of_ble_eq_true rfl)⟩ rfl dL_isRefused_1159 rfl ?_
      refine v_if_eq C (t := 1346) dL_isRefused_1162 rfl rfl (fun h => absurd h (by decide)) (fun _ => ?_)
      refine v_aload_n C dL_isRefused_1165 rfl 2 rfl ?_
      refine v_bipush C (v := 15) dL_isRefused_1166 rfl rfl ?_
      refine v_iload C dL_isRefused_1168 rfl 12 rfl ?_
      refine v_iload C dL_isRefused_1170 rfl 7 rfl ?_
      refine v_iconst C (v := 5) dL_isRefused_1172 rfl rfl ?_
      refine l_no C (ax_back (s := s) (nm := nm) (nc := nc) (nr := nr) hst hG hW hJ.bs (e := 1) (cd := -1791000000) (e3_1 (fun h => hmi h.2)) (by decide) xL3_1) (B + 97) (D + 1583) ⟨⟨Nat.le_refl _, bl hKc (Nat.le_of_ble_eq_true rfl)⟩, Nat.le_refl _, bl hKn (Nat.le_of_ble_eq_true rfl)⟩ rfl dL_isRefused_1173 rfl ?_
      refine v_if_eq C (t := 1346) dL_isRefused_1176 rfl rfl (fun h => absurd h (by decide)) (fun _ => ?_)
      refine v_aload_n C dL_isRefused_1179 rfl 2 rfl ?_
      refine v_bipush C (v := 22) dL_isRefused_1180 rfl rfl ?_
      refine v_iload C dL_isRefused_1182 rfl 12 rfl ?_
      refine v_iload_n C dL_isRefused_1184 rfl 5 rfl ?_
      refine v_ifB_eq C (t := 1197) dL_isRefused_1185 rfl rfl (fun _ => ?_) (fun h => absurd h hlow)
      refine v_bipush C (v := 8) dL_isRefused_1197 rfl rfl ?_
      refine v_iconst C (v := 0) dL_isRefused_1199 rfl rfl ?_
      refine l_off C (ax_ofMiner (s := s) (nm := nm) (nc := nc) (nr := nr) hst hG hW hJ.bs (e := 2) (cd := -1792000000) (e2_2 (mi_of hW.cnt.1 hi (by omega)) (by decide)) (by decide) xLIA_2) (B + 104) (D + 1702) ⟨⟨Nat.le_refl _, bl hKc (Nat.le_of_ble_eq_true rfl)⟩, Nat.le_refl _, bl hKn (Nat.le_of_ble_eq_true rfl)⟩ rfl dL_isRefused_1200 rfl ?_
      refine v_if_eq C (t := 1346) dL_isRefused_1203 rfl rfl (fun h => absurd h (by decide)) (fun _ => ?_)
      refine v_aload_n C dL_isRefused_1206 rfl 2 rfl ?_
      refine v_bipush C (v := 16) dL_isRefused_1207 rfl rfl ?_
      refine v_iload C dL_isRefused_1209 rfl 12 rfl ?_
      refine v_iload C dL_isRefused_1211 rfl 12 rfl ?_
      refine v_iconst C (v := 0) dL_isRefused_1213 rfl rfl ?_
      refine l_bars C (ax_end (s := s) (nm := nm) (nc := nc) (nr := nr) hst hG hW hJ.bs (e := 2) (cd := -1793000000) (e2_2 ⟨(mi_of hW.cnt.1 hi (by omega)), (mi_of hW.cnt.1 hi (by omega))⟩ (by rw [tn_nI (show i < 2 ^ 31 by omega), hJ.2.2.2.2.2.1.2.2.1 i hi]; decide)) (by decide) xLIS_2) (B + 111) (D + 1821) ⟨⟨Nat.le_refl _, bl hKc (Nat.le_of_ble_eq_true rfl)⟩, Nat.le_refl _, bl hKn (Nat.le_of_ble_eq_true rfl)⟩ rfl dL_isRefused_1214 rfl ?_
      refine v_if_eq C (t := 1346) dL_isRefused_1217 rfl rfl (fun h => absurd h (by decide)) (fun _ => ?_)
      refine v_aload_n C dL_isRefused_1220 rfl 2 rfl ?_
      refine v_bipush C (v := 11) dL_isRefused_1221 rfl rfl ?_
      refine v_iload C dL_isRefused_1223 rfl 12 rfl ?_
      refine v_iload C dL_isRefused_1225 rfl 0 rfl ?_
      refine v_iconst C (v := 1) dL_isRefused_1227 rfl rfl ?_
      refine v_iaddN C ((tn (s 13 i)) + (tn (s 14 i))) 1 rfl rfl dL_isRefused_1228 rfl ?_
      refine v_iconst C (v := 0) dL_isRefused_1229 rfl rfl ?_
      refine l_bars C (ax_sell (s := s) (nm := nm) (nc := nc) (nr := nr) hst hG hW hJ.bs (e := 3) (cd := -1793000000) (e3_3 (mi_of hW.cnt.1 hi (by omega)) ⟨nI_le (a := 1) (by omega) (by omega), nI_le (b := 1000000) (by omega) (by omega)⟩ (Or.inr (by rw [tn_nI (show i < 2 ^ 31 by omega)]; have h9 := (hJ.m13 hi).1.add (hJ.m14 hi).1 (by omega); have h8 := h9.2; exact (h9.1.ltc (by omega)).mpr (by omega)))) (by decide) xL3_3) (B + 118) (D + 1940) ⟨⟨Nat.le_refl _, bl hKc (Nat.le_of_ble_eq_true rfl)⟩, Nat.le_refl _, bl hKn (Nat.le_of_ble_eq_true rfl)⟩ rfl dL_isRefused_1230 rfl ?_
      refine v_if_eq C (t := 1346) dL_isRefused_1233 rfl rfl (fun h => absurd h (by decide)) (fun _ => ?_)
      refine v_aload_n C dL_isRefused_1236 rfl 2 rfl ?_
      refine v_iload C dL_isRefused_1237 rfl 12 rfl ?_
      refine v_iconst C (v := 0) dL_isRefused_1239 rfl rfl ?_
      refine q_m0 C hW hJ (i := i) (by omega) (B + 120) (D + 1952) ⟨⟨Nat.le_refl _, bl hKc (Nat.le_of_ble_eq_true rfl)⟩, Nat.le_refl _, bl hKn (Nat.le_of_ble_eq_true rfl)⟩ rfl dL_isRefused_1240 rfl (fun b6 => ?_)
      refine v_sipush C (v := 9999) dL_isRefused_1243 rfl rfl ?_
      refine v_icN_gt C (t := 1270) (tn (s 13 i)) 9999 rfl rfl (by omega) (by omega) dL_isRefused_1246 rfl rfl (fun h7 => ?_) (fun h7 => ?_)
      · skip
        refine v_iload C dL_isRefused_1270 rfl 1 rfl ?_
        refine v_ifB_eq C (t := 1342) dL_isRefused_1272 rfl rfl (fun h8 => ?_) (fun h8 => ?_)
        · skip
          refine v_iconst C (v := 1) dL_isRefused_1342 rfl rfl ?_
          refine v_goto C (q := 1347) dL_isRefused_1343 rfl ?_
          refine v_istore C (lv1 := [(10, .int (1)), (13, .int (nI ((tn (s 13 i)) + (tn (s 14 i))))), (12, .int (bI ((tn (s 17 i)) = 0))), (0, .ref (r 4)), (1, .ref (r 0)), (2, .int (nI (X0))), (3, .int (bI (X0 % 2 = 0))), (4, .int (ce)), (5, .int (mi)), (6, .int (cl)), (7, .int (fo)), (8, .long (allF s nm nc nr)), (11, .int (nI (i)))]) dL_isRefused_1347 rfl (by decide) rfl ?_
          refine v_iincN C (lv1 := [(11, .int (nI (i + 1))), (10, .int (1)), (13, .int (nI ((tn (s 13 i)) + (tn (s 14 i))))), (12, .int (bI ((tn (s 17 i)) = 0))), (0, .ref (r 4)), (1, .ref (r 0)), (2, .int (nI (X0))), (3, .int (bI (X0 % 2 = 0))), (4, .int (ce)), (5, .int (mi)), (6, .int (cl)), (7, .int (fo)), (8, .long (allF s nm nc nr))]) i rfl dL_isRefused_1349 rfl 12 rfl (by decide) rfl ?_
          refine v_goto C (q := 868) dL_isRefused_1352 rfl ?_
          refine xx_lv [4, 5, 6, 7, 8, 9, 10, 11, 12, 1, 0] (lv' := [(0, .ref (r 4)), (1, .ref (r 0)), (2, .int (nI (X0))), (3, .int (bI (X0 % 2 = 0))), (4, .int (ce)), (5, .int (mi)), (6, .int (cl)), (7, .int (fo)), (8, .long (allF s nm nc nr)), (10, .int (1)), (11, .int (nI (i + 1)))]) rfl ?_
          exact xx_mono (bm (Nat.le_of_ble_eq_true rfl)) (bm (Nat.le_of_ble_eq_true rfl)) (ih (by omega))
        · skip
          have hd0 : s 17 i = 0 := (hJ.m17 hi).1.eq0.mpr (by first | assumption | omega)
          refine v_aload_n C dL_isRefused_1275 rfl 2 rfl ?_
          refine v_iconst C (v := 5) dL_isRefused_1276 rfl rfl ?_
          refine v_iload C dL_isRefused_1277 rfl 12 rfl ?_
          refine v_iconst C (v := 0) dL_isRefused_1279 rfl rfl ?_
          refine v_iconst C (v := 1) dL_isRefused_1280 rfl rfl ?_
          refine l_bars C (ax_peg (s := s) (nm := nm) (nc := nc) (nr := nr) hst hG hMi hW hJ.bs (e := 3) (cd := -1793000000) (e3_3 ⟨(mi_of hW.cnt.1 hi (by omega)), by decide, by decide⟩ (by decide) (Or.inl (by rw [tn_nI (by omega)]; exact hd0))) (by decide) xL3_3) (B + 127) (D + 2071) ⟨⟨Nat.le_refl _, bl hKc (Nat.le_of_ble_eq_true rfl)⟩, Nat.le_refl _, bl hKn (Nat.le_of_ble_eq_true rfl)⟩ rfl dL_isRefused_1281 rfl ?_
          refine v_if_eq C (t := 1346) dL_isRefused_1284 rfl rfl (fun h => absurd h (by decide)) (fun _ => ?_)
          refine v_aload_n C dL_isRefused_1287 rfl 2 rfl ?_
          refine v_bipush C (v := 6) dL_isRefused_1288 rfl rfl ?_
          refine v_iload C dL_isRefused_1290 rfl 12 rfl ?_
          refine v_iconst C (v := 5) dL_isRefused_1292 rfl rfl ?_
          refine v_iconst C (v := 0) dL_isRefused_1293 rfl rfl ?_
          refine l_bars C (ax_right (s := s) (nm := nm) (nc := nc) (nr := nr) hst hG hMi hW hJ.bs (e := 3) (cd := -1793000000) (e3_3 (mi_of hW.cnt.1 hi (by omega)) (by decide) (Or.inl (by rw [tn_nI (by omega)]; exact hd0))) (by decide) xL3_3) (B + 134) (D + 2190) ⟨⟨Nat.le_refl _, bl hKc (Nat.le_of_ble_eq_true rfl)⟩, Nat.le_refl _, bl hKn (Nat.le_of_ble_eq_true rfl)⟩ rfl dL_isRefused_1294 rfl ?_
          refine v_if_eq C (t := 1346) dL_isRefused_1297 rfl rfl (fun h => absurd h (by decide)) (fun _ => ?_)
          refine v_aload_n C dL_isRefused_1300 rfl 2 rfl ?_
          refine v_bipush C (v := 7) dL_isRefused_1301 rfl rfl ?_
          refine v_iload C dL_isRefused_1303 rfl 12 rfl ?_
          refine v_iload_n C dL_isRefused_1305 rfl 4 rfl ?_
          refine v_bipush C (v := 40) dL_isRefused_1306 rfl rfl ?_
          refine v_iremN C X0 40 rfl rfl (by omega) (by omega) (by omega) dL_isRefused_1308 rfl ?_
          refine v_iconst C (v := 0) dL_isRefused_1309 rfl rfl ?_
          refine l_bars C (ax_work (s := s) (nm := nm) (nc := nc) (nr := nr) hst hG hW hJ.bs (e := 3) (cd := -1793000000) (e3_3 ⟨(mi_of hW.cnt.1 hi (by omega)), (cell_in (by omega))⟩ (by decide) (Or.inl (by rw [tn_nI (by omega)]; exact hd0))) (by decide) xL3_3) (B + 141) (D + 2309) ⟨⟨Nat.le_refl _, bl hKc (Nat.le_of_ble_eq_true rfl)⟩, Nat.le_refl _, bl hKn (Nat.le_of_ble_eq_true rfl)⟩ rfl dL_isRefused_1310 rfl ?_
          refine v_if_eq C (t := 1346) dL_isRefused_1313 rfl rfl (fun h => absurd h (by decide)) (fun _ => ?_)
          refine v_aload_n C dL_isRefused_1316 rfl 2 rfl ?_
          refine v_bipush C (v := 10) dL_isRefused_1317 rfl rfl ?_
          refine v_iload C dL_isRefused_1319 rfl 12 rfl ?_
          refine v_iconst C (v := 5) dL_isRefused_1321 rfl rfl ?_
          refine v_iconst C (v := 0) dL_isRefused_1322 rfl rfl ?_
          refine l_bars C (ax_brass (s := s) (nm := nm) (nc := nc) (nr := nr) hst hG hW hJ.bs (e := 3) (cd := -1793000000) (e3_3 (mi_of hW.cnt.1 hi (by omega)) (by decide) (Or.inl (by rw [tn_nI (by omega)]; exact hd0))) (by decide) xL3_3) (B + 148) (D + 2428) ⟨⟨Nat.le_refl _, bl hKc (Nat.le_of_ble_eq_true rfl)⟩, Nat.le_refl _, bl hKn (Nat.le_of_ble_eq_true rfl)⟩ rfl dL_isRefused_1323 rfl ?_
          refine v_if_eq C (t := 1346) dL_isRefused_1326 rfl rfl (fun h => absurd h (by decide)) (fun _ => ?_)
          refine v_aload_n C dL_isRefused_1329 rfl 2 rfl ?_
          refine v_bipush C (v := 14) dL_isRefused_1330 rfl rfl ?_
          refine v_iload C dL_isRefused_1332 rfl 12 rfl ?_
          refine v_iconst C (v := 1) dL_isRefused_1334 rfl rfl ?_
          refine v_iconst C (v := 0) dL_isRefused_1335 rfl rfl ?_
          refine l_bars C (ax_buy (s := s) (nm := nm) (nc := nc) (nr := nr) hst hG hW hJ.bs (e := 3) (cd := -1793000000) (e3_3 (mi_of hW.cnt.1 hi (by omega)) (by decide) (Or.inl (by rw [tn_nI (by omega)]; exact hd0))) (by decide) xL3_3) (B + 155) (D + 2547) ⟨⟨Nat.le_refl _, bl hKc (Nat.le_of_ble_eq_true rfl)⟩, Nat.le_refl _, bl hKn (Nat.le_of_ble_eq_true rfl)⟩ rfl dL_isRefused_1336 rfl ?_
          refine v_if_eq C (t := 1346) dL_isRefused_1339 rfl rfl (fun h => absurd h (by decide)) (fun _ => ?_)
          refine v_iconst C (v := 1) dL_isRefused_1342 rfl rfl ?_
          refine v_goto C (q := 1347) dL_isRefused_1343 rfl ?_
          refine v_istore C (lv1 := [(10, .int (1)), (13, .int (nI ((tn (s 13 i)) + (tn (s 14 i))))), (12, .int (bI ((tn (s 17 i)) = 0))), (0, .ref (r 4)), (1, .ref (r 0)), (2, .int (nI (X0))), (3, .int (bI (X0 % 2 = 0))), (4, .int (ce)), (5, .int (mi)), (6, .int (cl)), (7, .int (fo)), (8, .long (allF s nm nc nr)), (11, .int (nI (i)))]) dL_isRefused_1347 rfl (by decide) rfl ?_
          refine v_iincN C (lv1 := [(11, .int (nI (i + 1))), (10, .int (1)), (13, .int (nI ((tn (s 13 i)) + (tn (s 14 i))))), (12, .int (bI ((tn (s 17 i)) = 0))), (0, .ref (r 4)), (1, .ref (r 0)), (2, .int (nI (X0))), (3, .int (bI (X0 % 2 = 0))), (4, .int (ce)), (5, .int (mi)), (6, .int (cl)), (7, .int (fo)), (8, .long (allF s nm nc nr))]) i rfl dL_isRefused_1349 rfl 12 rfl (by decide) rfl ?_
          refine v_goto C (q := 868) dL_isRefused_1352 rfl ?_
          refine xx_lv [4, 5, 6, 7, 8, 9, 10, 11, 12, 1, 0] (lv' := [(0, .ref (r 4)), (1, .ref (r 0)), (2, .int (nI (X0))), (3, .int (bI (X0 % 2 = 0))), (4, .int (ce)), (5, .int (mi)), (6, .int (cl)), (7, .int (fo)), (8, .long (allF s nm nc nr)), (10, .int (1)), (11, .int (nI (i + 1)))]) rfl ?_
          exact xx_mono (bm (Nat.le_of_ble_eq_true rfl)) (bm (Nat.le_of_ble_eq_true rfl)) (ih (by omega))
      · skip
        refine v_aload_n C dL_isRefused_1249 rfl 2 rfl ?_
        refine v_bipush C (v := 9) dL_isRefused_1250 rfl rfl ?_
        refine v_iload C dL_isRefused_1252 rfl 12 rfl ?_
        refine v_iconst C (v := 5) dL_isRefused_1254 rfl rfl ?_
        refine v_aload_n C dL_isRefused_1255 rfl 2 rfl ?_
        refine v_iload C dL_isRefused_1256 rfl 12 rfl ?_
        refine v_iconst C (v := 0) dL_isRefused_1258 rfl rfl ?_
        refine q_m0 C hW hJ (i := i) (by omega) (B + 122) (D + 1964) ⟨⟨Nat.le_refl _, bl hKc (Nat.le_of_ble_eq_true rfl)⟩, Nat.le_refl _, bl hKn (Nat.le_of_ble_eq_true rfl)⟩ rfl dL_isRefused_1259 rfl (fun b9 => ?_)
        refine v_iconst C (v := 1) dL_isRefused_1262 rfl rfl ?_
        refine v_iaddN C (tn (s 13 i)) 1 rfl rfl dL_isRefused_1263 rfl ?_
        refine l_bars C (ax_salt (s := s) (nm := nm) (nc := nc) (nr := nr) hst hG hW hJ.bs (e := 3) (cd := -1793000000) (e3_3 ⟨(mi_of hW.cnt.1 hi (by omega)), by decide⟩ ⟨nI_le (a := 1) (by omega) (by omega), nI_le (b := 10000) (by omega) (by omega)⟩ (Or.inr (by rw [tn_nI (show i < 2 ^ 31 by omega)]; exact ((hJ.m13 hi).1.ltc (by omega)).mpr (by omega)))) (by decide) xL3_3) (B + 129) (D + 2083) ⟨⟨Nat.le_refl _, bl hKc (Nat.le_of_ble_eq_true rfl)⟩, Nat.le_refl _, bl hKn (Nat.le_of_ble_eq_true rfl)⟩ rfl dL_isRefused_1264 rfl ?_
        refine v_if_eq C (t := 1346) dL_isRefused_1267 rfl rfl (fun h => absurd h (by decide)) (fun _ => ?_)
        refine v_iload C dL_isRefused_1270 rfl 1 rfl ?_
        refine v_ifB_eq C (t := 1342) dL_isRefused_1272 rfl rfl (fun h10 => ?_) (fun h10 => ?_)
        · skip
          refine v_iconst C (v := 1) dL_isRefused_1342 rfl rfl ?_
          refine v_goto C (q := 1347) dL_isRefused_1343 rfl ?_
          refine v_istore C (lv1 := [(10, .int (1)), (13, .int (nI ((tn (s 13 i)) + (tn (s 14 i))))), (12, .int (bI ((tn (s 17 i)) = 0))), (0, .ref (r 4)), (1, .ref (r 0)), (2, .int (nI (X0))), (3, .int (bI (X0 % 2 = 0))), (4, .int (ce)), (5, .int (mi)), (6, .int (cl)), (7, .int (fo)), (8, .long (allF s nm nc nr)), (11, .int (nI (i)))]) dL_isRefused_1347 rfl (by decide) rfl ?_
          refine v_iincN C (lv1 := [(11, .int (nI (i + 1))), (10, .int (1)), (13, .int (nI ((tn (s 13 i)) + (tn (s 14 i))))), (12, .int (bI ((tn (s 17 i)) = 0))), (0, .ref (r 4)), (1, .ref (r 0)), (2, .int (nI (X0))), (3, .int (bI (X0 % 2 = 0))), (4, .int (ce)), (5, .int (mi)), (6, .int (cl)), (7, .int (fo)), (8, .long (allF s nm nc nr))]) i rfl dL_isRefused_1349 rfl 12 rfl (by decide) rfl ?_
          refine v_goto C (q := 868) dL_isRefused_1352 rfl ?_
          refine xx_lv [4, 5, 6, 7, 8, 9, 10, 11, 12, 1, 0] (lv' := [(0, .ref (r 4)), (1, .ref (r 0)), (2, .int (nI (X0))), (3, .int (bI (X0 % 2 = 0))), (4, .int (ce)), (5, .int (mi)), (6, .int (cl)), (7, .int (fo)), (8, .long (allF s nm nc nr)), (10, .int (1)), (11, .int (nI (i + 1)))]) rfl ?_
          exact xx_mono (bm (Nat.le_of_ble_eq_true rfl)) (bm (Nat.le_of_ble_eq_true rfl)) (ih (by omega))
        · skip
          have hd0 : s 17 i = 0 := (hJ.m17 hi).1.eq0.mpr (by first | assumption | omega)
          refine v_aload_n C dL_isRefused_1275 rfl 2 rfl ?_
          refine v_iconst C (v := 5) dL_isRefused_1276 rfl rfl ?_
          refine v_iload C dL_isRefused_1277 rfl 12 rfl ?_
          refine v_iconst C (v := 0) dL_isRefused_1279 rfl rfl ?_
          refine v_iconst C (v := 1) dL_isRefused_1280 rfl rfl ?_
          refine l_bars C (ax_peg (s := s) (nm := nm) (nc := nc) (nr := nr) hst hG hMi hW hJ.bs (e := 3) (cd := -1793000000) (e3_3 ⟨(mi_of hW.cnt.1 hi (by omega)), by decide, by decide⟩ (by decide) (Or.inl (by rw [tn_nI (by omega)]; exact hd0))) (by decide) xL3_3) (B + 136) (D + 2202) ⟨⟨Nat.le_refl _, bl hKc (Nat.le_of_ble_eq_true rfl)⟩, Nat.le_refl _, bl hKn (Nat.le_of_ble_eq_true rfl)⟩ rfl dL_isRefused_1281 rfl ?_
          refine v_if_eq C (t := 1346) dL_isRefused_1284 rfl rfl (fun h => absurd h (by decide)) (fun _ => ?_)
          refine v_aload_n C dL_isRefused_1287 rfl 2 rfl ?_
          refine v_bipush C (v := 6) dL_isRefused_1288 rfl rfl ?_
          refine v_iload C dL_isRefused_1290 rfl 12 rfl ?_
          refine v_iconst C (v := 5) dL_isRefused_1292 rfl rfl ?_
          refine v_iconst C (v := 0) dL_isRefused_1293 rfl rfl ?_
          refine l_bars C (ax_right (s := s) (nm := nm) (nc := nc) (nr := nr) hst hG hMi hW hJ.bs (e := 3) (cd := -1793000000) (e3_3 (mi_of hW.cnt.1 hi (by omega)) (by decide) (Or.inl (by rw [tn_nI (by omega)]; exact hd0))) (by decide) xL3_3) (B + 143) (D + 2321) ⟨⟨Nat.le_refl _, bl hKc (Nat.le_of_ble_eq_true rfl)⟩, Nat.le_refl _, bl hKn (Nat.le_of_ble_eq_true rfl)⟩ rfl dL_isRefused_1294 rfl ?_
          refine v_if_eq C (t := 1346) dL_isRefused_1297 rfl rfl (fun h => absurd h (by decide)) (fun _ => ?_)
          refine v_aload_n C dL_isRefused_1300 rfl 2 rfl ?_
          refine v_bipush C (v := 7) dL_isRefused_1301 rfl rfl ?_
          refine v_iload C dL_isRefused_1303 rfl 12 rfl ?_
          refine v_iload_n C dL_isRefused_1305 rfl 4 rfl ?_
          refine v_bipush C (v := 40) dL_isRefused_1306 rfl rfl ?_
          refine v_iremN C X0 40 rfl rfl (by omega) (by omega) (by omega) dL_isRefused_1308 rfl ?_
          refine v_iconst C (v := 0) dL_isRefused_1309 rfl rfl ?_
          refine l_bars C (ax_work (s := s) (nm := nm) (nc := nc) (nr := nr) hst hG hW hJ.bs (e := 3) (cd := -1793000000) (e3_3 ⟨(mi_of hW.cnt.1 hi (by omega)), (cell_in (by omega))⟩ (by decide) (Or.inl (by rw [tn_nI (by omega)]; exact hd0))) (by decide) xL3_3) (B + 150) (D + 2440) ⟨⟨Nat.le_refl _, bl hKc (Nat.le_of_ble_eq_true rfl)⟩, Nat.le_refl _, bl hKn (Nat.le_of_ble_eq_true rfl)⟩ rfl dL_isRefused_1310 rfl ?_
          refine v_if_eq C (t := 1346) dL_isRefused_1313 rfl rfl (fun h => absurd h (by decide)) (fun _ => ?_)
          refine v_aload_n C dL_isRefused_1316 rfl 2 rfl ?_
          refine v_bipush C (v := 10) dL_isRefused_1317 rfl rfl ?_
          refine v_iload C dL_isRefused_1319 rfl 12 rfl ?_
          refine v_iconst C (v := 5) dL_isRefused_1321 rfl rfl ?_
          refine v_iconst C (v := 0) dL_isRefused_1322 rfl rfl ?_
          refine l_bars C (ax_brass (s := s) (nm := nm) (nc := nc) (nr := nr) hst hG hW hJ.bs (e := 3) (cd := -1793000000) (e3_3 (mi_of hW.cnt.1 hi (by omega)) (by decide) (Or.inl (by rw [tn_nI (by omega)]; exact hd0))) (by decide) xL3_3) (B + 157) (D + 2559) ⟨⟨Nat.le_refl _, bl hKc (Nat.le_of_ble_eq_true rfl)⟩, Nat.le_refl _, bl hKn (Nat.le_of_ble_eq_true rfl)⟩ rfl dL_isRefused_1323 rfl ?_
          refine v_if_eq C (t := 1346) dL_isRefused_1326 rfl rfl (fun h => absurd h (by decide)) (fun _ => ?_)
          refine v_aload_n C dL_isRefused_1329 rfl 2 rfl ?_
          refine v_bipush C (v := 14) dL_isRefused_1330 rfl rfl ?_
          refine v_iload C dL_isRefused_1332 rfl 12 rfl ?_
          refine v_iconst C (v := 1) dL_isRefused_1334 rfl rfl ?_
          refine v_iconst C (v := 0) dL_isRefused_1335 rfl rfl ?_
          refine l_bars C (ax_buy (s := s) (nm := nm) (nc := nc) (nr := nr) hst hG hW hJ.bs (e := 3) (cd := -1793000000) (e3_3 (mi_of hW.cnt.1 hi (by omega)) (by decide) (Or.inl (by rw [tn_nI (by omega)]; exact hd0))) (by decide) xL3_3) (B + 164) (D + 2678) ⟨⟨Nat.le_refl _, bl hKc (Nat.le_of_ble_eq_true rfl)⟩, Nat.le_refl _, bl hKn (Nat.le_of_ble_eq_true rfl)⟩ rfl dL_isRefused_1336 rfl ?_
          refine v_if_eq C (t := 1346) dL_isRefused_1339 rfl rfl (fun h => absurd h (by decide)) (fun _ => ?_)
          refine v_iconst C (v := 1) dL_isRefused_1342 rfl rfl ?_
          refine v_goto C (q := 1347) dL_isRefused_1343 rfl ?_
          refine v_istore C (lv1 := [(10, .int (1)), (13, .int (nI ((tn (s 13 i)) + (tn (s 14 i))))), (12, .int (bI ((tn (s 17 i)) = 0))), (0, .ref (r 4)), (1, .ref (r 0)), (2, .int (nI (X0))), (3, .int (bI (X0 % 2 = 0))), (4, .int (ce)), (5, .int (mi)), (6, .int (cl)), (7, .int (fo)), (8, .long (allF s nm nc nr)), (11, .int (nI (i)))]) dL_isRefused_1347 rfl (by decide) rfl ?_
          refine v_iincN C (lv1 := [(11, .int (nI (i + 1))), (10, .int (1)), (13, .int (nI ((tn (s 13 i)) + (tn (s 14 i))))), (12, .int (bI ((tn (s 17 i)) = 0))), (0, .ref (r 4)), (1, .ref (r 0)), (2, .int (nI (X0))), (3, .int (bI (X0 % 2 = 0))), (4, .int (ce)), (5, .int (mi)), (6, .int (cl)), (7, .int (fo)), (8, .long (allF s nm nc nr))]) i rfl dL_isRefused_1349 rfl 12 rfl (by decide) rfl ?_
          refine v_goto C (q := 868) dL_isRefused_1352 rfl ?_
          refine xx_lv [4, 5, 6, 7, 8, 9, 10, 11, 12, 1, 0] (lv' := [(0, .ref (r 4)), (1, .ref (r 0)), (2, .int (nI (X0))), (3, .int (bI (X0 % 2 = 0))), (4, .int (ce)), (5, .int (mi)), (6, .int (cl)), (7, .int (fo)), (8, .long (allF s nm nc nr)), (10, .int (1)), (11, .int (nI (i + 1)))]) rfl ?_
          exact xx_mono (bm (Nat.le_of_ble_eq_true rfl)) (bm (Nat.le_of_ble_eq_true rfl)) (ih (by omega))
    refine v_ifN_ne C (t := 895) (tn (s 17 i)) rfl (by omega) dL_isRefused_888 rfl rfl (fun h3 => ?_) (fun h3 => ?_)
    · skip
      refine v_iconst C (v := 0) dL_isRefused_895 rfl rfl ?_
      exact jj _ (bI_f (by first | assumption | omega)).symm
    · skip
      refine v_iconst C (v := 1) dL_isRefused_891 rfl rfl ?_
      refine v_goto C (q := 896) dL_isRefused_892 rfl ?_
      exact jj _ (bI_t (by first | assumption | omega)).symm

theorem sg_refH_C {X : XS} {G : GG} {w : va_W} {Q : State → Prop} {r : Nat → Nat} {s t : SS} {nm nc nr k B D : Nat} {X0 : Nat} {ce mi cl fo : Int32} {i : Nat} (C : Cx X G cL_isRefused 14 RL (Option.some Jvm.ClassFile.FieldType.boolean) r_L_isRefused "isRefused" []) (hW : Wd G r s t nm nc nr w) (hJ : Js s nm nc nr k) (hMi : MiOK G) (hk : k ≤ 131) (hT : K9 s t nm nc nr k) (hX : X0 < 2 ^ 31) (hlow : ¬ (X0 % 2 = 0)) (hce : ¬ ((0 : Int32) ≤ ce ∧ ce ≤ 39)) (hmi : ¬ ((0 : Int32) ≤ mi ∧ mi ≤ s 12 0 - 1)) (hcl : ¬ ((0 : Int32) ≤ cl ∧ cl ≤ s 21 0 - 1)) (hfo : ¬ ((0 : Int32) ≤ fo ∧ fo ≤ 3)) (hi0 : i ≤ nc) (hKc : B + 53 ≤ r_L_isRefused.cells) (hKn : D + 857 ≤ r_L_isRefused.slots) (ih : i < nc → V X G 14 w (B + 53) (D + 857) Q 1358 [(0, .ref (r 4)), (1, .ref (r 0)), (2, .int (nI (X0))), (3, .int (bI (X0 % 2 = 0))), (4, .int (ce)), (5, .int (mi)), (6, .int (cl)), (7, .int (fo)), (8, .long (allF s nm nc nr)), (10, .int (1)), (11, .int (nI (i + 1)))] []) (kk : V X G 14 w (B + 53) (D + 857) Q 1539 [(0, .ref (r 4)), (1, .ref (r 0)), (2, .int (nI (X0))), (3, .int (bI (X0 % 2 = 0))), (4, .int (ce)), (5, .int (mi)), (6, .int (cl)), (7, .int (fo)), (8, .long (allF s nm nc nr)), (10, .int (1)), (11, .int (nI (nc)))] []) : V X G 14 w B D Q 1358 [(0, .ref (r 4)), (1, .ref (r 0)), (2, .int (nI (X0))), (3, .int (bI (X0 % 2 = 0))), (4, .int (ce)), (5, .int (mi)), (6, .int (cl)), (7, .int (fo)), (8, .long (allF s nm nc nr)), (10, .int (1)), (11, .int (nI (i)))] [] := by
  have hst : X.2.1.stackTraces = false := C.2.2.2.2.2.1
  have hG : GOK G := C.2.2.2.2.2.2.2.2.2.1
  have hm := hJ.1.1
  refine v_iload C dL_isRefused_1358 rfl 10 rfl ?_
  refine v_aload_n C dL_isRefused_1360 rfl 1 rfl ?_
  refine v_iconst C (v := 1) dL_isRefused_1361 rfl rfl ?_
  refine v_mld C hW 0 (by decide) 1 (show 1 < 6 by omega) dL_isRefused_1362 rfl ?_
  refine xx_top (y := nI (nc)) hT.1.2.1 ?_
  refine v_icN_ge C (t := 1539) i nc rfl rfl (by omega) (by omega) dL_isRefused_1363 rfl rfl (fun h1 => ?_) (fun h1 => ?_)
  · skip
    obtain rfl : nc = i := by omega
    refine xx_lv [0, 1, 2, 3, 4, 5, 6, 7, 8, 9, 10] (lv' := [(0, .ref (r 4)), (1, .ref (r 0)), (2, .int (nI (X0))), (3, .int (bI (X0 % 2 = 0))), (4, .int (ce)), (5, .int (mi)), (6, .int (cl)), (7, .int (fo)), (8, .long (allF s nm nc nr)), (10, .int (1)), (11, .int (nI (nc)))]) rfl ?_
    exact xx_mono (Nat.le_add_right _ _) (Nat.le_add_right _ _) (kk)
  · skip
    have hi : i < nc := by omega
    refine v_iload C dL_isRefused_1366 rfl 9 rfl ?_
    refine v_if_eq C (t := 1539) dL_isRefused_1368 rfl rfl (fun h => absurd h (by decide)) (fun _ => ?_)
    refine v_aload_n C dL_isRefused_1371 rfl 0 rfl ?_
    refine v_iload C dL_isRefused_1372 rfl 10 rfl ?_
    refine v_iconst C (v := 0) dL_isRefused_1374 rfl rfl ?_
    refine q_c0 C hW hJ (i := i) (by omega) (B + 2) (D + 12) ⟨⟨Nat.le_refl _, bl hKc (Nat.le_of_ble_eq_true rfl)⟩, Nat.le_refl _, bl hKn (Nat.le_of_ble_eq_true rfl)⟩ rfl dL_isRefused_1375 rfl (fun b2 => ?_)
    refine v_istore C (lv1 := [(12, .int (nI (tn (s 22 i)))), (0, .ref (r 4)), (1, .ref (r 0)), (2, .int (nI (X0))), (3, .int (bI (X0 % 2 = 0))), (4, .int (ce)), (5, .int (mi)), (6, .int (cl)), (7, .int (fo)), (8, .long (allF s nm nc nr)), (10, .int (1)), (11, .int (nI (i)))]) dL_isRefused_1378 rfl (by decide) rfl ?_
    refine v_aload_n C dL_isRefused_1380 rfl 1 rfl ?_
    refine v_bipush C (v := 17) dL_isRefused_1381 rfl rfl ?_
    refine v_iload C dL_isRefused_1383 rfl 11 rfl ?_
    refine v_iload C dL_isRefused_1385 rfl 6 rfl ?_
    refine v_iconst C (v := 0) dL_isRefused_1387 rfl rfl ?_
    refine l_no C (ax_trade (s := s) (nm := nm) (nc := nc) (nr := nr) hst hG hW hJ.bs (e := 1) (cd := -1791000000) (e3_1 (fun h => hmi h.2)) (by decide) xL3_1) (B + 9) (D + 131) ⟨⟨Nat.le_refl _, bl hKc (Nat.le_of_ble_eq_true rfl)⟩, Nat.le_refl _, bl hKn (Nat.le_of_ble_eq_true rfl)⟩ rfl dL_isRefused_1388 rfl ?_
    refine v_if_eq C (t := 1530) dL_isRefused_1391 rfl rfl (fun h => absurd h (by decide)) (fun _ => ?_)
    refine v_aload_n C dL_isRefused_1394 rfl 1 rfl ?_
    refine v_bipush C (v := 17) dL_isRefused_1395 rfl rfl ?_
    refine v_iload C dL_isRefused_1397 rfl 11 rfl ?_
    refine v_iload C dL_isRefused_1399 rfl 0 rfl ?_
    refine v_iconst C (v := 0) dL_isRefused_1401 rfl rfl ?_
    refine l_off C (ax_trade (s := s) (nm := nm) (nc := nc) (nr := nr) hst hG hW hJ.bs (e := 2) (cd := -1792000000) (e3_2 ⟨(mi_of hW.cnt.2.1 hi (by omega)), mi_of hW.cnt.1 (hJ.c22 hi).2 (by omega)⟩ (fun h => h.2 (by rw [tn_nI (show i < 2 ^ 31 by omega)]; exact (hJ.c22 hi).1.e.symm))) (by decide) xL3_2) (B + 16) (D + 250) ⟨⟨Nat.le_refl _, bl hKc (Nat.le_of_ble_eq_true rfl)⟩, Nat.le_refl _, bl hKn (Nat.le_of_ble_eq_true rfl)⟩ rfl dL_isRefused_1402 rfl ?_
    refine v_if_eq C (t := 1530) dL_isRefused_1405 rfl rfl (fun h => absurd h (by decide)) (fun _ => ?_)
    refine v_aload_n C dL_isRefused_1408 rfl 1 rfl ?_
    refine v_bipush C (v := 21) dL_isRefused_1409 rfl rfl ?_
    refine v_iload C dL_isRefused_1411 rfl 11 rfl ?_
    refine v_iload_n C dL_isRefused_1413 rfl 4 rfl ?_
    refine v_ifB_eq C (t := 1426) dL_isRefused_1414 rfl rfl (fun _ => ?_) (fun h => absurd h hlow)
    refine v_bipush C (v := 6) dL_isRefused_1426 rfl rfl ?_
    refine v_iconst C (v := 0) dL_isRefused_1428 rfl rfl ?_
    refine l_off C (ax_ofClaim (s := s) (nm := nm) (nc := nc) (nr := nr) hst hG hW hJ.bs (e := 2) (cd := -1792000000) (e2_2 (mi_of hW.cnt.2.1 hi (by omega)) (by decide)) (by decide) xLIA_2) (B + 23) (D + 369) ⟨⟨Nat.le_refl _, bl hKc (Nat.le_of_ble_eq_true rfl)⟩, Nat.le_refl _, bl hKn (Nat.le_of_ble_eq_true rfl)⟩ rfl dL_isRefused_1429 rfl ?_
    refine v_if_eq C (t := 1530) dL_isRefused_1432 rfl rfl (fun h => absurd h (by decide)) (fun _ => ?_)
    refine v_aload_n C dL_isRefused_1435 rfl 1 rfl ?_
    refine v_bipush C (v := 27) dL_isRefused_1436 rfl rfl ?_
    refine v_iload C dL_isRefused_1438 rfl 11 rfl ?_
    refine v_iload C dL_isRefused_1440 rfl 8 rfl ?_
    refine v_iconst C (v := 0) dL_isRefused_1442 rfl rfl ?_
    refine l_off C (ax_plan (s := s) (nm := nm) (nc := nc) (nr := nr) hst hG hW hJ.bs (e := 2) (cd := -1792000000) (e3_2 (mi_of hW.cnt.2.1 hi (by omega)) hfo) (by decide) xL3_2) (B + 30) (D + 488) ⟨⟨Nat.le_refl _, bl hKc (Nat.le_of_ble_eq_true rfl)⟩, Nat.le_refl _, bl hKn (Nat.le_of_ble_eq_true rfl)⟩ rfl dL_isRefused_1443 rfl ?_
    refine v_if_eq C (t := 1530) dL_isRefused_1446 rfl rfl (fun h => absurd h (by decide)) (fun _ => ?_)
    refine v_aload_n C dL_isRefused_1449 rfl 1 rfl ?_
    refine v_bipush C (v := 28) dL_isRefused_1450 rfl rfl ?_
    refine v_iload C dL_isRefused_1452 rfl 11 rfl ?_
    refine v_bipush C (v := 9) dL_isRefused_1454 rfl rfl ?_
    refine v_iconst C (v := (-1)) dL_isRefused_1456 rfl rfl ?_
    refine v_iload_n C dL_isRefused_1457 rfl 3 rfl ?_
    refine v_bipush C (v := 30) dL_isRefused_1458 rfl rfl ?_
    refine v_iremN C X0 30 rfl rfl (by omega) (by omega) (by omega) dL_isRefused_1460 rfl ?_
    refine v_isub C dL_isRefused_1461 rfl ?_
    refine l_no C (ax_planCell (s := s) (nm := nm) (nc := nc) (nr := nr) hst hG hW hJ.bs (e := 1) (cd := -1791000000) (e3_1 (fun h => ng (by omega) h.2)) (by decide) xL3_1) (B + 37) (D + 607) ⟨⟨Nat.le_refl _, bl hKc (Nat.le_of_ble_eq_true rfl)⟩, Nat.le_refl _, bl hKn (Nat.le_of_ble_eq_true rfl)⟩ rfl dL_isRefused_1462 rfl ?_
    refine v_if_eq C (t := 1530) dL_isRefused_1465 rfl rfl (fun h => absurd h (by decide)) (fun _ => ?_)
    refine v_aload_n C dL_isRefused_1468 rfl 1 rfl ?_
    refine v_bipush C (v := 28) dL_isRefused_1469 rfl rfl ?_
    refine v_iload C dL_isRefused_1471 rfl 11 rfl ?_
    refine v_iload C dL_isRefused_1473 rfl 8 rfl ?_
    refine v_iconst C (v := 0) dL_isRefused_1475 rfl rfl ?_
    refine l_off C (ax_planCell (s := s) (nm := nm) (nc := nc) (nr := nr) hst hG hW hJ.bs (e := 2) (cd := -1792000000) (e3_2 ⟨(mi_of hW.cnt.2.1 hi (by omega)), by decide⟩ hfo) (by decide) xL3_2) (B + 44) (D + 726) ⟨⟨Nat.le_refl _, bl hKc (Nat.le_of_ble_eq_true rfl)⟩, Nat.le_refl _, bl hKn (Nat.le_of_ble_eq_true rfl)⟩ rfl dL_isRefused_1476 rfl ?_
    refine v_if_eq C (t := 1530) dL_isRefused_1479 rfl rfl (fun h => absurd h (by decide)) (fun _ => ?_)
    refine v_aload_n C dL_isRefused_1482 rfl 1 rfl ?_
    refine v_iload C dL_isRefused_1483 rfl 11 rfl ?_
    refine v_iconst C (v := 3) dL_isRefused_1485 rfl rfl ?_
    refine q_c3 C hW hJ (i := i) (by omega) (B + 46) (D + 738) ⟨⟨Nat.le_refl _, bl hKc (Nat.le_of_ble_eq_true rfl)⟩, Nat.le_refl _, bl hKn (Nat.le_of_ble_eq_true rfl)⟩ rfl dL_isRefused_1486 rfl (fun b3 => ?_)
    refine v_iconst C (v := 1) dL_isRefused_1489 rfl rfl ?_
    refine v_icN_eq C (t := 1526) (tn (s 25 i)) 1 rfl rfl (by omega) (by omega) dL_isRefused_1490 rfl rfl (fun h4 => ?_) (fun h4 => ?_)
    · skip
      refine v_iconst C (v := 1) dL_isRefused_1526 rfl rfl ?_
      refine v_goto C (q := 1531) dL_isRefused_1527 rfl ?_
      refine v_istore C (lv1 := [(10, .int (1)), (12, .int (nI (tn (s 22 i)))), (0, .ref (r 4)), (1, .ref (r 0)), (2, .int (nI (X0))), (3, .int (bI (X0 % 2 = 0))), (4, .int (ce)), (5, .int (mi)), (6, .int (cl)), (7, .int (fo)), (8, .long (allF s nm nc nr)), (11, .int (nI (i)))]) dL_isRefused_1531 rfl (by decide) rfl ?_
      refine v_iincN C (lv1 := [(11, .int (nI (i + 1))), (10, .int (1)), (12, .int (nI (tn (s 22 i)))), (0, .ref (r 4)), (1, .ref (r 0)), (2, .int (nI (X0))), (3, .int (bI (X0 % 2 = 0))), (4, .int (ce)), (5, .int (mi)), (6, .int (cl)), (7, .int (fo)), (8, .long (allF s nm nc nr))]) i rfl dL_isRefused_1533 rfl 11 rfl (by decide) rfl ?_
      refine v_goto C (q := 1358) dL_isRefused_1536 rfl ?_
      refine xx_lv [3, 4, 5, 6, 7, 8, 9, 10, 11, 1, 0] (lv' := [(0, .ref (r 4)), (1, .ref (r 0)), (2, .int (nI (X0))), (3, .int (bI (X0 % 2 = 0))), (4, .int (ce)), (5, .int (mi)), (6, .int (cl)), (7, .int (fo)), (8, .long (allF s nm nc nr)), (10, .int (1)), (11, .int (nI (i + 1)))]) rfl ?_
      exact xx_mono (bm (Nat.le_of_ble_eq_true rfl)) (bm (Nat.le_of_ble_eq_true rfl)) (ih (by omega))
    · skip
      have hlap : s 25 i = 0 := (z01 (hJ.c25 hi)).1.eq0.mpr (by omega)
      by_cases h1m : nm = 1
      · skip
        refine v_aload_n C dL_isRefused_1493 rfl 1 rfl ?_
        refine v_bipush C (v := 17) dL_isRefused_1494 rfl rfl ?_
        refine v_iload C dL_isRefused_1496 rfl 11 rfl ?_
        refine v_iload C dL_isRefused_1498 rfl 0 rfl ?_
        refine v_ifN_ne C (t := 1511) (tn (s 22 i)) rfl (by omega) dL_isRefused_1500 rfl rfl (fun h5 => ?_) (fun h5 => ?_)
        · skip
          refine v_iconst C (v := 0) dL_isRefused_1511 rfl rfl ?_
          refine v_iconst C (v := 0) dL_isRefused_1512 rfl rfl ?_
          refine l_bars0 C (cd := -1792000000) (by decide) (ax_trade (s := s) (nm := nm) (nc := nc) (nr := nr) hst hG hW hJ.bs (e := 2) (cd := -1792000000) (e3_2 ⟨(mi_of hW.cnt.2.1 hi (by omega)), mi_of hW.cnt.1 (j := 0) (by omega) (by omega)⟩ (fun h => h.2 (by rw [tn_nI (show i < 2 ^ 31 by omega), (hJ.c22 hi).1.e]; exact congrArg nI (by omega)))) (by decide) xL3_2) (B + 53) (D + 857) ⟨⟨Nat.le_refl _, bl hKc (Nat.le_of_ble_eq_true rfl)⟩, Nat.le_refl _, bl hKn (Nat.le_of_ble_eq_true rfl)⟩ rfl dL_isRefused_1513 rfl ?_
          refine v_if_ne C (t := 1526) dL_isRefused_1516 rfl rfl (fun h => absurd h (by decide)) (fun _ => ?_)
          refine v_aload_n C dL_isRefused_1519 rfl 2 rfl ?_
          refine v_iconst C (v := 0) dL_isRefused_1520 rfl rfl ?_
          refine v_mld C hW 0 (by decide) 0 (show 0 < 6 by omega) dL_isRefused_1521 rfl ?_
          refine xx_top (y := nI (nm)) hT.1.1 ?_
          refine v_iconst C (v := 1) dL_isRefused_1522 rfl rfl ?_
          refine v_icN_ne C (t := 1530) nm 1 rfl rfl (by omega) (by omega) dL_isRefused_1523 rfl rfl (fun h => (by omega : False).elim) (fun h6 => ?_)
          refine v_iconst C (v := 1) dL_isRefused_1526 rfl rfl ?_
          refine v_goto C (q := 1531) dL_isRefused_1527 rfl ?_
          refine v_istore C (lv1 := [(10, .int (1)), (12, .int (nI (tn (s 22 i)))), (0, .ref (r 4)), (1, .ref (r 0)), (2, .int (nI (X0))), (3, .int (bI (X0 % 2 = 0))), (4, .int (ce)), (5, .int (mi)), (6, .int (cl)), (7, .int (fo)), (8, .long (allF s nm nc nr)), (11, .int (nI (i)))]) dL_isRefused_1531 rfl (by decide) rfl ?_
          refine v_iincN C (lv1 := [(11, .int (nI (i + 1))), (10, .int (1)), (12, .int (nI (tn (s 22 i)))), (0, .ref (r 4)), (1, .ref (r 0)), (2, .int (nI (X0))), (3, .int (bI (X0 % 2 = 0))), (4, .int (ce)), (5, .int (mi)), (6, .int (cl)), (7, .int (fo)), (8, .long (allF s nm nc nr))]) i rfl dL_isRefused_1533 rfl 11 rfl (by decide) rfl ?_
          refine v_goto C (q := 1358) dL_isRefused_1536 rfl ?_
          refine xx_lv [3, 4, 5, 6, 7, 8, 9, 10, 11, 1, 0] (lv' := [(0, .ref (r 4)), (1, .ref (r 0)), (2, .int (nI (X0))), (3, .int (bI (X0 % 2 = 0))), (4, .int (ce)), (5, .int (mi)), (6, .int (cl)), (7, .int (fo)), (8, .long (allF s nm nc nr)), (10, .int (1)), (11, .int (nI (i + 1)))]) rfl ?_
          exact xx_mono (bm (Nat.le_of_ble_eq_true rfl)) (bm (Nat.le_of_ble_eq_true rfl)) (ih (by omega))
        · skip
          refine v_aload_n C dL_isRefused_1503 rfl 2 rfl ?_
          refine v_iconst C (v := 0) dL_isRefused_1504 rfl rfl ?_
          refine v_mld C hW 0 (by decide) 0 (show 0 < 6 by omega) dL_isRefused_1505 rfl ?_
          refine xx_top (y := nI (nm)) hT.1.1 ?_
          refine v_iconst C (v := 1) dL_isRefused_1506 rfl rfl ?_
          refine v_isubN C nm 1 (by omega) rfl rfl dL_isRefused_1507 rfl ?_
          refine v_goto C (q := 1512) dL_isRefused_1508 rfl ?_
          refine v_iconst C (v := 0) dL_isRefused_1512 rfl rfl ?_
          refine l_bars0 C (cd := -1792000000) (by decide) (ax_trade (s := s) (nm := nm) (nc := nc) (nr := nr) hst hG hW hJ.bs (e := 2) (cd := -1792000000) (e3_2 ⟨(mi_of hW.cnt.2.1 hi (by omega)), mi_of hW.cnt.1 (j := nm - 1) (by omega) (by omega)⟩ (fun h => h.2 (by rw [tn_nI (show i < 2 ^ 31 by omega), (hJ.c22 hi).1.e]; exact congrArg nI (by omega)))) (by decide) xL3_2) (B + 53) (D + 857) ⟨⟨Nat.le_refl _, bl hKc (Nat.le_of_ble_eq_true rfl)⟩, Nat.le_refl _, bl hKn (Nat.le_of_ble_eq_true rfl)⟩ rfl dL_isRefused_1513 rfl ?_
          refine v_if_ne C (t := 1526) dL_isRefused_1516 rfl rfl (fun h => absurd h (by decide)) (fun _ => ?_)
          refine v_aload_n C dL_isRefused_1519 rfl 2 rfl ?_
          refine v_iconst C (v := 0) dL_isRefused_1520 rfl rfl ?_
          refine v_mld C hW 0 (by decide) 0 (show 0 < 6 by omega) dL_isRefused_1521 rfl ?_
          refine xx_top (y := nI (nm)) hT.1.1 ?_
          refine v_iconst C (v := 1) dL_isRefused_1522 rfl rfl ?_
          refine v_icN_ne C (t := 1530) nm 1 rfl rfl (by omega) (by omega) dL_isRefused_1523 rfl rfl (fun h => (by omega : False).elim) (fun h7 => ?_)
          refine v_iconst C (v := 1) dL_isRefused_1526 rfl rfl ?_
          refine v_goto C (q := 1531) dL_isRefused_1527 rfl ?_
          refine v_istore C (lv1 := [(10, .int (1)), (12, .int (nI (tn (s 22 i)))), (0, .ref (r 4)), (1, .ref (r 0)), (2, .int (nI (X0))), (3, .int (bI (X0 % 2 = 0))), (4, .int (ce)), (5, .int (mi)), (6, .int (cl)), (7, .int (fo)), (8, .long (allF s nm nc nr)), (11, .int (nI (i)))]) dL_isRefused_1531 rfl (by decide) rfl ?_
          refine v_iincN C (lv1 := [(11, .int (nI (i + 1))), (10, .int (1)), (12, .int (nI (tn (s 22 i)))), (0, .ref (r 4)), (1, .ref (r 0)), (2, .int (nI (X0))), (3, .int (bI (X0 % 2 = 0))), (4, .int (ce)), (5, .int (mi)), (6, .int (cl)), (7, .int (fo)), (8, .long (allF s nm nc nr))]) i rfl dL_isRefused_1533 rfl 11 rfl (by decide) rfl ?_
          refine v_goto C (q := 1358) dL_isRefused_1536 rfl ?_
          refine xx_lv [3, 4, 5, 6, 7, 8, 9, 10, 11, 1, 0] (lv' := [(0, .ref (r 4)), (1, .ref (r 0)), (2, .int (nI (X0))), (3, .int (bI (X0 % 2 = 0))), (4, .int (ce)), (5, .int (mi)), (6, .int (cl)), (7, .int (fo)), (8, .long (allF s nm nc nr)), (10, .int (1)), (11, .int (nI (i + 1)))]) rfl ?_
          exact xx_mono (bm (Nat.le_of_ble_eq_true rfl)) (bm (Nat.le_of_ble_eq_true rfl)) (ih (by omega))
      · skip
        refine v_aload_n C dL_isRefused_1493 rfl 1 rfl ?_
        refine v_bipush C (v := 17) dL_isRefused_1494 rfl rfl ?_
        refine v_iload C dL_isRefused_1496 rfl 11 rfl ?_
        refine v_iload C dL_isRefused_1498 rfl 0 rfl ?_
        refine v_ifN_ne C (t := 1511) (tn (s 22 i)) rfl (by omega) dL_isRefused_1500 rfl rfl (fun h8 => ?_) (fun h8 => ?_)
        · skip
          refine v_iconst C (v := 0) dL_isRefused_1511 rfl rfl ?_
          refine v_iconst C (v := 0) dL_isRefused_1512 rfl rfl ?_
          refine l_bars C (ax_trade (s := s) (nm := nm) (nc := nc) (nr := nr) hst hG hW hJ.bs (e := 3) (cd := -1793000000) (e3_3 ⟨(mi_of hW.cnt.2.1 hi (by omega)), mi_of hW.cnt.1 (j := 0) (by omega) (by omega)⟩ ⟨by decide, fun h => by have h9 := nI_inj (a := 0) (b := tn (s 22 i)) (by omega) (by omega) (h.trans (by rw [tn_nI (show i < 2 ^ 31 by omega)]; exact (hJ.c22 hi).1.e)); omega⟩ (Or.inl (by rw [tn_nI (show i < 2 ^ 31 by omega)]; exact hlap))) (by decide) xL3_3) (B + 53) (D + 857) ⟨⟨Nat.le_refl _, bl hKc (Nat.le_of_ble_eq_true rfl)⟩, Nat.le_refl _, bl hKn (Nat.le_of_ble_eq_true rfl)⟩ rfl dL_isRefused_1513 rfl ?_
          refine v_if_ne C (t := 1526) dL_isRefused_1516 rfl rfl (fun _ => ?_) (fun h => absurd h (by decide))
          refine v_iconst C (v := 1) dL_isRefused_1526 rfl rfl ?_
          refine v_goto C (q := 1531) dL_isRefused_1527 rfl ?_
          refine v_istore C (lv1 := [(10, .int (1)), (12, .int (nI (tn (s 22 i)))), (0, .ref (r 4)), (1, .ref (r 0)), (2, .int (nI (X0))), (3, .int (bI (X0 % 2 = 0))), (4, .int (ce)), (5, .int (mi)), (6, .int (cl)), (7, .int (fo)), (8, .long (allF s nm nc nr)), (11, .int (nI (i)))]) dL_isRefused_1531 rfl (by decide) rfl ?_
          refine v_iincN C (lv1 := [(11, .int (nI (i + 1))), (10, .int (1)), (12, .int (nI (tn (s 22 i)))), (0, .ref (r 4)), (1, .ref (r 0)), (2, .int (nI (X0))), (3, .int (bI (X0 % 2 = 0))), (4, .int (ce)), (5, .int (mi)), (6, .int (cl)), (7, .int (fo)), (8, .long (allF s nm nc nr))]) i rfl dL_isRefused_1533 rfl 11 rfl (by decide) rfl ?_
          refine v_goto C (q := 1358) dL_isRefused_1536 rfl ?_
          refine xx_lv [3, 4, 5, 6, 7, 8, 9, 10, 11, 1, 0] (lv' := [(0, .ref (r 4)), (1, .ref (r 0)), (2, .int (nI (X0))), (3, .int (bI (X0 % 2 = 0))), (4, .int (ce)), (5, .int (mi)), (6, .int (cl)), (7, .int (fo)), (8, .long (allF s nm nc nr)), (10, .int (1)), (11, .int (nI (i + 1)))]) rfl ?_
          exact xx_mono (bm (Nat.le_of_ble_eq_true rfl)) (bm (Nat.le_of_ble_eq_true rfl)) (ih (by omega))
        · skip
          refine v_aload_n C dL_isRefused_1503 rfl 2 rfl ?_
          refine v_iconst C (v := 0) dL_isRefused_1504 rfl rfl ?_
          refine v_mld C hW 0 (by decide) 0 (show 0 < 6 by omega) dL_isRefused_1505 rfl ?_
          refine xx_top (y := nI (nm)) hT.1.1 ?_
          refine v_iconst C (v := 1) dL_isRefused_1506 rfl rfl ?_
          refine v_isubN C nm 1 (by omega) rfl rfl dL_isRefused_1507 rfl ?_
          refine v_goto C (q := 1512) dL_isRefused_1508 rfl ?_
          refine v_iconst C (v := 0) dL_isRefused_1512 rfl rfl ?_
          refine l_bars C (ax_trade (s := s) (nm := nm) (nc := nc) (nr := nr) hst hG hW hJ.bs (e := 3) (cd := -1793000000) (e3_3 ⟨(mi_of hW.cnt.2.1 hi (by omega)), mi_of hW.cnt.1 (j := nm - 1) (by omega) (by omega)⟩ ⟨by decide, fun h => by have h9 := nI_inj (a := nm - 1) (b := tn (s 22 i)) (by omega) (by omega) (h.trans (by rw [tn_nI (show i < 2 ^ 31 by omega)]; exact (hJ.c22 hi).1.e)); omega⟩ (Or.inl (by rw [tn_nI (show i < 2 ^ 31 by omega)]; exact hlap))) (by decide) xL3_3) (B + 53) (D + 857) ⟨⟨Nat.le_refl _, bl hKc (Nat.le_of_ble_eq_true rfl)⟩, Nat.le_refl _, bl hKn (Nat.le_of_ble_eq_true rfl)⟩ rfl dL_isRefused_1513 rfl ?_
          refine v_if_ne C (t := 1526) dL_isRefused_1516 rfl rfl (fun _ => ?_) (fun h => absurd h (by decide))
          refine v_iconst C (v := 1) dL_isRefused_1526 rfl rfl ?_
          refine v_goto C (q := 1531) dL_isRefused_1527 rfl ?_
          refine v_istore C (lv1 := [(10, .int (1)), (12, .int (nI (tn (s 22 i)))), (0, .ref (r 4)), (1, .ref (r 0)), (2, .int (nI (X0))), (3, .int (bI (X0 % 2 = 0))), (4, .int (ce)), (5, .int (mi)), (6, .int (cl)), (7, .int (fo)), (8, .long (allF s nm nc nr)), (11, .int (nI (i)))]) dL_isRefused_1531 rfl (by decide) rfl ?_
          refine v_iincN C (lv1 := [(11, .int (nI (i + 1))), (10, .int (1)), (12, .int (nI (tn (s 22 i)))), (0, .ref (r 4)), (1, .ref (r 0)), (2, .int (nI (X0))), (3, .int (bI (X0 % 2 = 0))), (4, .int (ce)), (5, .int (mi)), (6, .int (cl)), (7, .int (fo)), (8, .long (allF s nm nc nr))]) i rfl dL_isRefused_1533 rfl 11 rfl (by decide) rfl ?_
          refine v_goto C (q := 1358) dL_isRefused_1536 rfl ?_
          refine xx_lv [3, 4, 5, 6, 7, 8, 9, 10, 11, 1, 0] (lv' := [(0, .ref (r 4)), (1, .ref (r 0)), (2, .int (nI (X0))), (3, .int (bI (X0 % 2 = 0))), (4, .int (ce)), (5, .int (mi)), (6, .int (cl)), (7, .int (fo)), (8, .long (allF s nm nc nr)), (10, .int (1)), (11, .int (nI (i + 1)))]) rfl ?_
          exact xx_mono (bm (Nat.le_of_ble_eq_true rfl)) (bm (Nat.le_of_ble_eq_true rfl)) (ih (by omega))

theorem lp_refH_B {X : XS} {G : GG} {w : va_W} {Q : State → Prop} {r : Nat → Nat} {s t : SS} {nm nc nr k B D : Nat} {X0 : Nat} {ce mi cl fo : Int32} (C : Cx X G cL_isRefused 14 RL (Option.some Jvm.ClassFile.FieldType.boolean) r_L_isRefused "isRefused" []) (hW : Wd G r s t nm nc nr w) (hJ : Js s nm nc nr k) (hMi : MiOK G) (hk : k ≤ 131) (hT : K9 s t nm nc nr k) (hX : X0 < 2 ^ 31) (hlow : ¬ (X0 % 2 = 0)) (hce : ¬ ((0 : Int32) ≤ ce ∧ ce ≤ 39)) (hmi : ¬ ((0 : Int32) ≤ mi ∧ mi ≤ s 12 0 - 1)) (hcl : ¬ ((0 : Int32) ≤ cl ∧ cl ≤ s 21 0 - 1)) (hfo : ¬ ((0 : Int32) ≤ fo ∧ fo ≤ 3)) (hKc : B + 2132 ≤ r_L_isRefused.cells) (hKn : D + 34814 ≤ r_L_isRefused.slots) (kk : V X G 14 w (B + 2132) (D + 34814) Q 1355 [(0, .ref (r 4)), (1, .ref (r 0)), (2, .int (nI (X0))), (3, .int (bI (X0 % 2 = 0))), (4, .int (ce)), (5, .int (mi)), (6, .int (cl)), (7, .int (fo)), (8, .long (allF s nm nc nr)), (10, .int (1)), (11, .int (nI (nm)))] []) : V X G 14 w B D Q 868 [(0, .ref (r 4)), (1, .ref (r 0)), (2, .int (nI (X0))), (3, .int (bI (X0 % 2 = 0))), (4, .int (ce)), (5, .int (mi)), (6, .int (cl)), (7, .int (fo)), (8, .long (allF s nm nc nr)), (10, .int (1)), (11, .int (nI (0)))] [] := by
  have hm := hJ.1.1
  have key := ind_up (α := Unit) (P := fun i _ => V X G 14 w (B + 164 * i) (D + 2678 * i) Q 868 [(0, .ref (r 4)), (1, .ref (r 0)), (2, .int (nI (X0))), (3, .int (bI (X0 % 2 = 0))), (4, .int (ce)), (5, .int (mi)), (6, .int (cl)), (7, .int (fo)), (8, .long (allF s nm nc nr)), (10, .int (1)), (11, .int (nI (i)))] []) nm (fun i _ hi ih => sg_refH_B C hW hJ hMi hk hT hX hlow hce hmi hcl hfo hi (by omega) (by omega) (fun h => xx_mono (by omega) (by omega) (ih h ())) (xx_mono (by omega) (by omega) kk))
  exact key 0 () (by omega)

theorem lp_refH_C {X : XS} {G : GG} {w : va_W} {Q : State → Prop} {r : Nat → Nat} {s t : SS} {nm nc nr k B D : Nat} {X0 : Nat} {ce mi cl fo : Int32} (C : Cx X G cL_isRefused 14 RL (Option.some Jvm.ClassFile.FieldType.boolean) r_L_isRefused "isRefused" []) (hW : Wd G r s t nm nc nr w) (hJ : Js s nm nc nr k) (hMi : MiOK G) (hk : k ≤ 131) (hT : K9 s t nm nc nr k) (hX : X0 < 2 ^ 31) (hlow : ¬ (X0 % 2 = 0)) (hce : ¬ ((0 : Int32) ≤ ce ∧ ce ≤ 39)) (hmi : ¬ ((0 : Int32) ≤ mi ∧ mi ≤ s 12 0 - 1)) (hcl : ¬ ((0 : Int32) ≤ cl ∧ cl ≤ s 21 0 - 1)) (hfo : ¬ ((0 : Int32) ≤ fo ∧ fo ≤ 3)) (hKc : B + 1643 ≤ r_L_isRefused.cells) (hKn : D + 26567 ≤ r_L_isRefused.slots) (kk : V X G 14 w (B + 1643) (D + 26567) Q 1539 [(0, .ref (r 4)), (1, .ref (r 0)), (2, .int (nI (X0))), (3, .int (bI (X0 % 2 = 0))), (4, .int (ce)), (5, .int (mi)), (6, .int (cl)), (7, .int (fo)), (8, .long (allF s nm nc nr)), (10, .int (1)), (11, .int (nI (nc)))] []) : V X G 14 w B D Q 1358 [(0, .ref (r 4)), (1, .ref (r 0)), (2, .int (nI (X0))), (3, .int (bI (X0 % 2 = 0))), (4, .int (ce)), (5, .int (mi)), (6, .int (cl)), (7, .int (fo)), (8, .long (allF s nm nc nr)), (10, .int (1)), (11, .int (nI (0)))] [] := by
  have hm := hJ.1.1
  have key := ind_up (α := Unit) (P := fun i _ => V X G 14 w (B + 53 * i) (D + 857 * i) Q 1358 [(0, .ref (r 4)), (1, .ref (r 0)), (2, .int (nI (X0))), (3, .int (bI (X0 % 2 = 0))), (4, .int (ce)), (5, .int (mi)), (6, .int (cl)), (7, .int (fo)), (8, .long (allF s nm nc nr)), (10, .int (1)), (11, .int (nI (i)))] []) nc (fun i _ hi ih => sg_refH_C C hW hJ hMi hk hT hX hlow hce hmi hcl hfo hi (by omega) (by omega) (fun h => xx_mono (by omega) (by omega) (ih h ())) (xx_mono (by omega) (by omega) kk))
  exact key 0 () (by omega)

theorem sg_refL {X : XS} {G : GG} {w : va_W} {r : Nat → Nat} {s t : SS} {nm nc nr k B D : Nat} {X0 : Nat} (C : Cx X G cL_isRefused 14 RL (Option.some Jvm.ClassFile.FieldType.boolean) r_L_isRefused "isRefused" []) (hW : Wd G r s t nm nc nr w) (hJ : Js s nm nc nr k) (hMi : MiOK G) (hk : k ≤ 131) (hT : K9 s t nm nc nr k) (hX : X0 < 2 ^ 31) (hlow : X0 % 2 = 0) (hKc : B + 5563 ≤ r_L_isRefused.cells) (hKn : D + 75035 ≤ r_L_isRefused.slots)  : V X G 14 w B D (Tg X G r_L_isRefused (RI (.int 1) w True) nX) 12 [(3, .int (bI (X0 % 2 = 0))), (0, .ref (r 4)), (1, .ref (r 0)), (2, .int (nI (X0)))] [] := by
  have hst : X.2.1.stackTraces = false := C.2.2.2.2.2.1
  have hG : GOK G := C.2.2.2.2.2.2.2.2.2.1
  have hm := hJ.1.1
  refine v_iload_n C dL_isRefused_12 rfl 0 rfl ?_
  refine v_ifB_eq C (t := 25) dL_isRefused_13 rfl rfl (fun h => absurd hlow h) (fun _ => ?_)
  refine v_iconst C (v := (-1)) dL_isRefused_16 rfl rfl ?_
  refine v_iload_n C dL_isRefused_17 rfl 3 rfl ?_
  refine v_bipush C (v := 30) dL_isRefused_18 rfl rfl ?_
  refine v_iremN C X0 30 rfl rfl (by omega) (by omega) (by omega) dL_isRefused_20 rfl ?_
  refine v_isub C dL_isRefused_21 rfl ?_
  refine v_goto C (q := 32) dL_isRefused_22 rfl ?_
  have hce : ¬ ((0 : Int32) ≤ ((-1)) - (nI (X0 % 30)) ∧ ((-1)) - (nI (X0 % 30)) ≤ 39) := fun h => ng (by omega) h.1
  generalize ((-1)) - (nI (X0 % 30)) = ce at hce ⊢
  refine v_istore C (lv1 := [(4, .int (ce)), (3, .int (bI (X0 % 2 = 0))), (0, .ref (r 4)), (1, .ref (r 0)), (2, .int (nI (X0)))]) dL_isRefused_32 rfl (by decide) rfl ?_
  refine v_iload_n C dL_isRefused_34 rfl 1 rfl ?_
  refine v_ifB_eq C (t := 47) dL_isRefused_35 rfl rfl (fun h => absurd hlow h) (fun _ => ?_)
  refine v_iconst C (v := (-1)) dL_isRefused_38 rfl rfl ?_
  refine v_iload_n C dL_isRefused_39 rfl 4 rfl ?_
  refine v_bipush C (v := 30) dL_isRefused_40 rfl rfl ?_
  refine v_iremN C X0 30 rfl rfl (by omega) (by omega) (by omega) dL_isRefused_42 rfl ?_
  refine v_isub C dL_isRefused_43 rfl ?_
  refine v_goto C (q := 55) dL_isRefused_44 rfl ?_
  have hmi : ¬ ((0 : Int32) ≤ ((-1)) - (nI (X0 % 30)) ∧ ((-1)) - (nI (X0 % 30)) ≤ s 12 0 - 1) := fun h => ng (by omega) h.1
  generalize ((-1)) - (nI (X0 % 30)) = mi at hmi ⊢
  refine v_istore C (lv1 := [(5, .int (mi)), (4, .int (ce)), (3, .int (bI (X0 % 2 = 0))), (0, .ref (r 4)), (1, .ref (r 0)), (2, .int (nI (X0)))]) dL_isRefused_55 rfl (by decide) rfl ?_
  refine v_iload_n C dL_isRefused_57 rfl 2 rfl ?_
  refine v_ifB_eq C (t := 70) dL_isRefused_58 rfl rfl (fun h => absurd hlow h) (fun _ => ?_)
  refine v_iconst C (v := (-1)) dL_isRefused_61 rfl rfl ?_
  refine v_iload_n C dL_isRefused_62 rfl 5 rfl ?_
  refine v_bipush C (v := 30) dL_isRefused_63 rfl rfl ?_
  refine v_iremN C X0 30 rfl rfl (by omega) (by omega) (by omega) dL_isRefused_65 rfl ?_
  refine v_isub C dL_isRefused_66 rfl ?_
  refine v_goto C (q := 78) dL_isRefused_67 rfl ?_
  have hcl : ¬ ((0 : Int32) ≤ ((-1)) - (nI (X0 % 30)) ∧ ((-1)) - (nI (X0 % 30)) ≤ s 21 0 - 1) := fun h => ng (by omega) h.1
  generalize ((-1)) - (nI (X0 % 30)) = cl at hcl ⊢
  refine v_istore C (lv1 := [(6, .int (cl)), (5, .int (mi)), (4, .int (ce)), (3, .int (bI (X0 % 2 = 0))), (0, .ref (r 4)), (1, .ref (r 0)), (2, .int (nI (X0)))]) dL_isRefused_78 rfl (by decide) rfl ?_
  refine v_iload_n C dL_isRefused_80 rfl 3 rfl ?_
  refine v_ifB_eq C (t := 93) dL_isRefused_81 rfl rfl (fun h => absurd hlow h) (fun _ => ?_)
  refine v_iconst C (v := (-1)) dL_isRefused_84 rfl rfl ?_
  refine v_iload_n C dL_isRefused_85 rfl 6 rfl ?_
  refine v_bipush C (v := 30) dL_isRefused_86 rfl rfl ?_
  refine v_iremN C X0 30 rfl rfl (by omega) (by omega) (by omega) dL_isRefused_88 rfl ?_
  refine v_isub C dL_isRefused_89 rfl ?_
  refine v_goto C (q := 99) dL_isRefused_90 rfl ?_
  have hfo : ¬ ((0 : Int32) ≤ ((-1)) - (nI (X0 % 30)) ∧ ((-1)) - (nI (X0 % 30)) ≤ 3) := fun h => ng (by omega) h.1
  generalize ((-1)) - (nI (X0 % 30)) = fo at hfo ⊢
  refine v_istore C (lv1 := [(7, .int (fo)), (6, .int (cl)), (5, .int (mi)), (4, .int (ce)), (3, .int (bI (X0 % 2 = 0))), (0, .ref (r 4)), (1, .ref (r 0)), (2, .int (nI (X0)))]) dL_isRefused_99 rfl (by decide) rfl ?_
  refine v_aload_n C dL_isRefused_101 rfl 5 rfl ?_
  refine v_aload_n C dL_isRefused_102 rfl 6 rfl ?_
  refine l_invS C (As := [.ref (r 4), .ref (r 0)]) L_L_137 (c_L_all hst hG hk hT hW hJ) rfl rfl (B + 761) (D + 4566) ⟨⟨by show _ + 761 ≤ _; omega, by omega⟩, by show _ + 4566 ≤ _; omega, by omega⟩ rfl dL_isRefused_103 rfl (fun v_ w_ hv1 => ?_)
  obtain ⟨rfl, rfl, -⟩ := hv1
  show V X G 14 _ _ _ _ _ _ [.long (allF s nm nc nr)]
  refine v_lstore C (lv1 := [(8, .long (allF s nm nc nr)), (7, .int (fo)), (6, .int (cl)), (5, .int (mi)), (4, .int (ce)), (3, .int (bI (X0 % 2 = 0))), (0, .ref (r 4)), (1, .ref (r 0)), (2, .int (nI (X0)))]) dL_isRefused_106 rfl (by decide) rfl ?_
  refine sg_refL_A C hW hJ hMi hk hT hX hlow hce hmi hcl hfo (by omega) (by omega) ?_
  refine lp_refL_B C hW hJ hMi hk hT hX hlow hce hmi hcl hfo (by omega) (by omega) ?_
  refine v_iconst C (v := 0) dL_isRefused_1355 rfl rfl ?_
  refine v_istore C (lv1 := [(11, .int (0)), (0, .ref (r 4)), (1, .ref (r 0)), (2, .int (nI (X0))), (3, .int (bI (X0 % 2 = 0))), (4, .int (ce)), (5, .int (mi)), (6, .int (cl)), (7, .int (fo)), (8, .long (allF s nm nc nr)), (10, .int (1))]) dL_isRefused_1356 rfl (by decide) rfl ?_
  refine xx_lv [1, 2, 3, 4, 5, 6, 7, 8, 9, 10, 0] (lv' := [(0, .ref (r 4)), (1, .ref (r 0)), (2, .int (nI (X0))), (3, .int (bI (X0 % 2 = 0))), (4, .int (ce)), (5, .int (mi)), (6, .int (cl)), (7, .int (fo)), (8, .long (allF s nm nc nr)), (10, .int (1)), (11, .int (nI (0)))]) rfl ?_
  refine lp_refL_C C hW hJ hMi hk hT hX hlow hce hmi hcl hfo (by omega) (by omega) ?_
  refine v_iload C dL_isRefused_1539 rfl 9 rfl ?_
  refine v_if_eq C (t := 1559) dL_isRefused_1541 rfl rfl (fun h => absurd h (by decide)) (fun _ => ?_)
  refine v_aload_n C dL_isRefused_1544 rfl 0 rfl ?_
  refine v_aload_n C dL_isRefused_1545 rfl 1 rfl ?_
  refine l_invS C (As := [.ref (r 4), .ref (r 0)]) L_L_137 (c_L_all hst hG hk hT hW hJ) rfl rfl (B + 5563) (D + 75035) ⟨⟨by show _ + 761 ≤ _; omega, by omega⟩, by show _ + 4566 ≤ _; omega, by omega⟩ rfl dL_isRefused_1546 rfl (fun v_ w_ hv2 => ?_)
  obtain ⟨rfl, rfl, -⟩ := hv2
  show V X G 14 _ _ _ _ _ _ [.long (allF s nm nc nr)]
  refine v_lload C dL_isRefused_1549 rfl 8 rfl ?_
  refine v_lcmp C dL_isRefused_1551 rfl ?_
  refine xx_top (y := 0) lg_c0 ?_
  refine v_if_ne C (t := 1559) dL_isRefused_1552 rfl rfl (fun h => absurd h (by decide)) (fun _ => ?_)
  refine v_iconst C (v := 1) dL_isRefused_1555 rfl rfl ?_
  refine v_goto C (q := 1560) dL_isRefused_1556 rfl ?_
  exact v_zret C rfl (bl hKc (Nat.le_of_ble_eq_true rfl)) (bl hKn (Nat.le_of_ble_eq_true rfl)) dL_isRefused_1560 ⟨rfl, rfl, trivial⟩

theorem sg_refH {X : XS} {G : GG} {w : va_W} {r : Nat → Nat} {s t : SS} {nm nc nr k B D : Nat} {X0 : Nat} (C : Cx X G cL_isRefused 14 RL (Option.some Jvm.ClassFile.FieldType.boolean) r_L_isRefused "isRefused" []) (hW : Wd G r s t nm nc nr w) (hJ : Js s nm nc nr k) (hMi : MiOK G) (hk : k ≤ 131) (hT : K9 s t nm nc nr k) (hX : X0 < 2 ^ 31) (hlow : ¬ (X0 % 2 = 0)) (hKc : B + 5563 ≤ r_L_isRefused.cells) (hKn : D + 75035 ≤ r_L_isRefused.slots)  : V X G 14 w B D (Tg X G r_L_isRefused (RI (.int 1) w True) nX) 12 [(3, .int (bI (X0 % 2 = 0))), (0, .ref (r 4)), (1, .ref (r 0)), (2, .int (nI (X0)))] [] := by
  have hst : X.2.1.stackTraces = false := C.2.2.2.2.2.1
  have hG : GOK G := C.2.2.2.2.2.2.2.2.2.1
  have hm := hJ.1.1
  refine v_iload_n C dL_isRefused_12 rfl 0 rfl ?_
  refine v_ifB_eq C (t := 25) dL_isRefused_13 rfl rfl (fun _ => ?_) (fun h => absurd h hlow)
  refine v_bipush C (v := 40) dL_isRefused_25 rfl rfl ?_
  refine v_iload_n C dL_isRefused_27 rfl 3 rfl ?_
  refine v_bipush C (v := 30) dL_isRefused_28 rfl rfl ?_
  refine v_iremN C X0 30 rfl rfl (by omega) (by omega) (by omega) dL_isRefused_30 rfl ?_
  refine v_iaddN C 40 (X0 % 30) rfl rfl dL_isRefused_31 rfl ?_
  have hce : ¬ ((0 : Int32) ≤ nI (40 + (X0 % 30)) ∧ nI (40 + (X0 % 30)) ≤ 39) := fun h => nle (b := 39) (by omega) (by omega) h.2
  generalize nI (40 + (X0 % 30)) = ce at hce ⊢
  refine v_istore C (lv1 := [(4, .int (ce)), (3, .int (bI (X0 % 2 = 0))), (0, .ref (r 4)), (1, .ref (r 0)), (2, .int (nI (X0)))]) dL_isRefused_32 rfl (by decide) rfl ?_
  refine v_iload_n C dL_isRefused_34 rfl 1 rfl ?_
  refine v_ifB_eq C (t := 47) dL_isRefused_35 rfl rfl (fun _ => ?_) (fun h => absurd h hlow)
  refine v_aload_n C dL_isRefused_47 rfl 3 rfl ?_
  refine v_iconst C (v := 0) dL_isRefused_48 rfl rfl ?_
  refine v_mld C hW 0 (by decide) 0 (show 0 < 6 by omega) dL_isRefused_49 rfl ?_
  refine xx_top (y := nI (nm)) hT.1.1 ?_
  refine v_iload_n C dL_isRefused_50 rfl 4 rfl ?_
  refine v_bipush C (v := 30) dL_isRefused_51 rfl rfl ?_
  refine v_iremN C X0 30 rfl rfl (by omega) (by omega) (by omega) dL_isRefused_53 rfl ?_
  refine v_iaddN C nm (X0 % 30) rfl rfl dL_isRefused_54 rfl ?_
  have hmi : ¬ ((0 : Int32) ≤ nI (nm + (X0 % 30)) ∧ nI (nm + (X0 % 30)) ≤ s 12 0 - 1) := ocn hW.cnt.1 (by omega) (by omega)
  generalize nI (nm + (X0 % 30)) = mi at hmi ⊢
  refine v_istore C (lv1 := [(5, .int (mi)), (4, .int (ce)), (3, .int (bI (X0 % 2 = 0))), (0, .ref (r 4)), (1, .ref (r 0)), (2, .int (nI (X0)))]) dL_isRefused_55 rfl (by decide) rfl ?_
  refine v_iload_n C dL_isRefused_57 rfl 2 rfl ?_
  refine v_ifB_eq C (t := 70) dL_isRefused_58 rfl rfl (fun _ => ?_) (fun h => absurd h hlow)
  refine v_aload_n C dL_isRefused_70 rfl 4 rfl ?_
  refine v_iconst C (v := 1) dL_isRefused_71 rfl rfl ?_
  refine v_mld C hW 0 (by decide) 1 (show 1 < 6 by omega) dL_isRefused_72 rfl ?_
  refine xx_top (y := nI (nc)) hT.1.2.1 ?_
  refine v_iload_n C dL_isRefused_73 rfl 5 rfl ?_
  refine v_bipush C (v := 30) dL_isRefused_74 rfl rfl ?_
  refine v_iremN C X0 30 rfl rfl (by omega) (by omega) (by omega) dL_isRefused_76 rfl ?_
  refine v_iaddN C nc (X0 % 30) rfl rfl dL_isRefused_77 rfl ?_
  have hcl : ¬ ((0 : Int32) ≤ nI (nc + (X0 % 30)) ∧ nI (nc + (X0 % 30)) ≤ s 21 0 - 1) := ocn hW.cnt.2.1 (by omega) (by omega)
  generalize nI (nc + (X0 % 30)) = cl at hcl ⊢
  refine v_istore C (lv1 := [(6, .int (cl)), (5, .int (mi)), (4, .int (ce)), (3, .int (bI (X0 % 2 = 0))), (0, .ref (r 4)), (1, .ref (r 0)), (2, .int (nI (X0)))]) dL_isRefused_78 rfl (by decide) rfl ?_
  refine v_iload_n C dL_isRefused_80 rfl 3 rfl ?_
  refine v_ifB_eq C (t := 93) dL_isRefused_81 rfl rfl (fun _ => ?_) (fun h => absurd h hlow)
  refine v_iconst C (v := 4) dL_isRefused_93 rfl rfl ?_
  refine v_iload_n C dL_isRefused_94 rfl 6 rfl ?_
  refine v_bipush C (v := 30) dL_isRefused_95 rfl rfl ?_
  refine v_iremN C X0 30 rfl rfl (by omega) (by omega) (by omega) dL_isRefused_97 rfl ?_
  refine v_iaddN C 4 (X0 % 30) rfl rfl dL_isRefused_98 rfl ?_
  have hfo : ¬ ((0 : Int32) ≤ nI (4 + (X0 % 30)) ∧ nI (4 + (X0 % 30)) ≤ 3) := fun h => nle (b := 3) (by omega) (by omega) h.2
  generalize nI (4 + (X0 % 30)) = fo at hfo ⊢
  refine v_istore C (lv1 := [(7, .int (fo)), (6, .int (cl)), (5, .int (mi)), (4, .int (ce)), (3, .int (bI (X0 % 2 = 0))), (0, .ref (r 4)), (1, .ref (r 0)), (2, .int (nI (X0)))]) dL_isRefused_99 rfl (by decide) rfl ?_
  refine v_aload_n C dL_isRefused_101 rfl 5 rfl ?_
  refine v_aload_n C dL_isRefused_102 rfl 6 rfl ?_
  refine l_invS C (As := [.ref (r 4), .ref (r 0)]) L_L_137 (c_L_all hst hG hk hT hW hJ) rfl rfl (B + 761) (D + 4566) ⟨⟨by show _ + 761 ≤ _; omega, by omega⟩, by show _ + 4566 ≤ _; omega, by omega⟩ rfl dL_isRefused_103 rfl (fun v_ w_ hv1 => ?_)
  obtain ⟨rfl, rfl, -⟩ := hv1
  show V X G 14 _ _ _ _ _ _ [.long (allF s nm nc nr)]
  refine v_lstore C (lv1 := [(8, .long (allF s nm nc nr)), (7, .int (fo)), (6, .int (cl)), (5, .int (mi)), (4, .int (ce)), (3, .int (bI (X0 % 2 = 0))), (0, .ref (r 4)), (1, .ref (r 0)), (2, .int (nI (X0)))]) dL_isRefused_106 rfl (by decide) rfl ?_
  refine sg_refH_A C hW hJ hMi hk hT hX hlow hce hmi hcl hfo (by omega) (by omega) ?_
  refine lp_refH_B C hW hJ hMi hk hT hX hlow hce hmi hcl hfo (by omega) (by omega) ?_
  refine v_iconst C (v := 0) dL_isRefused_1355 rfl rfl ?_
  refine v_istore C (lv1 := [(11, .int (0)), (0, .ref (r 4)), (1, .ref (r 0)), (2, .int (nI (X0))), (3, .int (bI (X0 % 2 = 0))), (4, .int (ce)), (5, .int (mi)), (6, .int (cl)), (7, .int (fo)), (8, .long (allF s nm nc nr)), (10, .int (1))]) dL_isRefused_1356 rfl (by decide) rfl ?_
  refine xx_lv [1, 2, 3, 4, 5, 6, 7, 8, 9, 10, 0] (lv' := [(0, .ref (r 4)), (1, .ref (r 0)), (2, .int (nI (X0))), (3, .int (bI (X0 % 2 = 0))), (4, .int (ce)), (5, .int (mi)), (6, .int (cl)), (7, .int (fo)), (8, .long (allF s nm nc nr)), (10, .int (1)), (11, .int (nI (0)))]) rfl ?_
  refine lp_refH_C C hW hJ hMi hk hT hX hlow hce hmi hcl hfo (by omega) (by omega) ?_
  refine v_iload C dL_isRefused_1539 rfl 9 rfl ?_
  refine v_if_eq C (t := 1559) dL_isRefused_1541 rfl rfl (fun h => absurd h (by decide)) (fun _ => ?_)
  refine v_aload_n C dL_isRefused_1544 rfl 0 rfl ?_
  refine v_aload_n C dL_isRefused_1545 rfl 1 rfl ?_
  refine l_invS C (As := [.ref (r 4), .ref (r 0)]) L_L_137 (c_L_all hst hG hk hT hW hJ) rfl rfl (B + 5563) (D + 75035) ⟨⟨by show _ + 761 ≤ _; omega, by omega⟩, by show _ + 4566 ≤ _; omega, by omega⟩ rfl dL_isRefused_1546 rfl (fun v_ w_ hv2 => ?_)
  obtain ⟨rfl, rfl, -⟩ := hv2
  show V X G 14 _ _ _ _ _ _ [.long (allF s nm nc nr)]
  refine v_lload C dL_isRefused_1549 rfl 8 rfl ?_
  refine v_lcmp C dL_isRefused_1551 rfl ?_
  refine xx_top (y := 0) lg_c0 ?_
  refine v_if_ne C (t := 1559) dL_isRefused_1552 rfl rfl (fun h => absurd h (by decide)) (fun _ => ?_)
  refine v_iconst C (v := 1) dL_isRefused_1555 rfl rfl ?_
  refine v_goto C (q := 1560) dL_isRefused_1556 rfl ?_
  exact v_zret C rfl (bl hKc (Nat.le_of_ble_eq_true rfl)) (bl hKn (Nat.le_of_ble_eq_true rfl)) dL_isRefused_1560 ⟨rfl, rfl, trivial⟩

theorem c_L_isRefused {l : Launch} {G : GG} {w : va_W} {r : Nat → Nat} {s t : SS} {nm nc nr k X0 : Nat} (hst : l.stackTraces = false) (hG : GOK G) (hMi : MiOK G) (hk : k ≤ 131) (hT : K9 s t nm nc nr k) (hX : X0 < 2 ^ 31) (hW : Wd G r s t nm nc nr w) (hJ : Js s nm nc nr k) : Mth l yL_isRefused cL_isRefused 14 (Option.some Jvm.ClassFile.FieldType.boolean) r_L_isRefused G w [.ref (r 4), .ref (r 0), .int (nI X0)] (RI (.int 1) w True) nX := by
  refine mth_of rfl (Nat.le_of_ble_eq_true rfl) hst hG (fun X hX0 C0 => ?_)
  subst hX0
  have C : Cx X G cL_isRefused 14 RL (Option.some Jvm.ClassFile.FieldType.boolean) r_L_isRefused "isRefused" [] := C0
  clear C0
  show V X G 14 w 0 0 _ 0 [(0, .ref (r 4)), (1, .ref (r 0)), (2, .int (nI X0))] []
  refine v_iload_n C dL_isRefused_0 rfl 2 rfl ?_
  refine v_iconst C (v := 2) dL_isRefused_1 rfl rfl ?_
  refine v_iremN C X0 2 rfl rfl (by omega) (by omega) (by omega) dL_isRefused_2 rfl ?_
  refine xx_sel (P := X0 % 2 = 0) 11 [] ?_ (fun jj => ?_)
  · refine v_istore_n C (lv1 := [(3, .int (bI (X0 % 2 = 0))), (0, .ref (r 4)), (1, .ref (r 0)), (2, .int (nI X0))]) dL_isRefused_11 rfl (by decide) rfl ?_
    by_cases hlow : X0 % 2 = 0
    · exact sg_refL C hW hJ hMi hk hT hX hlow (by decide) (by decide)
    · exact sg_refH C hW hJ hMi hk hT hX hlow (by decide) (by decide)
  · refine v_ifN_ne C (t := 10) (X0 % 2) rfl (by omega) dL_isRefused_3 rfl rfl (fun h => ?_) (fun h => ?_)
    · refine v_iconst C (v := 0) dL_isRefused_10 rfl rfl ?_
      exact jj _ (bI_f h).symm
    · refine v_iconst C (v := 1) dL_isRefused_6 rfl rfl ?_
      refine v_goto C (q := 11) dL_isRefused_7 rfl ?_
      exact jj _ (bI_t h).symm
