theorem lg_c0 {x : Int64} : lg_cmp x x = 0 := by
  unfold lg_cmp
  rw [if_neg (show ¬ x > x from Int64.lt_irrefl), if_pos rfl]
theorem pU_z {e : Int32} {u t : SS} (h : e = 0) : pU e u t = u := if_pos h
theorem pU_n {e : Int32} {u t : SS} (h : ¬ e = 0) : pU e u t = su t 45 0 e := if_neg h
theorem Jx.cnt {s t : SS} {nm nc nr c : Nat} (h : Jx s t nm nc nr c) : s 12 0 = nI nm ∧ s 21 0 = nI nc ∧ s 33 0 = nI nr := by
  obtain ⟨⟨hS, nf, ns, dd, hI⟩, -⟩ := h
  rw [hS 12 rfl, hS 21 rfl, hS 33 rfl, ← mrg_t (s := s) (t := t) (k := 12) (by decide), ← mrg_t (s := s) (t := t) (k := 21) (by decide), ← mrg_t (s := s) (t := t) (k := 33) (by decide)]
  exact ⟨hI.1.1.1, hI.1.2.1.1, hI.1.2.2.1.1⟩

theorem lwm_ground {X : XS} {G : GG} {nme : String} {tb : List ExceptionTableEntry} {w : va_W} {k n : Nat} {Q : State → Prop} {b L i x m o : Nat} {xs : Nat → Int32} {s z : SS} {am ac ar nm nc nr nf ns dd c : Nat} {e : Int32} (C : Cx X G cL_law 7 RL (some .boolean) room_1 nme tb) (S : Scr X G b L xs) (hi : i + 5 ≤ L) (hW : Mid G x m o s z am ac ar w) (hI : Iv z nm nc nr nf ns dd c) (h5 : c < 600) (hk : k ≤ 601024 ∧ n ≤ 7293034) (hU : (pU (groundE z (xs (i + 1)) (xs (i + 2)) (xs (i + 3))) (groundU (su z 45 0 0) (xs (i + 1)) (xs (i + 2)) (xs (i + 3))) z) 45 0 = e) (hR : e = 0 → s 60 0 = pM (groundE z (xs (i + 1)) (xs (i + 2)) (xs (i + 3))) (groundR z (xs (i + 1)) (xs (i + 2)) (xs (i + 3)))) (kk : ∀ w', Mid G x m o s (pU (groundE z (xs (i + 1)) (xs (i + 2)) (xs (i + 3))) (groundU (su z 45 0 0) (xs (i + 1)) (xs (i + 2)) (xs (i + 3))) z) am ac ar w' → V X G 7 w' k n Q 2124 [(4, .int (nI i)), (3, .ref o), (2, .ref m), (1, .ref x), (0, .ref b)] []) : V X G 7 w k n Q 197 ((5, .int e) :: [(4, .int (nI i)), (3, .ref o), (2, .ref m), (1, .ref x), (0, .ref b)]) [] := by
  have hst : X.2.1.stackTraces = false := C.2.2.2.2.2.1
  have hG : GOK G := C.2.2.2.2.2.2.2.2.2.1
  obtain ⟨a, La, s0, rfl, hL, ⟨rfl, rfl, rfl⟩, T0, T1, T2⟩ := hW
  refine v_aload_n C dL_law_197 rfl 3 rfl ?_
  refine v_aload_n C dL_law_198 rfl 5 rfl ?_
  refine v_iload C dL_law_199 rfl 1 rfl ?_
  refine v_iconst C (v := 1) dL_law_201 rfl rfl ?_
  refine v_iaddN C i 1 rfl rfl dL_law_202 rfl ?_
  refine v_sld C S (i + 1) (by omega) dL_law_203 rfl ?_
  refine v_aload_n C dL_law_204 rfl 5 rfl ?_
  refine v_iload C dL_law_205 rfl 1 rfl ?_
  refine v_iconst C (v := 2) dL_law_207 rfl rfl ?_
  refine v_iaddN C i 2 rfl rfl dL_law_208 rfl ?_
  refine v_sld C S (i + 2) (by omega) dL_law_209 rfl ?_
  refine v_aload_n C dL_law_210 rfl 5 rfl ?_
  refine v_iload C dL_law_211 rfl 1 rfl ?_
  refine v_iconst C (v := 3) dL_law_213 rfl rfl ?_
  refine v_iaddN C i 3 rfl rfl dL_law_214 rfl ?_
  refine v_sld C S (i + 3) (by omega) dL_law_215 rfl ?_
  refine v_invV C (As := [.int (xs (i + 1)), .int (xs (i + 2)), .int (xs (i + 3))]) L_L_117 (c_X8_ground (s := s) (t := z)  hst hG hL (xs (i + 1)) (xs (i + 2)) (xs (i + 3))) (m0 (s := s) (t := z) (g := G.2.2.1) hL) rfl rfl rfl (by decide) ⟨hk.1, hk.2⟩ (by decide) dL_law_216 rfl kx_no (fun v w1 hv => ?_)
  obtain ⟨rfl, rfl, -⟩ := hv
  refine xx_mono (k' := k) (n' := n) (Nat.le_refl _) (Nat.le_refl _) ?_
  show V X G 7 _ _ _ _ _ _ [.int (pM (groundE z (xs (i + 1)) (xs (i + 2)) (xs (i + 3))) (groundR z (xs (i + 1)) (xs (i + 2)) (xs (i + 3))))]
  refine v_istore C (lv1 := [(6, .int (pM (groundE z (xs (i + 1)) (xs (i + 2)) (xs (i + 3))) (groundR z (xs (i + 1)) (xs (i + 2)) (xs (i + 3))))), (5, .int e), (4, .int (nI i)), (3, .ref (a 14 0)), (2, .ref (a 0 0)), (1, .ref (a 2 0)), (0, .ref b)]) dL_law_219 rfl (by decide) rfl ?_
  refine v_aload_n C dL_law_221 rfl 4 rfl ?_
  refine v_invV C (As := []) L_L_118 (c_X8_thrown (s := s) (t := (pU (groundE z (xs (i + 1)) (xs (i + 2)) (xs (i + 3))) (groundU (su z 45 0 0) (xs (i + 1)) (xs (i + 2)) (xs (i + 3))) z)) hst hG hL) (m0 (s := s) (t := (pU (groundE z (xs (i + 1)) (xs (i + 2)) (xs (i + 3))) (groundU (su z 45 0 0) (xs (i + 1)) (xs (i + 2)) (xs (i + 3))) z)) (g := G.2.2.1) hL) rfl rfl rfl (by decide) ⟨hk.1, hk.2⟩ (by decide) dL_law_222 rfl kx_no (fun v w1 hv => ?_)
  obtain ⟨rfl, rfl, -⟩ := hv
  refine xx_mono (k' := k) (n' := n) (Nat.le_refl _) (Nat.le_refl _) ?_
  show V X G 7 _ _ _ _ _ _ [.int ((pU (groundE z (xs (i + 1)) (xs (i + 2)) (xs (i + 3))) (groundU (su z 45 0 0) (xs (i + 1)) (xs (i + 2)) (xs (i + 3))) z) 45 0)]
  refine xx_top (y := e) hU ?_
  refine v_iload C dL_law_225 rfl 1 rfl ?_
  refine v_icmp_eq C (t := 232) dL_law_227 rfl rfl (fun _ => ?_) (fun h => absurd rfl h)
  refine v_iload C dL_law_232 rfl 1 rfl ?_
  refine v_if_ne C (t := 249) dL_law_234 rfl rfl (fun _ => ?_) (fun hz => ?_)
  · skip
    refine v_goto C (q := 2124) dL_law_249 rfl ?_
    exact xx_lv [2, 3, 4, 5, 6] rfl (kk _ ⟨a, La, s0, rfl, hL, ⟨rfl, rfl, rfl⟩, T0, T1, T2⟩)
  · skip
    refine v_aload_n C dL_law_237 rfl 3 rfl ?_
    refine v_iconst C (v := 0) dL_law_238 rfl rfl ?_
    refine v_lald C (m14 (s := s) (t := (pU (groundE z (xs (i + 1)) (xs (i + 2)) (xs (i + 3))) (groundU (su z 45 0 0) (xs (i + 1)) (xs (i + 2)) (xs (i + 3))) z)) (g := G.2.2.1) hL) (pk_in 0 1 (by decide)) dL_law_239 rfl ?_
    refine xx_topV (y := .long (s 60 0).toInt64) rfl ?_
    refine v_iload C dL_law_240 rfl 0 rfl ?_
    refine v_i2l C dL_law_242 rfl ?_
    refine v_lcmp C dL_law_243 rfl ?_
    refine xx_top (y := 0) (by rw [hR hz]; exact lg_c0) ?_
    refine v_if_eq C (t := 249) dL_law_244 rfl rfl (fun _ => ?_) (fun h => absurd rfl h)
    refine v_goto C (q := 2124) dL_law_249 rfl ?_
    exact xx_lv [2, 3, 4, 5, 6] rfl (kk _ ⟨a, La, s0, rfl, hL, ⟨rfl, rfl, rfl⟩, T0, T1, T2⟩)

theorem lwm_flow {X : XS} {G : GG} {nme : String} {tb : List ExceptionTableEntry} {w : va_W} {k n : Nat} {Q : State → Prop} {b L i x m o : Nat} {xs : Nat → Int32} {s z : SS} {am ac ar nm nc nr nf ns dd c : Nat} {e : Int32} (C : Cx X G cL_law 7 RL (some .boolean) room_1 nme tb) (S : Scr X G b L xs) (hi : i + 5 ≤ L) (hW : Mid G x m o s z am ac ar w) (hI : Iv z nm nc nr nf ns dd c) (h5 : c < 600) (hk : k ≤ 601024 ∧ n ≤ 7293034) (hU : (pU (flowE z (xs (i + 1))) (flowU (su z 45 0 0) (xs (i + 1))) z) 45 0 = e) (hR : e = 0 → s 60 0 = pM (flowE z (xs (i + 1))) (flowR z (xs (i + 1)))) (kk : ∀ w', Mid G x m o s (pU (flowE z (xs (i + 1))) (flowU (su z 45 0 0) (xs (i + 1))) z) am ac ar w' → V X G 7 w' k n Q 2124 [(4, .int (nI i)), (3, .ref o), (2, .ref m), (1, .ref x), (0, .ref b)] []) : V X G 7 w k n Q 265 ((5, .int e) :: [(4, .int (nI i)), (3, .ref o), (2, .ref m), (1, .ref x), (0, .ref b)]) [] := by
  have hst : X.2.1.stackTraces = false := C.2.2.2.2.2.1
  have hG : GOK G := C.2.2.2.2.2.2.2.2.2.1
  obtain ⟨a, La, s0, rfl, hL, ⟨rfl, rfl, rfl⟩, T0, T1, T2⟩ := hW
  refine v_aload_n C dL_law_265 rfl 3 rfl ?_
  refine v_aload_n C dL_law_266 rfl 5 rfl ?_
  refine v_iload C dL_law_267 rfl 1 rfl ?_
  refine v_iconst C (v := 1) dL_law_269 rfl rfl ?_
  refine v_iaddN C i 1 rfl rfl dL_law_270 rfl ?_
  refine v_sld C S (i + 1) (by omega) dL_law_271 rfl ?_
  refine v_invV C (As := [.int (xs (i + 1))]) L_L_125 (c_X8_flow (s := s) (t := z)  hst hG hL (xs (i + 1))) (m0 (s := s) (t := z) (g := G.2.2.1) hL) rfl rfl rfl (by decide) ⟨hk.1, hk.2⟩ (by decide) dL_law_272 rfl kx_no (fun v w1 hv => ?_)
  obtain ⟨rfl, rfl, -⟩ := hv
  refine xx_mono (k' := k) (n' := n) (Nat.le_refl _) (Nat.le_refl _) ?_
  show V X G 7 _ _ _ _ _ _ [.int (pM (flowE z (xs (i + 1))) (flowR z (xs (i + 1))))]
  refine v_istore C (lv1 := [(6, .int (pM (flowE z (xs (i + 1))) (flowR z (xs (i + 1))))), (5, .int e), (4, .int (nI i)), (3, .ref (a 14 0)), (2, .ref (a 0 0)), (1, .ref (a 2 0)), (0, .ref b)]) dL_law_275 rfl (by decide) rfl ?_
  refine v_aload_n C dL_law_277 rfl 4 rfl ?_
  refine v_invV C (As := []) L_L_118 (c_X8_thrown (s := s) (t := (pU (flowE z (xs (i + 1))) (flowU (su z 45 0 0) (xs (i + 1))) z)) hst hG hL) (m0 (s := s) (t := (pU (flowE z (xs (i + 1))) (flowU (su z 45 0 0) (xs (i + 1))) z)) (g := G.2.2.1) hL) rfl rfl rfl (by decide) ⟨hk.1, hk.2⟩ (by decide) dL_law_278 rfl kx_no (fun v w1 hv => ?_)
  obtain ⟨rfl, rfl, -⟩ := hv
  refine xx_mono (k' := k) (n' := n) (Nat.le_refl _) (Nat.le_refl _) ?_
  show V X G 7 _ _ _ _ _ _ [.int ((pU (flowE z (xs (i + 1))) (flowU (su z 45 0 0) (xs (i + 1))) z) 45 0)]
  refine xx_top (y := e) hU ?_
  refine v_iload C dL_law_281 rfl 1 rfl ?_
  refine v_icmp_eq C (t := 288) dL_law_283 rfl rfl (fun _ => ?_) (fun h => absurd rfl h)
  refine v_iload C dL_law_288 rfl 1 rfl ?_
  refine v_if_ne C (t := 305) dL_law_290 rfl rfl (fun _ => ?_) (fun hz => ?_)
  · skip
    refine v_goto C (q := 2124) dL_law_305 rfl ?_
    exact xx_lv [2, 3, 4, 5, 6] rfl (kk _ ⟨a, La, s0, rfl, hL, ⟨rfl, rfl, rfl⟩, T0, T1, T2⟩)
  · skip
    refine v_aload_n C dL_law_293 rfl 3 rfl ?_
    refine v_iconst C (v := 0) dL_law_294 rfl rfl ?_
    refine v_lald C (m14 (s := s) (t := (pU (flowE z (xs (i + 1))) (flowU (su z 45 0 0) (xs (i + 1))) z)) (g := G.2.2.1) hL) (pk_in 0 1 (by decide)) dL_law_295 rfl ?_
    refine xx_topV (y := .long (s 60 0).toInt64) rfl ?_
    refine v_iload C dL_law_296 rfl 0 rfl ?_
    refine v_i2l C dL_law_298 rfl ?_
    refine v_lcmp C dL_law_299 rfl ?_
    refine xx_top (y := 0) (by rw [hR hz]; exact lg_c0) ?_
    refine v_if_eq C (t := 305) dL_law_300 rfl rfl (fun _ => ?_) (fun h => absurd rfl h)
    refine v_goto C (q := 2124) dL_law_305 rfl ?_
    exact xx_lv [2, 3, 4, 5, 6] rfl (kk _ ⟨a, La, s0, rfl, hL, ⟨rfl, rfl, rfl⟩, T0, T1, T2⟩)

theorem lwm_miner {X : XS} {G : GG} {nme : String} {tb : List ExceptionTableEntry} {w : va_W} {k n : Nat} {Q : State → Prop} {b L i x m o : Nat} {xs : Nat → Int32} {s z : SS} {am ac ar nm nc nr nf ns dd c : Nat} {e : Int32} (C : Cx X G cL_law 7 RL (some .boolean) room_1 nme tb) (S : Scr X G b L xs) (hi : i + 5 ≤ L) (hW : Mid G x m o s z am ac ar w) (hI : Iv z nm nc nr nf ns dd c) (h5 : c < 600) (hk : k ≤ 601024 ∧ n ≤ 7293034) (hU : (pU (minerE z nm (xs (i + 1)) (xs (i + 2))) (minerU (su z 45 0 0) nm (xs (i + 1)) (xs (i + 2))) z) 45 0 = e) (hR : e = 0 → s 60 0 = pM (minerE z nm (xs (i + 1)) (xs (i + 2))) (minerR z nm (xs (i + 1)) (xs (i + 2)))) (kk : ∀ w', Mid G x m o s (pU (minerE z nm (xs (i + 1)) (xs (i + 2))) (minerU (su z 45 0 0) nm (xs (i + 1)) (xs (i + 2))) z) am ac ar w' → V X G 7 w' k n Q 2124 [(4, .int (nI i)), (3, .ref o), (2, .ref m), (1, .ref x), (0, .ref b)] []) : V X G 7 w k n Q 327 ((5, .int e) :: [(4, .int (nI i)), (3, .ref o), (2, .ref m), (1, .ref x), (0, .ref b)]) [] := by
  have hst : X.2.1.stackTraces = false := C.2.2.2.2.2.1
  have hG : GOK G := C.2.2.2.2.2.2.2.2.2.1
  obtain ⟨a, La, s0, rfl, hL, ⟨rfl, rfl, rfl⟩, T0, T1, T2⟩ := hW
  refine v_aload_n C dL_law_327 rfl 3 rfl ?_
  refine v_aload_n C dL_law_328 rfl 5 rfl ?_
  refine v_iload C dL_law_329 rfl 1 rfl ?_
  refine v_iconst C (v := 1) dL_law_331 rfl rfl ?_
  refine v_iaddN C i 1 rfl rfl dL_law_332 rfl ?_
  refine v_sld C S (i + 1) (by omega) dL_law_333 rfl ?_
  refine v_aload_n C dL_law_334 rfl 5 rfl ?_
  refine v_iload C dL_law_335 rfl 1 rfl ?_
  refine v_iconst C (v := 2) dL_law_337 rfl rfl ?_
  refine v_iaddN C i 2 rfl rfl dL_law_338 rfl ?_
  refine v_sld C S (i + 2) (by omega) dL_law_339 rfl ?_
  refine v_invV C (As := [.int (xs (i + 1)), .int (xs (i + 2))]) L_L_129 (c_X8_miner (s := s) (t := z) (nm := nm) hst hG hL (xs (i + 1)) (xs (i + 2)) hI.1.1.1 hI.1.1.2) (m0 (s := s) (t := z) (g := G.2.2.1) hL) rfl rfl rfl (by decide) ⟨hk.1, hk.2⟩ (by decide) dL_law_340 rfl kx_no (fun v w1 hv => ?_)
  obtain ⟨rfl, rfl, -⟩ := hv
  refine xx_mono (k' := k) (n' := n) (Nat.le_refl _) (Nat.le_refl _) ?_
  show V X G 7 _ _ _ _ _ _ [.int (pM (minerE z nm (xs (i + 1)) (xs (i + 2))) (minerR z nm (xs (i + 1)) (xs (i + 2))))]
  refine v_istore C (lv1 := [(6, .int (pM (minerE z nm (xs (i + 1)) (xs (i + 2))) (minerR z nm (xs (i + 1)) (xs (i + 2))))), (5, .int e), (4, .int (nI i)), (3, .ref (a 14 0)), (2, .ref (a 0 0)), (1, .ref (a 2 0)), (0, .ref b)]) dL_law_343 rfl (by decide) rfl ?_
  refine v_aload_n C dL_law_345 rfl 4 rfl ?_
  refine v_invV C (As := []) L_L_118 (c_X8_thrown (s := s) (t := (pU (minerE z nm (xs (i + 1)) (xs (i + 2))) (minerU (su z 45 0 0) nm (xs (i + 1)) (xs (i + 2))) z)) hst hG hL) (m0 (s := s) (t := (pU (minerE z nm (xs (i + 1)) (xs (i + 2))) (minerU (su z 45 0 0) nm (xs (i + 1)) (xs (i + 2))) z)) (g := G.2.2.1) hL) rfl rfl rfl (by decide) ⟨hk.1, hk.2⟩ (by decide) dL_law_346 rfl kx_no (fun v w1 hv => ?_)
  obtain ⟨rfl, rfl, -⟩ := hv
  refine xx_mono (k' := k) (n' := n) (Nat.le_refl _) (Nat.le_refl _) ?_
  show V X G 7 _ _ _ _ _ _ [.int ((pU (minerE z nm (xs (i + 1)) (xs (i + 2))) (minerU (su z 45 0 0) nm (xs (i + 1)) (xs (i + 2))) z) 45 0)]
  refine xx_top (y := e) hU ?_
  refine v_iload C dL_law_349 rfl 1 rfl ?_
  refine v_icmp_eq C (t := 356) dL_law_351 rfl rfl (fun _ => ?_) (fun h => absurd rfl h)
  refine v_iload C dL_law_356 rfl 1 rfl ?_
  refine v_if_ne C (t := 373) dL_law_358 rfl rfl (fun _ => ?_) (fun hz => ?_)
  · skip
    refine v_goto C (q := 2124) dL_law_373 rfl ?_
    exact xx_lv [2, 3, 4, 5, 6] rfl (kk _ ⟨a, La, s0, rfl, hL, ⟨rfl, rfl, rfl⟩, T0, T1, T2⟩)
  · skip
    refine v_aload_n C dL_law_361 rfl 3 rfl ?_
    refine v_iconst C (v := 0) dL_law_362 rfl rfl ?_
    refine v_lald C (m14 (s := s) (t := (pU (minerE z nm (xs (i + 1)) (xs (i + 2))) (minerU (su z 45 0 0) nm (xs (i + 1)) (xs (i + 2))) z)) (g := G.2.2.1) hL) (pk_in 0 1 (by decide)) dL_law_363 rfl ?_
    refine xx_topV (y := .long (s 60 0).toInt64) rfl ?_
    refine v_iload C dL_law_364 rfl 0 rfl ?_
    refine v_i2l C dL_law_366 rfl ?_
    refine v_lcmp C dL_law_367 rfl ?_
    refine xx_top (y := 0) (by rw [hR hz]; exact lg_c0) ?_
    refine v_if_eq C (t := 373) dL_law_368 rfl rfl (fun _ => ?_) (fun h => absurd rfl h)
    refine v_goto C (q := 2124) dL_law_373 rfl ?_
    exact xx_lv [2, 3, 4, 5, 6] rfl (kk _ ⟨a, La, s0, rfl, hL, ⟨rfl, rfl, rfl⟩, T0, T1, T2⟩)

theorem lwm_pass {X : XS} {G : GG} {nme : String} {tb : List ExceptionTableEntry} {w : va_W} {k n : Nat} {Q : State → Prop} {b L i x m o : Nat} {xs : Nat → Int32} {s z : SS} {am ac ar nm nc nr nf ns dd c : Nat} {e : Int32} (C : Cx X G cL_law 7 RL (some .boolean) room_1 nme tb) (S : Scr X G b L xs) (hi : i + 5 ≤ L) (hW : Mid G x m o s z am ac ar w) (hI : Iv z nm nc nr nf ns dd c) (h5 : c < 600) (hk : k ≤ 601024 ∧ n ≤ 7293034) (hU : (pU (passE z nm nc nf (xs (i + 1))) (passU (su z 45 0 0) nm nc nf (xs (i + 1))) z) 45 0 = e) (hR : e = 0 → s 60 0 = pM (passE z nm nc nf (xs (i + 1))) (passR z nm nc nf (xs (i + 1)))) (kk : ∀ w', Mid G x m o s (pU (passE z nm nc nf (xs (i + 1))) (passU (su z 45 0 0) nm nc nf (xs (i + 1))) z) am ac ar w' → V X G 7 w' k n Q 2124 [(4, .int (nI i)), (3, .ref o), (2, .ref m), (1, .ref x), (0, .ref b)] []) : V X G 7 w k n Q 389 ((5, .int e) :: [(4, .int (nI i)), (3, .ref o), (2, .ref m), (1, .ref x), (0, .ref b)]) [] := by
  have hst : X.2.1.stackTraces = false := C.2.2.2.2.2.1
  have hG : GOK G := C.2.2.2.2.2.2.2.2.2.1
  obtain ⟨a, La, s0, rfl, hL, ⟨rfl, rfl, rfl⟩, T0, T1, T2⟩ := hW
  refine v_aload_n C dL_law_389 rfl 3 rfl ?_
  refine v_aload_n C dL_law_390 rfl 5 rfl ?_
  refine v_iload C dL_law_391 rfl 1 rfl ?_
  refine v_iconst C (v := 1) dL_law_393 rfl rfl ?_
  refine v_iaddN C i 1 rfl rfl dL_law_394 rfl ?_
  refine v_sld C S (i + 1) (by omega) dL_law_395 rfl ?_
  refine v_invV C (As := [.int (xs (i + 1))]) L_L_132 (c_X8_pass (s := s) (t := z) (nm := nm) (nc := nc) (nf := nf) hst hG hL (xs (i + 1)) hI.1.1.1 hI.1.1.2 hI.1.2.1.1 hI.1.2.1.2 hI.1.2.2.2.1.1 hI.1.2.2.2.1.2 (fun i hi => vp_up (hI.2.2.2.2.1.1 i hi) hI.1.1.2)) (m0 (s := s) (t := z) (g := G.2.2.1) hL) rfl rfl rfl (by decide) ⟨hk.1, hk.2⟩ (by decide) dL_law_396 rfl kx_no (fun v w1 hv => ?_)
  obtain ⟨rfl, rfl, -⟩ := hv
  refine xx_mono (k' := k) (n' := n) (Nat.le_refl _) (Nat.le_refl _) ?_
  show V X G 7 _ _ _ _ _ _ [.int (pM (passE z nm nc nf (xs (i + 1))) (passR z nm nc nf (xs (i + 1))))]
  refine v_istore C (lv1 := [(6, .int (pM (passE z nm nc nf (xs (i + 1))) (passR z nm nc nf (xs (i + 1))))), (5, .int e), (4, .int (nI i)), (3, .ref (a 14 0)), (2, .ref (a 0 0)), (1, .ref (a 2 0)), (0, .ref b)]) dL_law_399 rfl (by decide) rfl ?_
  refine v_aload_n C dL_law_401 rfl 4 rfl ?_
  refine v_invV C (As := []) L_L_118 (c_X8_thrown (s := s) (t := (pU (passE z nm nc nf (xs (i + 1))) (passU (su z 45 0 0) nm nc nf (xs (i + 1))) z)) hst hG hL) (m0 (s := s) (t := (pU (passE z nm nc nf (xs (i + 1))) (passU (su z 45 0 0) nm nc nf (xs (i + 1))) z)) (g := G.2.2.1) hL) rfl rfl rfl (by decide) ⟨hk.1, hk.2⟩ (by decide) dL_law_402 rfl kx_no (fun v w1 hv => ?_)
  obtain ⟨rfl, rfl, -⟩ := hv
  refine xx_mono (k' := k) (n' := n) (Nat.le_refl _) (Nat.le_refl _) ?_
  show V X G 7 _ _ _ _ _ _ [.int ((pU (passE z nm nc nf (xs (i + 1))) (passU (su z 45 0 0) nm nc nf (xs (i + 1))) z) 45 0)]
  refine xx_top (y := e) hU ?_
  refine v_iload C dL_law_405 rfl 1 rfl ?_
  refine v_icmp_eq C (t := 412) dL_law_407 rfl rfl (fun _ => ?_) (fun h => absurd rfl h)
  refine v_iload C dL_law_412 rfl 1 rfl ?_
  refine v_if_ne C (t := 429) dL_law_414 rfl rfl (fun _ => ?_) (fun hz => ?_)
  · skip
    refine v_goto C (q := 2124) dL_law_429 rfl ?_
    exact xx_lv [2, 3, 4, 5, 6] rfl (kk _ ⟨a, La, s0, rfl, hL, ⟨rfl, rfl, rfl⟩, T0, T1, T2⟩)
  · skip
    refine v_aload_n C dL_law_417 rfl 3 rfl ?_
    refine v_iconst C (v := 0) dL_law_418 rfl rfl ?_
    refine v_lald C (m14 (s := s) (t := (pU (passE z nm nc nf (xs (i + 1))) (passU (su z 45 0 0) nm nc nf (xs (i + 1))) z)) (g := G.2.2.1) hL) (pk_in 0 1 (by decide)) dL_law_419 rfl ?_
    refine xx_topV (y := .long (s 60 0).toInt64) rfl ?_
    refine v_iload C dL_law_420 rfl 0 rfl ?_
    refine v_i2l C dL_law_422 rfl ?_
    refine v_lcmp C dL_law_423 rfl ?_
    refine xx_top (y := 0) (by rw [hR hz]; exact lg_c0) ?_
    refine v_if_eq C (t := 429) dL_law_424 rfl rfl (fun _ => ?_) (fun h => absurd rfl h)
    refine v_goto C (q := 2124) dL_law_429 rfl ?_
    exact xx_lv [2, 3, 4, 5, 6] rfl (kk _ ⟨a, La, s0, rfl, hL, ⟨rfl, rfl, rfl⟩, T0, T1, T2⟩)

theorem lwm_meet {X : XS} {G : GG} {nme : String} {tb : List ExceptionTableEntry} {w : va_W} {k n : Nat} {Q : State → Prop} {b L i x m o : Nat} {xs : Nat → Int32} {s z : SS} {am ac ar nm nc nr nf ns dd c : Nat} {e : Int32} (C : Cx X G cL_law 7 RL (some .boolean) room_1 nme tb) (S : Scr X G b L xs) (hi : i + 5 ≤ L) (hW : Mid G x m o s z am ac ar w) (hI : Iv z nm nc nr nf ns dd c) (h5 : c < 600) (hk : k ≤ 601024 ∧ n ≤ 7293034) (hU : (pU (meetE z nm (xs (i + 1)) (xs (i + 2)) (xs (i + 3)) (xs (i + 4))) (meetU (su z 45 0 0) nm (xs (i + 1)) (xs (i + 2)) (xs (i + 3)) (xs (i + 4))) z) 45 0 = e) (hR : e = 0 → s 60 0 = if pM (meetE z nm (xs (i + 1)) (xs (i + 2)) (xs (i + 3)) (xs (i + 4))) (meetR z nm (xs (i + 1)) (xs (i + 2)) (xs (i + 3)) (xs (i + 4))) = 0 then 0 else 1) (kk : ∀ w', Mid G x m o s (pU (meetE z nm (xs (i + 1)) (xs (i + 2)) (xs (i + 3)) (xs (i + 4))) (meetU (su z 45 0 0) nm (xs (i + 1)) (xs (i + 2)) (xs (i + 3)) (xs (i + 4))) z) am ac ar w' → V X G 7 w' k n Q 2124 [(4, .int (nI i)), (3, .ref o), (2, .ref m), (1, .ref x), (0, .ref b)] []) : V X G 7 w k n Q 463 ((5, .int e) :: [(4, .int (nI i)), (3, .ref o), (2, .ref m), (1, .ref x), (0, .ref b)]) [] := by
  have hst : X.2.1.stackTraces = false := C.2.2.2.2.2.1
  have hG : GOK G := C.2.2.2.2.2.2.2.2.2.1
  obtain ⟨a, La, s0, rfl, hL, ⟨rfl, rfl, rfl⟩, T0, T1, T2⟩ := hW
  refine v_aload_n C dL_law_463 rfl 3 rfl ?_
  refine v_aload_n C dL_law_464 rfl 5 rfl ?_
  refine v_iload C dL_law_465 rfl 1 rfl ?_
  refine v_iconst C (v := 1) dL_law_467 rfl rfl ?_
  refine v_iaddN C i 1 rfl rfl dL_law_468 rfl ?_
  refine v_sld C S (i + 1) (by omega) dL_law_469 rfl ?_
  refine v_aload_n C dL_law_470 rfl 5 rfl ?_
  refine v_iload C dL_law_471 rfl 1 rfl ?_
  refine v_iconst C (v := 2) dL_law_473 rfl rfl ?_
  refine v_iaddN C i 2 rfl rfl dL_law_474 rfl ?_
  refine v_sld C S (i + 2) (by omega) dL_law_475 rfl ?_
  refine v_aload_n C dL_law_476 rfl 5 rfl ?_
  refine v_iload C dL_law_477 rfl 1 rfl ?_
  refine v_iconst C (v := 3) dL_law_479 rfl rfl ?_
  refine v_iaddN C i 3 rfl rfl dL_law_480 rfl ?_
  refine v_sld C S (i + 3) (by omega) dL_law_481 rfl ?_
  refine v_aload_n C dL_law_482 rfl 5 rfl ?_
  refine v_iload C dL_law_483 rfl 1 rfl ?_
  refine v_iconst C (v := 4) dL_law_485 rfl rfl ?_
  refine v_iaddN C i 4 rfl rfl dL_law_486 rfl ?_
  refine v_sld C S (i + 4) (by omega) dL_law_487 rfl ?_
  refine v_invV C (As := [.int (xs (i + 1)), .int (xs (i + 2)), .int (xs (i + 3)), .int (xs (i + 4))]) L_L_136 (c_X8_meet (s := s) (t := z) (nm := nm) hst hG hL (xs (i + 1)) (xs (i + 2)) (xs (i + 3)) (xs (i + 4)) hI.1.1.1 hI.1.1.2) (m0 (s := s) (t := z) (g := G.2.2.1) hL) rfl rfl rfl (by decide) ⟨hk.1, hk.2⟩ (by decide) dL_law_488 rfl kx_no (fun v w1 hv => ?_)
  obtain ⟨rfl, rfl, -⟩ := hv
  refine xx_mono (k' := k) (n' := n) (Nat.le_refl _) (Nat.le_refl _) ?_
  show V X G 7 _ _ _ _ _ _ [.int (pM (meetE z nm (xs (i + 1)) (xs (i + 2)) (xs (i + 3)) (xs (i + 4))) (meetR z nm (xs (i + 1)) (xs (i + 2)) (xs (i + 3)) (xs (i + 4))))]
  refine v_istore C (lv1 := [(6, .int (pM (meetE z nm (xs (i + 1)) (xs (i + 2)) (xs (i + 3)) (xs (i + 4))) (meetR z nm (xs (i + 1)) (xs (i + 2)) (xs (i + 3)) (xs (i + 4))))), (5, .int e), (4, .int (nI i)), (3, .ref (a 14 0)), (2, .ref (a 0 0)), (1, .ref (a 2 0)), (0, .ref b)]) dL_law_491 rfl (by decide) rfl ?_
  refine v_aload_n C dL_law_493 rfl 4 rfl ?_
  refine v_invV C (As := []) L_L_118 (c_X8_thrown (s := s) (t := (pU (meetE z nm (xs (i + 1)) (xs (i + 2)) (xs (i + 3)) (xs (i + 4))) (meetU (su z 45 0 0) nm (xs (i + 1)) (xs (i + 2)) (xs (i + 3)) (xs (i + 4))) z)) hst hG hL) (m0 (s := s) (t := (pU (meetE z nm (xs (i + 1)) (xs (i + 2)) (xs (i + 3)) (xs (i + 4))) (meetU (su z 45 0 0) nm (xs (i + 1)) (xs (i + 2)) (xs (i + 3)) (xs (i + 4))) z)) (g := G.2.2.1) hL) rfl rfl rfl (by decide) ⟨hk.1, hk.2⟩ (by decide) dL_law_494 rfl kx_no (fun v w1 hv => ?_)
  obtain ⟨rfl, rfl, -⟩ := hv
  refine xx_mono (k' := k) (n' := n) (Nat.le_refl _) (Nat.le_refl _) ?_
  show V X G 7 _ _ _ _ _ _ [.int ((pU (meetE z nm (xs (i + 1)) (xs (i + 2)) (xs (i + 3)) (xs (i + 4))) (meetU (su z 45 0 0) nm (xs (i + 1)) (xs (i + 2)) (xs (i + 3)) (xs (i + 4))) z) 45 0)]
  refine xx_top (y := e) hU ?_
  refine v_iload C dL_law_497 rfl 1 rfl ?_
  refine v_icmp_eq C (t := 504) dL_law_499 rfl rfl (fun _ => ?_) (fun h => absurd rfl h)
  refine v_iload C dL_law_504 rfl 1 rfl ?_
  refine v_if_ne C (t := 528) dL_law_506 rfl rfl (fun _ => ?_) (fun hz => ?_)
  · skip
    refine v_goto C (q := 2124) dL_law_528 rfl ?_
    exact xx_lv [2, 3, 4, 5, 6] rfl (kk _ ⟨a, La, s0, rfl, hL, ⟨rfl, rfl, rfl⟩, T0, T1, T2⟩)
  · skip
    refine v_aload_n C dL_law_509 rfl 3 rfl ?_
    refine v_iconst C (v := 0) dL_law_510 rfl rfl ?_
    refine v_lald C (m14 (s := s) (t := (pU (meetE z nm (xs (i + 1)) (xs (i + 2)) (xs (i + 3)) (xs (i + 4))) (meetU (su z 45 0 0) nm (xs (i + 1)) (xs (i + 2)) (xs (i + 3)) (xs (i + 4))) z)) (g := G.2.2.1) hL) (pk_in 0 1 (by decide)) dL_law_511 rfl ?_
    refine xx_topV (y := .long (s 60 0).toInt64) rfl ?_
    refine v_iload C dL_law_512 rfl 0 rfl ?_
    refine v_if_eq C (t := 521) dL_law_514 rfl rfl (fun hq => ?_) (fun hq => ?_)
    · refine v_lconst C (v := 0) dL_law_521 rfl rfl ?_
      refine v_lcmp C dL_law_522 rfl ?_
      refine xx_top (y := 0) (by rw [hR hz, if_pos hq]; exact lg_c0) ?_
      refine v_if_eq C (t := 528) dL_law_523 rfl rfl (fun _ => ?_) (fun h => absurd rfl h)
      refine v_goto C (q := 2124) dL_law_528 rfl ?_
      exact xx_lv [2, 3, 4, 5, 6] rfl (kk _ ⟨a, La, s0, rfl, hL, ⟨rfl, rfl, rfl⟩, T0, T1, T2⟩)
    · refine v_lconst C (v := 1) dL_law_517 rfl rfl ?_
      refine v_goto C (q := 522) dL_law_518 rfl ?_
      refine v_lcmp C dL_law_522 rfl ?_
      refine xx_top (y := 0) (by rw [hR hz, if_neg hq]; exact lg_c0) ?_
      refine v_if_eq C (t := 528) dL_law_523 rfl rfl (fun _ => ?_) (fun h => absurd rfl h)
      refine v_goto C (q := 2124) dL_law_528 rfl ?_
      exact xx_lv [2, 3, 4, 5, 6] rfl (kk _ ⟨a, La, s0, rfl, hL, ⟨rfl, rfl, rfl⟩, T0, T1, T2⟩)

theorem lwm_peg {X : XS} {G : GG} {nme : String} {tb : List ExceptionTableEntry} {w : va_W} {k n : Nat} {Q : State → Prop} {b L i x m o : Nat} {xs : Nat → Int32} {s z : SS} {am ac ar nm nc nr nf ns dd c : Nat} {e : Int32} (C : Cx X G cL_law 7 RL (some .boolean) room_1 nme tb) (S : Scr X G b L xs) (hi : i + 5 ≤ L) (hW : Mid G x m o s z am ac ar w) (hI : Iv z nm nc nr nf ns dd c) (h5 : c < 600) (hk : k ≤ 601024 ∧ n ≤ 7293034) (hU : (pU (pegE z nc (xs (i + 1)) (xs (i + 2)) (xs (i + 3))) (pegU (su z 45 0 0) nc (xs (i + 1)) (xs (i + 2)) (xs (i + 3))) z) 45 0 = e) (hR : e = 0 → s 60 0 = pM (pegE z nc (xs (i + 1)) (xs (i + 2)) (xs (i + 3))) (pegR z nc (xs (i + 1)) (xs (i + 2)) (xs (i + 3)))) (kk : ∀ w', Mid G x m o s (pU (pegE z nc (xs (i + 1)) (xs (i + 2)) (xs (i + 3))) (pegU (su z 45 0 0) nc (xs (i + 1)) (xs (i + 2)) (xs (i + 3))) z) am ac ar w' → V X G 7 w' k n Q 2124 [(4, .int (nI i)), (3, .ref o), (2, .ref m), (1, .ref x), (0, .ref b)] []) : V X G 7 w k n Q 556 ((5, .int e) :: [(4, .int (nI i)), (3, .ref o), (2, .ref m), (1, .ref x), (0, .ref b)]) [] := by
  have hst : X.2.1.stackTraces = false := C.2.2.2.2.2.1
  have hG : GOK G := C.2.2.2.2.2.2.2.2.2.1
  obtain ⟨a, La, s0, rfl, hL, ⟨rfl, rfl, rfl⟩, T0, T1, T2⟩ := hW
  refine v_aload_n C dL_law_556 rfl 3 rfl ?_
  refine v_aload_n C dL_law_557 rfl 5 rfl ?_
  refine v_iload C dL_law_558 rfl 1 rfl ?_
  refine v_iconst C (v := 1) dL_law_560 rfl rfl ?_
  refine v_iaddN C i 1 rfl rfl dL_law_561 rfl ?_
  refine v_sld C S (i + 1) (by omega) dL_law_562 rfl ?_
  refine v_aload_n C dL_law_563 rfl 5 rfl ?_
  refine v_iload C dL_law_564 rfl 1 rfl ?_
  refine v_iconst C (v := 2) dL_law_566 rfl rfl ?_
  refine v_iaddN C i 2 rfl rfl dL_law_567 rfl ?_
  refine v_sld C S (i + 2) (by omega) dL_law_568 rfl ?_
  refine v_aload_n C dL_law_569 rfl 5 rfl ?_
  refine v_iload C dL_law_570 rfl 1 rfl ?_
  refine v_iconst C (v := 3) dL_law_572 rfl rfl ?_
  refine v_iaddN C i 3 rfl rfl dL_law_573 rfl ?_
  refine v_sld C S (i + 3) (by omega) dL_law_574 rfl ?_
  refine v_invV C (As := [.int (xs (i + 1)), .int (xs (i + 2)), .int (xs (i + 3))]) L_L_139 (c_X8_peg (s := s) (t := z) (nm := nm) (nc := nc) hst hG hL (xs (i + 1)) (xs (i + 2)) (xs (i + 3)) hI.1.1.1 hI.1.1.2 hI.1.2.1.1 hI.1.2.1.2) (m0 (s := s) (t := z) (g := G.2.2.1) hL) rfl rfl rfl (by decide) ⟨hk.1, hk.2⟩ (by decide) dL_law_575 rfl kx_no (fun v w1 hv => ?_)
  obtain ⟨rfl, rfl, -⟩ := hv
  refine xx_mono (k' := k) (n' := n) (Nat.le_refl _) (Nat.le_refl _) ?_
  show V X G 7 _ _ _ _ _ _ [.int (pM (pegE z nc (xs (i + 1)) (xs (i + 2)) (xs (i + 3))) (pegR z nc (xs (i + 1)) (xs (i + 2)) (xs (i + 3))))]
  refine v_istore C (lv1 := [(6, .int (pM (pegE z nc (xs (i + 1)) (xs (i + 2)) (xs (i + 3))) (pegR z nc (xs (i + 1)) (xs (i + 2)) (xs (i + 3))))), (5, .int e), (4, .int (nI i)), (3, .ref (a 14 0)), (2, .ref (a 0 0)), (1, .ref (a 2 0)), (0, .ref b)]) dL_law_578 rfl (by decide) rfl ?_
  refine v_aload_n C dL_law_580 rfl 4 rfl ?_
  refine v_invV C (As := []) L_L_118 (c_X8_thrown (s := s) (t := (pU (pegE z nc (xs (i + 1)) (xs (i + 2)) (xs (i + 3))) (pegU (su z 45 0 0) nc (xs (i + 1)) (xs (i + 2)) (xs (i + 3))) z)) hst hG hL) (m0 (s := s) (t := (pU (pegE z nc (xs (i + 1)) (xs (i + 2)) (xs (i + 3))) (pegU (su z 45 0 0) nc (xs (i + 1)) (xs (i + 2)) (xs (i + 3))) z)) (g := G.2.2.1) hL) rfl rfl rfl (by decide) ⟨hk.1, hk.2⟩ (by decide) dL_law_581 rfl kx_no (fun v w1 hv => ?_)
  obtain ⟨rfl, rfl, -⟩ := hv
  refine xx_mono (k' := k) (n' := n) (Nat.le_refl _) (Nat.le_refl _) ?_
  show V X G 7 _ _ _ _ _ _ [.int ((pU (pegE z nc (xs (i + 1)) (xs (i + 2)) (xs (i + 3))) (pegU (su z 45 0 0) nc (xs (i + 1)) (xs (i + 2)) (xs (i + 3))) z) 45 0)]
  refine xx_top (y := e) hU ?_
  refine v_iload C dL_law_584 rfl 1 rfl ?_
  refine v_icmp_eq C (t := 591) dL_law_586 rfl rfl (fun _ => ?_) (fun h => absurd rfl h)
  refine v_iload C dL_law_591 rfl 1 rfl ?_
  refine v_if_ne C (t := 608) dL_law_593 rfl rfl (fun _ => ?_) (fun hz => ?_)
  · skip
    refine v_goto C (q := 2124) dL_law_608 rfl ?_
    exact xx_lv [2, 3, 4, 5, 6] rfl (kk _ ⟨a, La, s0, rfl, hL, ⟨rfl, rfl, rfl⟩, T0, T1, T2⟩)
  · skip
    refine v_aload_n C dL_law_596 rfl 3 rfl ?_
    refine v_iconst C (v := 0) dL_law_597 rfl rfl ?_
    refine v_lald C (m14 (s := s) (t := (pU (pegE z nc (xs (i + 1)) (xs (i + 2)) (xs (i + 3))) (pegU (su z 45 0 0) nc (xs (i + 1)) (xs (i + 2)) (xs (i + 3))) z)) (g := G.2.2.1) hL) (pk_in 0 1 (by decide)) dL_law_598 rfl ?_
    refine xx_topV (y := .long (s 60 0).toInt64) rfl ?_
    refine v_iload C dL_law_599 rfl 0 rfl ?_
    refine v_i2l C dL_law_601 rfl ?_
    refine v_lcmp C dL_law_602 rfl ?_
    refine xx_top (y := 0) (by rw [hR hz]; exact lg_c0) ?_
    refine v_if_eq C (t := 608) dL_law_603 rfl rfl (fun _ => ?_) (fun h => absurd rfl h)
    refine v_goto C (q := 2124) dL_law_608 rfl ?_
    exact xx_lv [2, 3, 4, 5, 6] rfl (kk _ ⟨a, La, s0, rfl, hL, ⟨rfl, rfl, rfl⟩, T0, T1, T2⟩)

theorem lwm_right {X : XS} {G : GG} {nme : String} {tb : List ExceptionTableEntry} {w : va_W} {k n : Nat} {Q : State → Prop} {b L i x m o : Nat} {xs : Nat → Int32} {s z : SS} {am ac ar nm nc nr nf ns dd c : Nat} {e : Int32} (C : Cx X G cL_law 7 RL (some .boolean) room_1 nme tb) (S : Scr X G b L xs) (hi : i + 5 ≤ L) (hW : Mid G x m o s z am ac ar w) (hI : Iv z nm nc nr nf ns dd c) (h5 : c < 600) (hk : k ≤ 601024 ∧ n ≤ 7293034) (hU : (pU (rightE z nr (xs (i + 1)) (xs (i + 2))) (rightU (su z 45 0 0) nr (xs (i + 1)) (xs (i + 2))) z) 45 0 = e) (hR : e = 0 → s 60 0 = pM (rightE z nr (xs (i + 1)) (xs (i + 2))) (rightR z nr (xs (i + 1)) (xs (i + 2)))) (kk : ∀ w', Mid G x m o s (pU (rightE z nr (xs (i + 1)) (xs (i + 2))) (rightU (su z 45 0 0) nr (xs (i + 1)) (xs (i + 2))) z) am ac ar w' → V X G 7 w' k n Q 2124 [(4, .int (nI i)), (3, .ref o), (2, .ref m), (1, .ref x), (0, .ref b)] []) : V X G 7 w k n Q 630 ((5, .int e) :: [(4, .int (nI i)), (3, .ref o), (2, .ref m), (1, .ref x), (0, .ref b)]) [] := by
  have hst : X.2.1.stackTraces = false := C.2.2.2.2.2.1
  have hG : GOK G := C.2.2.2.2.2.2.2.2.2.1
  obtain ⟨a, La, s0, rfl, hL, ⟨rfl, rfl, rfl⟩, T0, T1, T2⟩ := hW
  refine v_aload_n C dL_law_630 rfl 3 rfl ?_
  refine v_aload_n C dL_law_631 rfl 5 rfl ?_
  refine v_iload C dL_law_632 rfl 1 rfl ?_
  refine v_iconst C (v := 1) dL_law_634 rfl rfl ?_
  refine v_iaddN C i 1 rfl rfl dL_law_635 rfl ?_
  refine v_sld C S (i + 1) (by omega) dL_law_636 rfl ?_
  refine v_aload_n C dL_law_637 rfl 5 rfl ?_
  refine v_iload C dL_law_638 rfl 1 rfl ?_
  refine v_iconst C (v := 2) dL_law_640 rfl rfl ?_
  refine v_iaddN C i 2 rfl rfl dL_law_641 rfl ?_
  refine v_sld C S (i + 2) (by omega) dL_law_642 rfl ?_
  refine v_invV C (As := [.int (xs (i + 1)), .int (xs (i + 2))]) L_L_142 (c_X8_right (s := s) (t := z) (nm := nm) (nr := nr) hst hG hL (xs (i + 1)) (xs (i + 2)) hI.1.1.1 hI.1.1.2 hI.1.2.2.1.1 hI.1.2.2.1.2) (m0 (s := s) (t := z) (g := G.2.2.1) hL) rfl rfl rfl (by decide) ⟨hk.1, hk.2⟩ (by decide) dL_law_643 rfl kx_no (fun v w1 hv => ?_)
  obtain ⟨rfl, rfl, -⟩ := hv
  refine xx_mono (k' := k) (n' := n) (Nat.le_refl _) (Nat.le_refl _) ?_
  show V X G 7 _ _ _ _ _ _ [.int (pM (rightE z nr (xs (i + 1)) (xs (i + 2))) (rightR z nr (xs (i + 1)) (xs (i + 2))))]
  refine v_istore C (lv1 := [(6, .int (pM (rightE z nr (xs (i + 1)) (xs (i + 2))) (rightR z nr (xs (i + 1)) (xs (i + 2))))), (5, .int e), (4, .int (nI i)), (3, .ref (a 14 0)), (2, .ref (a 0 0)), (1, .ref (a 2 0)), (0, .ref b)]) dL_law_646 rfl (by decide) rfl ?_
  refine v_aload_n C dL_law_648 rfl 4 rfl ?_
  refine v_invV C (As := []) L_L_118 (c_X8_thrown (s := s) (t := (pU (rightE z nr (xs (i + 1)) (xs (i + 2))) (rightU (su z 45 0 0) nr (xs (i + 1)) (xs (i + 2))) z)) hst hG hL) (m0 (s := s) (t := (pU (rightE z nr (xs (i + 1)) (xs (i + 2))) (rightU (su z 45 0 0) nr (xs (i + 1)) (xs (i + 2))) z)) (g := G.2.2.1) hL) rfl rfl rfl (by decide) ⟨hk.1, hk.2⟩ (by decide) dL_law_649 rfl kx_no (fun v w1 hv => ?_)
  obtain ⟨rfl, rfl, -⟩ := hv
  refine xx_mono (k' := k) (n' := n) (Nat.le_refl _) (Nat.le_refl _) ?_
  show V X G 7 _ _ _ _ _ _ [.int ((pU (rightE z nr (xs (i + 1)) (xs (i + 2))) (rightU (su z 45 0 0) nr (xs (i + 1)) (xs (i + 2))) z) 45 0)]
  refine xx_top (y := e) hU ?_
  refine v_iload C dL_law_652 rfl 1 rfl ?_
  refine v_icmp_eq C (t := 659) dL_law_654 rfl rfl (fun _ => ?_) (fun h => absurd rfl h)
  refine v_iload C dL_law_659 rfl 1 rfl ?_
  refine v_if_ne C (t := 676) dL_law_661 rfl rfl (fun _ => ?_) (fun hz => ?_)
  · skip
    refine v_goto C (q := 2124) dL_law_676 rfl ?_
    exact xx_lv [2, 3, 4, 5, 6] rfl (kk _ ⟨a, La, s0, rfl, hL, ⟨rfl, rfl, rfl⟩, T0, T1, T2⟩)
  · skip
    refine v_aload_n C dL_law_664 rfl 3 rfl ?_
    refine v_iconst C (v := 0) dL_law_665 rfl rfl ?_
    refine v_lald C (m14 (s := s) (t := (pU (rightE z nr (xs (i + 1)) (xs (i + 2))) (rightU (su z 45 0 0) nr (xs (i + 1)) (xs (i + 2))) z)) (g := G.2.2.1) hL) (pk_in 0 1 (by decide)) dL_law_666 rfl ?_
    refine xx_topV (y := .long (s 60 0).toInt64) rfl ?_
    refine v_iload C dL_law_667 rfl 0 rfl ?_
    refine v_i2l C dL_law_669 rfl ?_
    refine v_lcmp C dL_law_670 rfl ?_
    refine xx_top (y := 0) (by rw [hR hz]; exact lg_c0) ?_
    refine v_if_eq C (t := 676) dL_law_671 rfl rfl (fun _ => ?_) (fun h => absurd rfl h)
    refine v_goto C (q := 2124) dL_law_676 rfl ?_
    exact xx_lv [2, 3, 4, 5, 6] rfl (kk _ ⟨a, La, s0, rfl, hL, ⟨rfl, rfl, rfl⟩, T0, T1, T2⟩)

theorem lwm_work {X : XS} {G : GG} {nme : String} {tb : List ExceptionTableEntry} {w : va_W} {k n : Nat} {Q : State → Prop} {b L i x m o : Nat} {xs : Nat → Int32} {s z : SS} {am ac ar nm nc nr nf ns dd c : Nat} {e : Int32} (C : Cx X G cL_law 7 RL (some .boolean) room_1 nme tb) (S : Scr X G b L xs) (hi : i + 5 ≤ L) (hW : Mid G x m o s z am ac ar w) (hI : Iv z nm nc nr nf ns dd c) (h5 : c < 600) (hk : k ≤ 601024 ∧ n ≤ 7293034) (hU : (pU (workE z nm nc nr (xs (i + 1)) (xs (i + 2)) (xs (i + 3))) (workU (su z 45 0 0) nm nc nr (xs (i + 1)) (xs (i + 2)) (xs (i + 3))) z) 45 0 = e) (hR : e = 0 → s 60 0 = pM (workE z nm nc nr (xs (i + 1)) (xs (i + 2)) (xs (i + 3))) (workR z nm nc nr (xs (i + 1)) (xs (i + 2)) (xs (i + 3)))) (kk : ∀ w', Mid G x m o s (pU (workE z nm nc nr (xs (i + 1)) (xs (i + 2)) (xs (i + 3))) (workU (su z 45 0 0) nm nc nr (xs (i + 1)) (xs (i + 2)) (xs (i + 3))) z) am ac ar w' → V X G 7 w' k n Q 2124 [(4, .int (nI i)), (3, .ref o), (2, .ref m), (1, .ref x), (0, .ref b)] []) : V X G 7 w k n Q 704 ((5, .int e) :: [(4, .int (nI i)), (3, .ref o), (2, .ref m), (1, .ref x), (0, .ref b)]) [] := by
  have hst : X.2.1.stackTraces = false := C.2.2.2.2.2.1
  have hG : GOK G := C.2.2.2.2.2.2.2.2.2.1
  obtain ⟨a, La, s0, rfl, hL, ⟨rfl, rfl, rfl⟩, T0, T1, T2⟩ := hW
  refine v_aload_n C dL_law_704 rfl 3 rfl ?_
  refine v_aload_n C dL_law_705 rfl 5 rfl ?_
  refine v_iload C dL_law_706 rfl 1 rfl ?_
  refine v_iconst C (v := 1) dL_law_708 rfl rfl ?_
  refine v_iaddN C i 1 rfl rfl dL_law_709 rfl ?_
  refine v_sld C S (i + 1) (by omega) dL_law_710 rfl ?_
  refine v_aload_n C dL_law_711 rfl 5 rfl ?_
  refine v_iload C dL_law_712 rfl 1 rfl ?_
  refine v_iconst C (v := 2) dL_law_714 rfl rfl ?_
  refine v_iaddN C i 2 rfl rfl dL_law_715 rfl ?_
  refine v_sld C S (i + 2) (by omega) dL_law_716 rfl ?_
  refine v_aload_n C dL_law_717 rfl 5 rfl ?_
  refine v_iload C dL_law_718 rfl 1 rfl ?_
  refine v_iconst C (v := 3) dL_law_720 rfl rfl ?_
  refine v_iaddN C i 3 rfl rfl dL_law_721 rfl ?_
  refine v_sld C S (i + 3) (by omega) dL_law_722 rfl ?_
  refine v_invV C (As := [.int (xs (i + 1)), .int (xs (i + 2)), .int (xs (i + 3))]) L_L_145 (c_X8_work (s := s) (t := z) (nm := nm) (nc := nc) (nr := nr) hst hG hL (xs (i + 1)) (xs (i + 2)) (xs (i + 3)) hI.1.1.1 hI.1.1.2 hI.1.2.1.1 hI.1.2.1.2 hI.1.2.2.1.1 hI.1.2.2.1.2 (fun i hi => vp_up (hI.2.2.2.2.1.2 i hi) hI.1.1.2)) (m0 (s := s) (t := z) (g := G.2.2.1) hL) rfl rfl rfl (by decide) ⟨hk.1, hk.2⟩ (by decide) dL_law_723 rfl kx_no (fun v w1 hv => ?_)
  obtain ⟨rfl, rfl, -⟩ := hv
  refine xx_mono (k' := k) (n' := n) (Nat.le_refl _) (Nat.le_refl _) ?_
  show V X G 7 _ _ _ _ _ _ [.int (pM (workE z nm nc nr (xs (i + 1)) (xs (i + 2)) (xs (i + 3))) (workR z nm nc nr (xs (i + 1)) (xs (i + 2)) (xs (i + 3))))]
  refine v_istore C (lv1 := [(6, .int (pM (workE z nm nc nr (xs (i + 1)) (xs (i + 2)) (xs (i + 3))) (workR z nm nc nr (xs (i + 1)) (xs (i + 2)) (xs (i + 3))))), (5, .int e), (4, .int (nI i)), (3, .ref (a 14 0)), (2, .ref (a 0 0)), (1, .ref (a 2 0)), (0, .ref b)]) dL_law_726 rfl (by decide) rfl ?_
  refine v_aload_n C dL_law_728 rfl 4 rfl ?_
  refine v_invV C (As := []) L_L_118 (c_X8_thrown (s := s) (t := (pU (workE z nm nc nr (xs (i + 1)) (xs (i + 2)) (xs (i + 3))) (workU (su z 45 0 0) nm nc nr (xs (i + 1)) (xs (i + 2)) (xs (i + 3))) z)) hst hG hL) (m0 (s := s) (t := (pU (workE z nm nc nr (xs (i + 1)) (xs (i + 2)) (xs (i + 3))) (workU (su z 45 0 0) nm nc nr (xs (i + 1)) (xs (i + 2)) (xs (i + 3))) z)) (g := G.2.2.1) hL) rfl rfl rfl (by decide) ⟨hk.1, hk.2⟩ (by decide) dL_law_729 rfl kx_no (fun v w1 hv => ?_)
  obtain ⟨rfl, rfl, -⟩ := hv
  refine xx_mono (k' := k) (n' := n) (Nat.le_refl _) (Nat.le_refl _) ?_
  show V X G 7 _ _ _ _ _ _ [.int ((pU (workE z nm nc nr (xs (i + 1)) (xs (i + 2)) (xs (i + 3))) (workU (su z 45 0 0) nm nc nr (xs (i + 1)) (xs (i + 2)) (xs (i + 3))) z) 45 0)]
  refine xx_top (y := e) hU ?_
  refine v_iload C dL_law_732 rfl 1 rfl ?_
  refine v_icmp_eq C (t := 739) dL_law_734 rfl rfl (fun _ => ?_) (fun h => absurd rfl h)
  refine v_iload C dL_law_739 rfl 1 rfl ?_
  refine v_if_ne C (t := 756) dL_law_741 rfl rfl (fun _ => ?_) (fun hz => ?_)
  · skip
    refine v_goto C (q := 2124) dL_law_756 rfl ?_
    exact xx_lv [2, 3, 4, 5, 6] rfl (kk _ ⟨a, La, s0, rfl, hL, ⟨rfl, rfl, rfl⟩, T0, T1, T2⟩)
  · skip
    refine v_aload_n C dL_law_744 rfl 3 rfl ?_
    refine v_iconst C (v := 0) dL_law_745 rfl rfl ?_
    refine v_lald C (m14 (s := s) (t := (pU (workE z nm nc nr (xs (i + 1)) (xs (i + 2)) (xs (i + 3))) (workU (su z 45 0 0) nm nc nr (xs (i + 1)) (xs (i + 2)) (xs (i + 3))) z)) (g := G.2.2.1) hL) (pk_in 0 1 (by decide)) dL_law_746 rfl ?_
    refine xx_topV (y := .long (s 60 0).toInt64) rfl ?_
    refine v_iload C dL_law_747 rfl 0 rfl ?_
    refine v_i2l C dL_law_749 rfl ?_
    refine v_lcmp C dL_law_750 rfl ?_
    refine xx_top (y := 0) (by rw [hR hz]; exact lg_c0) ?_
    refine v_if_eq C (t := 756) dL_law_751 rfl rfl (fun _ => ?_) (fun h => absurd rfl h)
    refine v_goto C (q := 2124) dL_law_756 rfl ?_
    exact xx_lv [2, 3, 4, 5, 6] rfl (kk _ ⟨a, La, s0, rfl, hL, ⟨rfl, rfl, rfl⟩, T0, T1, T2⟩)

theorem lwm_sample {X : XS} {G : GG} {nme : String} {tb : List ExceptionTableEntry} {w : va_W} {k n : Nat} {Q : State → Prop} {b L i x m o : Nat} {xs : Nat → Int32} {s z : SS} {am ac ar nm nc nr nf ns dd c : Nat} {e : Int32} (C : Cx X G cL_law 7 RL (some .boolean) room_1 nme tb) (S : Scr X G b L xs) (hi : i + 5 ≤ L) (hW : Mid G x m o s z am ac ar w) (hI : Iv z nm nc nr nf ns dd c) (h5 : c < 600) (hk : k ≤ 601024 ∧ n ≤ 7293034) (hU : (pU (sampleE z (xs (i + 1))) (su z 45 0 0) z) 45 0 = e) (hR : e = 0 → s 60 0 = pM (sampleE z (xs (i + 1))) (sampleR z (xs (i + 1)))) (kk : ∀ w', Mid G x m o s (pU (sampleE z (xs (i + 1))) (su z 45 0 0) z) am ac ar w' → V X G 7 w' k n Q 2124 [(4, .int (nI i)), (3, .ref o), (2, .ref m), (1, .ref x), (0, .ref b)] []) : V X G 7 w k n Q 772 ((5, .int e) :: [(4, .int (nI i)), (3, .ref o), (2, .ref m), (1, .ref x), (0, .ref b)]) [] := by
  have hst : X.2.1.stackTraces = false := C.2.2.2.2.2.1
  have hG : GOK G := C.2.2.2.2.2.2.2.2.2.1
  obtain ⟨a, La, s0, rfl, hL, ⟨rfl, rfl, rfl⟩, T0, T1, T2⟩ := hW
  refine v_aload_n C dL_law_772 rfl 3 rfl ?_
  refine v_aload_n C dL_law_773 rfl 5 rfl ?_
  refine v_iload C dL_law_774 rfl 1 rfl ?_
  refine v_iconst C (v := 1) dL_law_776 rfl rfl ?_
  refine v_iaddN C i 1 rfl rfl dL_law_777 rfl ?_
  refine v_sld C S (i + 1) (by omega) dL_law_778 rfl ?_
  refine v_invV C (As := [.int (xs (i + 1))]) L_L_148 (c_X8_sample (s := s) (t := z)  hst hG hL (xs (i + 1))) (m0 (s := s) (t := z) (g := G.2.2.1) hL) rfl rfl rfl (by decide) ⟨hk.1, hk.2⟩ (by decide) dL_law_779 rfl kx_no (fun v w1 hv => ?_)
  obtain ⟨rfl, rfl, -⟩ := hv
  refine xx_mono (k' := k) (n' := n) (Nat.le_refl _) (Nat.le_refl _) ?_
  show V X G 7 _ _ _ _ _ _ [.int (pM (sampleE z (xs (i + 1))) (sampleR z (xs (i + 1))))]
  refine v_istore C (lv1 := [(6, .int (pM (sampleE z (xs (i + 1))) (sampleR z (xs (i + 1))))), (5, .int e), (4, .int (nI i)), (3, .ref (a 14 0)), (2, .ref (a 0 0)), (1, .ref (a 2 0)), (0, .ref b)]) dL_law_782 rfl (by decide) rfl ?_
  refine v_aload_n C dL_law_784 rfl 4 rfl ?_
  refine v_invV C (As := []) L_L_118 (c_X8_thrown (s := s) (t := (pU (sampleE z (xs (i + 1))) (su z 45 0 0) z)) hst hG hL) (m0 (s := s) (t := (pU (sampleE z (xs (i + 1))) (su z 45 0 0) z)) (g := G.2.2.1) hL) rfl rfl rfl (by decide) ⟨hk.1, hk.2⟩ (by decide) dL_law_785 rfl kx_no (fun v w1 hv => ?_)
  obtain ⟨rfl, rfl, -⟩ := hv
  refine xx_mono (k' := k) (n' := n) (Nat.le_refl _) (Nat.le_refl _) ?_
  show V X G 7 _ _ _ _ _ _ [.int ((pU (sampleE z (xs (i + 1))) (su z 45 0 0) z) 45 0)]
  refine xx_top (y := e) hU ?_
  refine v_iload C dL_law_788 rfl 1 rfl ?_
  refine v_icmp_eq C (t := 795) dL_law_790 rfl rfl (fun _ => ?_) (fun h => absurd rfl h)
  refine v_iload C dL_law_795 rfl 1 rfl ?_
  refine v_if_ne C (t := 812) dL_law_797 rfl rfl (fun _ => ?_) (fun hz => ?_)
  · skip
    refine v_goto C (q := 2124) dL_law_812 rfl ?_
    exact xx_lv [2, 3, 4, 5, 6] rfl (kk _ ⟨a, La, s0, rfl, hL, ⟨rfl, rfl, rfl⟩, T0, T1, T2⟩)
  · skip
    refine v_aload_n C dL_law_800 rfl 3 rfl ?_
    refine v_iconst C (v := 0) dL_law_801 rfl rfl ?_
    refine v_lald C (m14 (s := s) (t := (pU (sampleE z (xs (i + 1))) (su z 45 0 0) z)) (g := G.2.2.1) hL) (pk_in 0 1 (by decide)) dL_law_802 rfl ?_
    refine xx_topV (y := .long (s 60 0).toInt64) rfl ?_
    refine v_iload C dL_law_803 rfl 0 rfl ?_
    refine v_i2l C dL_law_805 rfl ?_
    refine v_lcmp C dL_law_806 rfl ?_
    refine xx_top (y := 0) (by rw [hR hz]; exact lg_c0) ?_
    refine v_if_eq C (t := 812) dL_law_807 rfl rfl (fun _ => ?_) (fun h => absurd rfl h)
    refine v_goto C (q := 2124) dL_law_812 rfl ?_
    exact xx_lv [2, 3, 4, 5, 6] rfl (kk _ ⟨a, La, s0, rfl, hL, ⟨rfl, rfl, rfl⟩, T0, T1, T2⟩)

theorem lwm_salt {X : XS} {G : GG} {nme : String} {tb : List ExceptionTableEntry} {w : va_W} {k n : Nat} {Q : State → Prop} {b L i x m o : Nat} {xs : Nat → Int32} {s z : SS} {am ac ar nm nc nr nf ns dd c : Nat} {e : Int32} (C : Cx X G cL_law 7 RL (some .boolean) room_1 nme tb) (S : Scr X G b L xs) (hi : i + 5 ≤ L) (hW : Mid G x m o s z am ac ar w) (hI : Iv z nm nc nr nf ns dd c) (h5 : c < 600) (hk : k ≤ 601024 ∧ n ≤ 7293034) (hU : (pU (saltE z ns (xs (i + 1)) (xs (i + 2)) (xs (i + 3))) (saltU (su z 45 0 0) ns (xs (i + 1)) (xs (i + 2)) (xs (i + 3))) z) 45 0 = e) (hR : e = 0 → s 60 0 = pM (saltE z ns (xs (i + 1)) (xs (i + 2)) (xs (i + 3))) (saltR z ns (xs (i + 1)) (xs (i + 2)) (xs (i + 3)))) (kk : ∀ w', Mid G x m o s (pU (saltE z ns (xs (i + 1)) (xs (i + 2)) (xs (i + 3))) (saltU (su z 45 0 0) ns (xs (i + 1)) (xs (i + 2)) (xs (i + 3))) z) am ac ar w' → V X G 7 w' k n Q 2124 [(4, .int (nI i)), (3, .ref o), (2, .ref m), (1, .ref x), (0, .ref b)] []) : V X G 7 w k n Q 840 ((5, .int e) :: [(4, .int (nI i)), (3, .ref o), (2, .ref m), (1, .ref x), (0, .ref b)]) [] := by
  have hst : X.2.1.stackTraces = false := C.2.2.2.2.2.1
  have hG : GOK G := C.2.2.2.2.2.2.2.2.2.1
  obtain ⟨a, La, s0, rfl, hL, ⟨rfl, rfl, rfl⟩, T0, T1, T2⟩ := hW
  refine v_aload_n C dL_law_840 rfl 3 rfl ?_
  refine v_aload_n C dL_law_841 rfl 5 rfl ?_
  refine v_iload C dL_law_842 rfl 1 rfl ?_
  refine v_iconst C (v := 1) dL_law_844 rfl rfl ?_
  refine v_iaddN C i 1 rfl rfl dL_law_845 rfl ?_
  refine v_sld C S (i + 1) (by omega) dL_law_846 rfl ?_
  refine v_aload_n C dL_law_847 rfl 5 rfl ?_
  refine v_iload C dL_law_848 rfl 1 rfl ?_
  refine v_iconst C (v := 2) dL_law_850 rfl rfl ?_
  refine v_iaddN C i 2 rfl rfl dL_law_851 rfl ?_
  refine v_sld C S (i + 2) (by omega) dL_law_852 rfl ?_
  refine v_aload_n C dL_law_853 rfl 5 rfl ?_
  refine v_iload C dL_law_854 rfl 1 rfl ?_
  refine v_iconst C (v := 3) dL_law_856 rfl rfl ?_
  refine v_iaddN C i 3 rfl rfl dL_law_857 rfl ?_
  refine v_sld C S (i + 3) (by omega) dL_law_858 rfl ?_
  refine v_invV C (As := [.int (xs (i + 1)), .int (xs (i + 2)), .int (xs (i + 3))]) L_L_151 (c_X8_salt (s := s) (t := z) (nm := nm) (ns := ns) hst hG hL (xs (i + 1)) (xs (i + 2)) (xs (i + 3)) hI.1.1.1 hI.1.1.2 hI.1.2.2.2.2.1.1 (by have := hI.1.2.2.2.2.1.2; omega)) (m0 (s := s) (t := z) (g := G.2.2.1) hL) rfl rfl rfl (by decide) ⟨hk.1, hk.2⟩ (by decide) dL_law_859 rfl kx_no (fun v w1 hv => ?_)
  obtain ⟨rfl, rfl, -⟩ := hv
  refine xx_mono (k' := k) (n' := n) (Nat.le_refl _) (Nat.le_refl _) ?_
  show V X G 7 _ _ _ _ _ _ [.int (pM (saltE z ns (xs (i + 1)) (xs (i + 2)) (xs (i + 3))) (saltR z ns (xs (i + 1)) (xs (i + 2)) (xs (i + 3))))]
  refine v_istore C (lv1 := [(6, .int (pM (saltE z ns (xs (i + 1)) (xs (i + 2)) (xs (i + 3))) (saltR z ns (xs (i + 1)) (xs (i + 2)) (xs (i + 3))))), (5, .int e), (4, .int (nI i)), (3, .ref (a 14 0)), (2, .ref (a 0 0)), (1, .ref (a 2 0)), (0, .ref b)]) dL_law_862 rfl (by decide) rfl ?_
  refine v_aload_n C dL_law_864 rfl 4 rfl ?_
  refine v_invV C (As := []) L_L_118 (c_X8_thrown (s := s) (t := (pU (saltE z ns (xs (i + 1)) (xs (i + 2)) (xs (i + 3))) (saltU (su z 45 0 0) ns (xs (i + 1)) (xs (i + 2)) (xs (i + 3))) z)) hst hG hL) (m0 (s := s) (t := (pU (saltE z ns (xs (i + 1)) (xs (i + 2)) (xs (i + 3))) (saltU (su z 45 0 0) ns (xs (i + 1)) (xs (i + 2)) (xs (i + 3))) z)) (g := G.2.2.1) hL) rfl rfl rfl (by decide) ⟨hk.1, hk.2⟩ (by decide) dL_law_865 rfl kx_no (fun v w1 hv => ?_)
  obtain ⟨rfl, rfl, -⟩ := hv
  refine xx_mono (k' := k) (n' := n) (Nat.le_refl _) (Nat.le_refl _) ?_
  show V X G 7 _ _ _ _ _ _ [.int ((pU (saltE z ns (xs (i + 1)) (xs (i + 2)) (xs (i + 3))) (saltU (su z 45 0 0) ns (xs (i + 1)) (xs (i + 2)) (xs (i + 3))) z) 45 0)]
  refine xx_top (y := e) hU ?_
  refine v_iload C dL_law_868 rfl 1 rfl ?_
  refine v_icmp_eq C (t := 875) dL_law_870 rfl rfl (fun _ => ?_) (fun h => absurd rfl h)
  refine v_iload C dL_law_875 rfl 1 rfl ?_
  refine v_if_ne C (t := 892) dL_law_877 rfl rfl (fun _ => ?_) (fun hz => ?_)
  · skip
    refine v_goto C (q := 2124) dL_law_892 rfl ?_
    exact xx_lv [2, 3, 4, 5, 6] rfl (kk _ ⟨a, La, s0, rfl, hL, ⟨rfl, rfl, rfl⟩, T0, T1, T2⟩)
  · skip
    refine v_aload_n C dL_law_880 rfl 3 rfl ?_
    refine v_iconst C (v := 0) dL_law_881 rfl rfl ?_
    refine v_lald C (m14 (s := s) (t := (pU (saltE z ns (xs (i + 1)) (xs (i + 2)) (xs (i + 3))) (saltU (su z 45 0 0) ns (xs (i + 1)) (xs (i + 2)) (xs (i + 3))) z)) (g := G.2.2.1) hL) (pk_in 0 1 (by decide)) dL_law_882 rfl ?_
    refine xx_topV (y := .long (s 60 0).toInt64) rfl ?_
    refine v_iload C dL_law_883 rfl 0 rfl ?_
    refine v_i2l C dL_law_885 rfl ?_
    refine v_lcmp C dL_law_886 rfl ?_
    refine xx_top (y := 0) (by rw [hR hz]; exact lg_c0) ?_
    refine v_if_eq C (t := 892) dL_law_887 rfl rfl (fun _ => ?_) (fun h => absurd rfl h)
    refine v_goto C (q := 2124) dL_law_892 rfl ?_
    exact xx_lv [2, 3, 4, 5, 6] rfl (kk _ ⟨a, La, s0, rfl, hL, ⟨rfl, rfl, rfl⟩, T0, T1, T2⟩)

theorem lwm_brass {X : XS} {G : GG} {nme : String} {tb : List ExceptionTableEntry} {w : va_W} {k n : Nat} {Q : State → Prop} {b L i x m o : Nat} {xs : Nat → Int32} {s z : SS} {am ac ar nm nc nr nf ns dd c : Nat} {e : Int32} (C : Cx X G cL_law 7 RL (some .boolean) room_1 nme tb) (S : Scr X G b L xs) (hi : i + 5 ≤ L) (hW : Mid G x m o s z am ac ar w) (hI : Iv z nm nc nr nf ns dd c) (h5 : c < 600) (hk : k ≤ 601024 ∧ n ≤ 7293034) (hU : (pU (brassE z (xs (i + 1)) (xs (i + 2))) (brassU (su z 45 0 0) (xs (i + 1)) (xs (i + 2))) z) 45 0 = e) (hR : e = 0 → s 60 0 = pM (brassE z (xs (i + 1)) (xs (i + 2))) (brassR z (xs (i + 1)) (xs (i + 2)))) (kk : ∀ w', Mid G x m o s (pU (brassE z (xs (i + 1)) (xs (i + 2))) (brassU (su z 45 0 0) (xs (i + 1)) (xs (i + 2))) z) am ac ar w' → V X G 7 w' k n Q 2124 [(4, .int (nI i)), (3, .ref o), (2, .ref m), (1, .ref x), (0, .ref b)] []) : V X G 7 w k n Q 914 ((5, .int e) :: [(4, .int (nI i)), (3, .ref o), (2, .ref m), (1, .ref x), (0, .ref b)]) [] := by
  have hst : X.2.1.stackTraces = false := C.2.2.2.2.2.1
  have hG : GOK G := C.2.2.2.2.2.2.2.2.2.1
  obtain ⟨a, La, s0, rfl, hL, ⟨rfl, rfl, rfl⟩, T0, T1, T2⟩ := hW
  refine v_aload_n C dL_law_914 rfl 3 rfl ?_
  refine v_aload_n C dL_law_915 rfl 5 rfl ?_
  refine v_iload C dL_law_916 rfl 1 rfl ?_
  refine v_iconst C (v := 1) dL_law_918 rfl rfl ?_
  refine v_iaddN C i 1 rfl rfl dL_law_919 rfl ?_
  refine v_sld C S (i + 1) (by omega) dL_law_920 rfl ?_
  refine v_aload_n C dL_law_921 rfl 5 rfl ?_
  refine v_iload C dL_law_922 rfl 1 rfl ?_
  refine v_iconst C (v := 2) dL_law_924 rfl rfl ?_
  refine v_iaddN C i 2 rfl rfl dL_law_925 rfl ?_
  refine v_sld C S (i + 2) (by omega) dL_law_926 rfl ?_
  refine v_invV C (As := [.int (xs (i + 1)), .int (xs (i + 2))]) L_L_154 (c_X8_brass (s := s) (t := z) (nm := nm) hst hG hL (xs (i + 1)) (xs (i + 2)) hI.1.1.1 hI.1.1.2) (m0 (s := s) (t := z) (g := G.2.2.1) hL) rfl rfl rfl (by decide) ⟨hk.1, hk.2⟩ (by decide) dL_law_927 rfl kx_no (fun v w1 hv => ?_)
  obtain ⟨rfl, rfl, -⟩ := hv
  refine xx_mono (k' := k) (n' := n) (Nat.le_refl _) (Nat.le_refl _) ?_
  show V X G 7 _ _ _ _ _ _ [.int (pM (brassE z (xs (i + 1)) (xs (i + 2))) (brassR z (xs (i + 1)) (xs (i + 2))))]
  refine v_istore C (lv1 := [(6, .int (pM (brassE z (xs (i + 1)) (xs (i + 2))) (brassR z (xs (i + 1)) (xs (i + 2))))), (5, .int e), (4, .int (nI i)), (3, .ref (a 14 0)), (2, .ref (a 0 0)), (1, .ref (a 2 0)), (0, .ref b)]) dL_law_930 rfl (by decide) rfl ?_
  refine v_aload_n C dL_law_932 rfl 4 rfl ?_
  refine v_invV C (As := []) L_L_118 (c_X8_thrown (s := s) (t := (pU (brassE z (xs (i + 1)) (xs (i + 2))) (brassU (su z 45 0 0) (xs (i + 1)) (xs (i + 2))) z)) hst hG hL) (m0 (s := s) (t := (pU (brassE z (xs (i + 1)) (xs (i + 2))) (brassU (su z 45 0 0) (xs (i + 1)) (xs (i + 2))) z)) (g := G.2.2.1) hL) rfl rfl rfl (by decide) ⟨hk.1, hk.2⟩ (by decide) dL_law_933 rfl kx_no (fun v w1 hv => ?_)
  obtain ⟨rfl, rfl, -⟩ := hv
  refine xx_mono (k' := k) (n' := n) (Nat.le_refl _) (Nat.le_refl _) ?_
  show V X G 7 _ _ _ _ _ _ [.int ((pU (brassE z (xs (i + 1)) (xs (i + 2))) (brassU (su z 45 0 0) (xs (i + 1)) (xs (i + 2))) z) 45 0)]
  refine xx_top (y := e) hU ?_
  refine v_iload C dL_law_936 rfl 1 rfl ?_
  refine v_icmp_eq C (t := 943) dL_law_938 rfl rfl (fun _ => ?_) (fun h => absurd rfl h)
  refine v_iload C dL_law_943 rfl 1 rfl ?_
  refine v_if_ne C (t := 960) dL_law_945 rfl rfl (fun _ => ?_) (fun hz => ?_)
  · skip
    refine v_goto C (q := 2124) dL_law_960 rfl ?_
    exact xx_lv [2, 3, 4, 5, 6] rfl (kk _ ⟨a, La, s0, rfl, hL, ⟨rfl, rfl, rfl⟩, T0, T1, T2⟩)
  · skip
    refine v_aload_n C dL_law_948 rfl 3 rfl ?_
    refine v_iconst C (v := 0) dL_law_949 rfl rfl ?_
    refine v_lald C (m14 (s := s) (t := (pU (brassE z (xs (i + 1)) (xs (i + 2))) (brassU (su z 45 0 0) (xs (i + 1)) (xs (i + 2))) z)) (g := G.2.2.1) hL) (pk_in 0 1 (by decide)) dL_law_950 rfl ?_
    refine xx_topV (y := .long (s 60 0).toInt64) rfl ?_
    refine v_iload C dL_law_951 rfl 0 rfl ?_
    refine v_i2l C dL_law_953 rfl ?_
    refine v_lcmp C dL_law_954 rfl ?_
    refine xx_top (y := 0) (by rw [hR hz]; exact lg_c0) ?_
    refine v_if_eq C (t := 960) dL_law_955 rfl rfl (fun _ => ?_) (fun h => absurd rfl h)
    refine v_goto C (q := 2124) dL_law_960 rfl ?_
    exact xx_lv [2, 3, 4, 5, 6] rfl (kk _ ⟨a, La, s0, rfl, hL, ⟨rfl, rfl, rfl⟩, T0, T1, T2⟩)

theorem lwm_sell {X : XS} {G : GG} {nme : String} {tb : List ExceptionTableEntry} {w : va_W} {k n : Nat} {Q : State → Prop} {b L i x m o : Nat} {xs : Nat → Int32} {s z : SS} {am ac ar nm nc nr nf ns dd c : Nat} {e : Int32} (C : Cx X G cL_law 7 RL (some .boolean) room_1 nme tb) (S : Scr X G b L xs) (hi : i + 5 ≤ L) (hW : Mid G x m o s z am ac ar w) (hI : Iv z nm nc nr nf ns dd c) (h5 : c < 600) (hk : k ≤ 601024 ∧ n ≤ 7293034) (hU : (pU (sellE z (xs (i + 1)) (xs (i + 2))) (sellU (su z 45 0 0) (xs (i + 1)) (xs (i + 2))) z) 45 0 = e) (hR : e = 0 → s 60 0 = pM (sellE z (xs (i + 1)) (xs (i + 2))) (sellR z (xs (i + 1)) (xs (i + 2)))) (kk : ∀ w', Mid G x m o s (pU (sellE z (xs (i + 1)) (xs (i + 2))) (sellU (su z 45 0 0) (xs (i + 1)) (xs (i + 2))) z) am ac ar w' → V X G 7 w' k n Q 2124 [(4, .int (nI i)), (3, .ref o), (2, .ref m), (1, .ref x), (0, .ref b)] []) : V X G 7 w k n Q 982 ((5, .int e) :: [(4, .int (nI i)), (3, .ref o), (2, .ref m), (1, .ref x), (0, .ref b)]) [] := by
  have hst : X.2.1.stackTraces = false := C.2.2.2.2.2.1
  have hG : GOK G := C.2.2.2.2.2.2.2.2.2.1
  obtain ⟨a, La, s0, rfl, hL, ⟨rfl, rfl, rfl⟩, T0, T1, T2⟩ := hW
  refine v_aload_n C dL_law_982 rfl 3 rfl ?_
  refine v_aload_n C dL_law_983 rfl 5 rfl ?_
  refine v_iload C dL_law_984 rfl 1 rfl ?_
  refine v_iconst C (v := 1) dL_law_986 rfl rfl ?_
  refine v_iaddN C i 1 rfl rfl dL_law_987 rfl ?_
  refine v_sld C S (i + 1) (by omega) dL_law_988 rfl ?_
  refine v_aload_n C dL_law_989 rfl 5 rfl ?_
  refine v_iload C dL_law_990 rfl 1 rfl ?_
  refine v_iconst C (v := 2) dL_law_992 rfl rfl ?_
  refine v_iaddN C i 2 rfl rfl dL_law_993 rfl ?_
  refine v_sld C S (i + 2) (by omega) dL_law_994 rfl ?_
  refine v_invV C (As := [.int (xs (i + 1)), .int (xs (i + 2))]) L_L_157 (c_X8_sell (s := s) (t := z) (nm := nm) hst hG hL (xs (i + 1)) (xs (i + 2)) hI.1.1.1 hI.1.1.2) (m0 (s := s) (t := z) (g := G.2.2.1) hL) rfl rfl rfl (by decide) ⟨hk.1, hk.2⟩ (by decide) dL_law_995 rfl kx_no (fun v w1 hv => ?_)
  obtain ⟨rfl, rfl, -⟩ := hv
  refine xx_mono (k' := k) (n' := n) (Nat.le_refl _) (Nat.le_refl _) ?_
  show V X G 7 _ _ _ _ _ _ [.int (pM (sellE z (xs (i + 1)) (xs (i + 2))) (sellR z (xs (i + 1)) (xs (i + 2))))]
  refine v_istore C (lv1 := [(6, .int (pM (sellE z (xs (i + 1)) (xs (i + 2))) (sellR z (xs (i + 1)) (xs (i + 2))))), (5, .int e), (4, .int (nI i)), (3, .ref (a 14 0)), (2, .ref (a 0 0)), (1, .ref (a 2 0)), (0, .ref b)]) dL_law_998 rfl (by decide) rfl ?_
  refine v_aload_n C dL_law_1000 rfl 4 rfl ?_
  refine v_invV C (As := []) L_L_118 (c_X8_thrown (s := s) (t := (pU (sellE z (xs (i + 1)) (xs (i + 2))) (sellU (su z 45 0 0) (xs (i + 1)) (xs (i + 2))) z)) hst hG hL) (m0 (s := s) (t := (pU (sellE z (xs (i + 1)) (xs (i + 2))) (sellU (su z 45 0 0) (xs (i + 1)) (xs (i + 2))) z)) (g := G.2.2.1) hL) rfl rfl rfl (by decide) ⟨hk.1, hk.2⟩ (by decide) dL_law_1001 rfl kx_no (fun v w1 hv => ?_)
  obtain ⟨rfl, rfl, -⟩ := hv
  refine xx_mono (k' := k) (n' := n) (Nat.le_refl _) (Nat.le_refl _) ?_
  show V X G 7 _ _ _ _ _ _ [.int ((pU (sellE z (xs (i + 1)) (xs (i + 2))) (sellU (su z 45 0 0) (xs (i + 1)) (xs (i + 2))) z) 45 0)]
  refine xx_top (y := e) hU ?_
  refine v_iload C dL_law_1004 rfl 1 rfl ?_
  refine v_icmp_eq C (t := 1011) dL_law_1006 rfl rfl (fun _ => ?_) (fun h => absurd rfl h)
  refine v_iload C dL_law_1011 rfl 1 rfl ?_
  refine v_if_ne C (t := 1028) dL_law_1013 rfl rfl (fun _ => ?_) (fun hz => ?_)
  · skip
    refine v_goto C (q := 2124) dL_law_1028 rfl ?_
    exact xx_lv [2, 3, 4, 5, 6] rfl (kk _ ⟨a, La, s0, rfl, hL, ⟨rfl, rfl, rfl⟩, T0, T1, T2⟩)
  · skip
    refine v_aload_n C dL_law_1016 rfl 3 rfl ?_
    refine v_iconst C (v := 0) dL_law_1017 rfl rfl ?_
    refine v_lald C (m14 (s := s) (t := (pU (sellE z (xs (i + 1)) (xs (i + 2))) (sellU (su z 45 0 0) (xs (i + 1)) (xs (i + 2))) z)) (g := G.2.2.1) hL) (pk_in 0 1 (by decide)) dL_law_1018 rfl ?_
    refine xx_topV (y := .long (s 60 0).toInt64) rfl ?_
    refine v_iload C dL_law_1019 rfl 0 rfl ?_
    refine v_i2l C dL_law_1021 rfl ?_
    refine v_lcmp C dL_law_1022 rfl ?_
    refine xx_top (y := 0) (by rw [hR hz]; exact lg_c0) ?_
    refine v_if_eq C (t := 1028) dL_law_1023 rfl rfl (fun _ => ?_) (fun h => absurd rfl h)
    refine v_goto C (q := 2124) dL_law_1028 rfl ?_
    exact xx_lv [2, 3, 4, 5, 6] rfl (kk _ ⟨a, La, s0, rfl, hL, ⟨rfl, rfl, rfl⟩, T0, T1, T2⟩)

theorem lwm_rate {X : XS} {G : GG} {nme : String} {tb : List ExceptionTableEntry} {w : va_W} {k n : Nat} {Q : State → Prop} {b L i x m o : Nat} {xs : Nat → Int32} {s z : SS} {am ac ar nm nc nr nf ns dd c : Nat} {e : Int32} (C : Cx X G cL_law 7 RL (some .boolean) room_1 nme tb) (S : Scr X G b L xs) (hi : i + 5 ≤ L) (hW : Mid G x m o s z am ac ar w) (hI : Iv z nm nc nr nf ns dd c) (h5 : c < 600) (hk : k ≤ 601024 ∧ n ≤ 7293034) (hU : (pU (rateE z (xs (i + 1))) (rateU (su z 45 0 0) (xs (i + 1))) z) 45 0 = e) (hR : e = 0 → s 60 0 = pM (rateE z (xs (i + 1))) (rateR z (xs (i + 1)))) (kk : ∀ w', Mid G x m o s (pU (rateE z (xs (i + 1))) (rateU (su z 45 0 0) (xs (i + 1))) z) am ac ar w' → V X G 7 w' k n Q 2124 [(4, .int (nI i)), (3, .ref o), (2, .ref m), (1, .ref x), (0, .ref b)] []) : V X G 7 w k n Q 1044 ((5, .int e) :: [(4, .int (nI i)), (3, .ref o), (2, .ref m), (1, .ref x), (0, .ref b)]) [] := by
  have hst : X.2.1.stackTraces = false := C.2.2.2.2.2.1
  have hG : GOK G := C.2.2.2.2.2.2.2.2.2.1
  obtain ⟨a, La, s0, rfl, hL, ⟨rfl, rfl, rfl⟩, T0, T1, T2⟩ := hW
  refine v_aload_n C dL_law_1044 rfl 3 rfl ?_
  refine v_aload_n C dL_law_1045 rfl 5 rfl ?_
  refine v_iload C dL_law_1046 rfl 1 rfl ?_
  refine v_iconst C (v := 1) dL_law_1048 rfl rfl ?_
  refine v_iaddN C i 1 rfl rfl dL_law_1049 rfl ?_
  refine v_sld C S (i + 1) (by omega) dL_law_1050 rfl ?_
  refine v_invV C (As := [.int (xs (i + 1))]) L_L_160 (c_X8_rate (s := s) (t := z)  hst hG hL (xs (i + 1))) (m0 (s := s) (t := z) (g := G.2.2.1) hL) rfl rfl rfl (by decide) ⟨hk.1, hk.2⟩ (by decide) dL_law_1051 rfl kx_no (fun v w1 hv => ?_)
  obtain ⟨rfl, rfl, -⟩ := hv
  refine xx_mono (k' := k) (n' := n) (Nat.le_refl _) (Nat.le_refl _) ?_
  show V X G 7 _ _ _ _ _ _ [.int (pM (rateE z (xs (i + 1))) (rateR z (xs (i + 1))))]
  refine v_istore C (lv1 := [(6, .int (pM (rateE z (xs (i + 1))) (rateR z (xs (i + 1))))), (5, .int e), (4, .int (nI i)), (3, .ref (a 14 0)), (2, .ref (a 0 0)), (1, .ref (a 2 0)), (0, .ref b)]) dL_law_1054 rfl (by decide) rfl ?_
  refine v_aload_n C dL_law_1056 rfl 4 rfl ?_
  refine v_invV C (As := []) L_L_118 (c_X8_thrown (s := s) (t := (pU (rateE z (xs (i + 1))) (rateU (su z 45 0 0) (xs (i + 1))) z)) hst hG hL) (m0 (s := s) (t := (pU (rateE z (xs (i + 1))) (rateU (su z 45 0 0) (xs (i + 1))) z)) (g := G.2.2.1) hL) rfl rfl rfl (by decide) ⟨hk.1, hk.2⟩ (by decide) dL_law_1057 rfl kx_no (fun v w1 hv => ?_)
  obtain ⟨rfl, rfl, -⟩ := hv
  refine xx_mono (k' := k) (n' := n) (Nat.le_refl _) (Nat.le_refl _) ?_
  show V X G 7 _ _ _ _ _ _ [.int ((pU (rateE z (xs (i + 1))) (rateU (su z 45 0 0) (xs (i + 1))) z) 45 0)]
  refine xx_top (y := e) hU ?_
  refine v_iload C dL_law_1060 rfl 1 rfl ?_
  refine v_icmp_eq C (t := 1067) dL_law_1062 rfl rfl (fun _ => ?_) (fun h => absurd rfl h)
  refine v_iload C dL_law_1067 rfl 1 rfl ?_
  refine v_if_ne C (t := 1084) dL_law_1069 rfl rfl (fun _ => ?_) (fun hz => ?_)
  · skip
    refine v_goto C (q := 2124) dL_law_1084 rfl ?_
    exact xx_lv [2, 3, 4, 5, 6] rfl (kk _ ⟨a, La, s0, rfl, hL, ⟨rfl, rfl, rfl⟩, T0, T1, T2⟩)
  · skip
    refine v_aload_n C dL_law_1072 rfl 3 rfl ?_
    refine v_iconst C (v := 0) dL_law_1073 rfl rfl ?_
    refine v_lald C (m14 (s := s) (t := (pU (rateE z (xs (i + 1))) (rateU (su z 45 0 0) (xs (i + 1))) z)) (g := G.2.2.1) hL) (pk_in 0 1 (by decide)) dL_law_1074 rfl ?_
    refine xx_topV (y := .long (s 60 0).toInt64) rfl ?_
    refine v_iload C dL_law_1075 rfl 0 rfl ?_
    refine v_i2l C dL_law_1077 rfl ?_
    refine v_lcmp C dL_law_1078 rfl ?_
    refine xx_top (y := 0) (by rw [hR hz]; exact lg_c0) ?_
    refine v_if_eq C (t := 1084) dL_law_1079 rfl rfl (fun _ => ?_) (fun h => absurd rfl h)
    refine v_goto C (q := 2124) dL_law_1084 rfl ?_
    exact xx_lv [2, 3, 4, 5, 6] rfl (kk _ ⟨a, La, s0, rfl, hL, ⟨rfl, rfl, rfl⟩, T0, T1, T2⟩)

theorem lwm_freight {X : XS} {G : GG} {nme : String} {tb : List ExceptionTableEntry} {w : va_W} {k n : Nat} {Q : State → Prop} {b L i x m o : Nat} {xs : Nat → Int32} {s z : SS} {am ac ar nm nc nr nf ns dd c : Nat} {e : Int32} (C : Cx X G cL_law 7 RL (some .boolean) room_1 nme tb) (S : Scr X G b L xs) (hi : i + 5 ≤ L) (hW : Mid G x m o s z am ac ar w) (hI : Iv z nm nc nr nf ns dd c) (h5 : c < 600) (hk : k ≤ 601024 ∧ n ≤ 7293034) (hU : (pU (freightE z nf (xs (i + 1)) (xs (i + 2))) (freightU (su z 45 0 0) nf (xs (i + 1)) (xs (i + 2))) z) 45 0 = e) (kk : ∀ w', Mid G x m o s (pU (freightE z nf (xs (i + 1)) (xs (i + 2))) (freightU (su z 45 0 0) nf (xs (i + 1)) (xs (i + 2))) z) am ac ar w' → V X G 7 w' k n Q 2124 [(4, .int (nI i)), (3, .ref o), (2, .ref m), (1, .ref x), (0, .ref b)] []) : V X G 7 w k n Q 1105 ((5, .int e) :: [(4, .int (nI i)), (3, .ref o), (2, .ref m), (1, .ref x), (0, .ref b)]) [] := by
  have hst : X.2.1.stackTraces = false := C.2.2.2.2.2.1
  have hG : GOK G := C.2.2.2.2.2.2.2.2.2.1
  obtain ⟨a, La, s0, rfl, hL, ⟨rfl, rfl, rfl⟩, T0, T1, T2⟩ := hW
  refine v_aload_n C dL_law_1105 rfl 3 rfl ?_
  refine v_aload_n C dL_law_1106 rfl 5 rfl ?_
  refine v_iload C dL_law_1107 rfl 1 rfl ?_
  refine v_iconst C (v := 1) dL_law_1109 rfl rfl ?_
  refine v_iaddN C i 1 rfl rfl dL_law_1110 rfl ?_
  refine v_sld C S (i + 1) (by omega) dL_law_1111 rfl ?_
  refine v_aload_n C dL_law_1112 rfl 5 rfl ?_
  refine v_iload C dL_law_1113 rfl 1 rfl ?_
  refine v_iconst C (v := 2) dL_law_1115 rfl rfl ?_
  refine v_iaddN C i 2 rfl rfl dL_law_1116 rfl ?_
  refine v_sld C S (i + 2) (by omega) dL_law_1117 rfl ?_
  refine v_invV C (As := [.int (xs (i + 1)), .int (xs (i + 2))]) L_L_164 (c_X8_freight (s := s) (t := z) (nf := nf) hst hG hL (xs (i + 1)) (xs (i + 2)) hI.1.2.2.2.1.1 hI.1.2.2.2.1.2) (m0 (s := s) (t := z) (g := G.2.2.1) hL) rfl rfl rfl (by decide) ⟨hk.1, hk.2⟩ (by decide) dL_law_1118 rfl kx_no (fun v w1 hv => ?_)
  obtain ⟨rfl, rfl, -⟩ := hv
  refine xx_mono (k' := k) (n' := n) (Nat.le_refl _) (Nat.le_refl _) ?_
  show V X G 7 _ _ _ _ _ _ []
  refine v_aload_n C dL_law_1121 rfl 3 rfl ?_
  refine v_invV C (As := []) L_L_118 (c_X8_thrown (s := s) (t := (pU (freightE z nf (xs (i + 1)) (xs (i + 2))) (freightU (su z 45 0 0) nf (xs (i + 1)) (xs (i + 2))) z)) hst hG hL) (m0 (s := s) (t := (pU (freightE z nf (xs (i + 1)) (xs (i + 2))) (freightU (su z 45 0 0) nf (xs (i + 1)) (xs (i + 2))) z)) (g := G.2.2.1) hL) rfl rfl rfl (by decide) ⟨hk.1, hk.2⟩ (by decide) dL_law_1122 rfl kx_no (fun v w1 hv => ?_)
  obtain ⟨rfl, rfl, -⟩ := hv
  refine xx_mono (k' := k) (n' := n) (Nat.le_refl _) (Nat.le_refl _) ?_
  show V X G 7 _ _ _ _ _ _ [.int ((pU (freightE z nf (xs (i + 1)) (xs (i + 2))) (freightU (su z 45 0 0) nf (xs (i + 1)) (xs (i + 2))) z) 45 0)]
  refine xx_top (y := e) hU ?_
  refine v_iload C dL_law_1125 rfl 0 rfl ?_
  refine v_icmp_eq C (t := 1132) dL_law_1127 rfl rfl (fun _ => ?_) (fun h => absurd rfl h)
  refine v_goto C (q := 2124) dL_law_1132 rfl ?_
  exact xx_lv [1, 2, 3, 4, 5] rfl (kk _ ⟨a, La, s0, rfl, hL, ⟨rfl, rfl, rfl⟩, T0, T1, T2⟩)

theorem lwm_buy {X : XS} {G : GG} {nme : String} {tb : List ExceptionTableEntry} {w : va_W} {k n : Nat} {Q : State → Prop} {b L i x m o : Nat} {xs : Nat → Int32} {s z : SS} {am ac ar nm nc nr nf ns dd c : Nat} {e : Int32} (C : Cx X G cL_law 7 RL (some .boolean) room_1 nme tb) (S : Scr X G b L xs) (hi : i + 5 ≤ L) (hW : Mid G x m o s z am ac ar w) (hI : Iv z nm nc nr nf ns dd c) (h5 : c < 600) (hk : k ≤ 601024 ∧ n ≤ 7293034) (hU : (pU (buyE z (xs (i + 1)) (xs (i + 2))) (buyU (su z 45 0 0) (xs (i + 1)) (xs (i + 2))) z) 45 0 = e) (hR : e = 0 → s 60 0 = pM (buyE z (xs (i + 1)) (xs (i + 2))) (buyR z (xs (i + 1)) (xs (i + 2)))) (kk : ∀ w', Mid G x m o s (pU (buyE z (xs (i + 1)) (xs (i + 2))) (buyU (su z 45 0 0) (xs (i + 1)) (xs (i + 2))) z) am ac ar w' → V X G 7 w' k n Q 2124 [(4, .int (nI i)), (3, .ref o), (2, .ref m), (1, .ref x), (0, .ref b)] []) : V X G 7 w k n Q 1154 ((5, .int e) :: [(4, .int (nI i)), (3, .ref o), (2, .ref m), (1, .ref x), (0, .ref b)]) [] := by
  have hst : X.2.1.stackTraces = false := C.2.2.2.2.2.1
  have hG : GOK G := C.2.2.2.2.2.2.2.2.2.1
  obtain ⟨a, La, s0, rfl, hL, ⟨rfl, rfl, rfl⟩, T0, T1, T2⟩ := hW
  refine v_aload_n C dL_law_1154 rfl 3 rfl ?_
  refine v_aload_n C dL_law_1155 rfl 5 rfl ?_
  refine v_iload C dL_law_1156 rfl 1 rfl ?_
  refine v_iconst C (v := 1) dL_law_1158 rfl rfl ?_
  refine v_iaddN C i 1 rfl rfl dL_law_1159 rfl ?_
  refine v_sld C S (i + 1) (by omega) dL_law_1160 rfl ?_
  refine v_aload_n C dL_law_1161 rfl 5 rfl ?_
  refine v_iload C dL_law_1162 rfl 1 rfl ?_
  refine v_iconst C (v := 2) dL_law_1164 rfl rfl ?_
  refine v_iaddN C i 2 rfl rfl dL_law_1165 rfl ?_
  refine v_sld C S (i + 2) (by omega) dL_law_1166 rfl ?_
  refine v_invV C (As := [.int (xs (i + 1)), .int (xs (i + 2))]) L_L_167 (c_X8_buy (s := s) (t := z) (nm := nm) hst hG hL (xs (i + 1)) (xs (i + 2)) hI.1.1.1 hI.1.1.2) (m0 (s := s) (t := z) (g := G.2.2.1) hL) rfl rfl rfl (by decide) ⟨hk.1, hk.2⟩ (by decide) dL_law_1167 rfl kx_no (fun v w1 hv => ?_)
  obtain ⟨rfl, rfl, -⟩ := hv
  refine xx_mono (k' := k) (n' := n) (Nat.le_refl _) (Nat.le_refl _) ?_
  show V X G 7 _ _ _ _ _ _ [.int (pM (buyE z (xs (i + 1)) (xs (i + 2))) (buyR z (xs (i + 1)) (xs (i + 2))))]
  refine v_istore C (lv1 := [(6, .int (pM (buyE z (xs (i + 1)) (xs (i + 2))) (buyR z (xs (i + 1)) (xs (i + 2))))), (5, .int e), (4, .int (nI i)), (3, .ref (a 14 0)), (2, .ref (a 0 0)), (1, .ref (a 2 0)), (0, .ref b)]) dL_law_1170 rfl (by decide) rfl ?_
  refine v_aload_n C dL_law_1172 rfl 4 rfl ?_
  refine v_invV C (As := []) L_L_118 (c_X8_thrown (s := s) (t := (pU (buyE z (xs (i + 1)) (xs (i + 2))) (buyU (su z 45 0 0) (xs (i + 1)) (xs (i + 2))) z)) hst hG hL) (m0 (s := s) (t := (pU (buyE z (xs (i + 1)) (xs (i + 2))) (buyU (su z 45 0 0) (xs (i + 1)) (xs (i + 2))) z)) (g := G.2.2.1) hL) rfl rfl rfl (by decide) ⟨hk.1, hk.2⟩ (by decide) dL_law_1173 rfl kx_no (fun v w1 hv => ?_)
  obtain ⟨rfl, rfl, -⟩ := hv
  refine xx_mono (k' := k) (n' := n) (Nat.le_refl _) (Nat.le_refl _) ?_
  show V X G 7 _ _ _ _ _ _ [.int ((pU (buyE z (xs (i + 1)) (xs (i + 2))) (buyU (su z 45 0 0) (xs (i + 1)) (xs (i + 2))) z) 45 0)]
  refine xx_top (y := e) hU ?_
  refine v_iload C dL_law_1176 rfl 1 rfl ?_
  refine v_icmp_eq C (t := 1183) dL_law_1178 rfl rfl (fun _ => ?_) (fun h => absurd rfl h)
  refine v_iload C dL_law_1183 rfl 1 rfl ?_
  refine v_if_ne C (t := 1200) dL_law_1185 rfl rfl (fun _ => ?_) (fun hz => ?_)
  · skip
    refine v_goto C (q := 2124) dL_law_1200 rfl ?_
    exact xx_lv [2, 3, 4, 5, 6] rfl (kk _ ⟨a, La, s0, rfl, hL, ⟨rfl, rfl, rfl⟩, T0, T1, T2⟩)
  · skip
    refine v_aload_n C dL_law_1188 rfl 3 rfl ?_
    refine v_iconst C (v := 0) dL_law_1189 rfl rfl ?_
    refine v_lald C (m14 (s := s) (t := (pU (buyE z (xs (i + 1)) (xs (i + 2))) (buyU (su z 45 0 0) (xs (i + 1)) (xs (i + 2))) z)) (g := G.2.2.1) hL) (pk_in 0 1 (by decide)) dL_law_1190 rfl ?_
    refine xx_topV (y := .long (s 60 0).toInt64) rfl ?_
    refine v_iload C dL_law_1191 rfl 0 rfl ?_
    refine v_i2l C dL_law_1193 rfl ?_
    refine v_lcmp C dL_law_1194 rfl ?_
    refine xx_top (y := 0) (by rw [hR hz]; exact lg_c0) ?_
    refine v_if_eq C (t := 1200) dL_law_1195 rfl rfl (fun _ => ?_) (fun h => absurd rfl h)
    refine v_goto C (q := 2124) dL_law_1200 rfl ?_
    exact xx_lv [2, 3, 4, 5, 6] rfl (kk _ ⟨a, La, s0, rfl, hL, ⟨rfl, rfl, rfl⟩, T0, T1, T2⟩)

theorem lwm_back {X : XS} {G : GG} {nme : String} {tb : List ExceptionTableEntry} {w : va_W} {k n : Nat} {Q : State → Prop} {b L i x m o : Nat} {xs : Nat → Int32} {s z : SS} {am ac ar nm nc nr nf ns dd c : Nat} {e : Int32} (C : Cx X G cL_law 7 RL (some .boolean) room_1 nme tb) (S : Scr X G b L xs) (hi : i + 5 ≤ L) (hW : Mid G x m o s z am ac ar w) (hI : Iv z nm nc nr nf ns dd c) (h5 : c < 600) (hk : k ≤ 601024 ∧ n ≤ 7293034) (hU : (pU (backE z nm (xs (i + 1)) (xs (i + 2)) (xs (i + 3)) (xs (i + 4))) (backU (su z 45 0 0) nm (xs (i + 1)) (xs (i + 2)) (xs (i + 3)) (xs (i + 4))) z) 45 0 = e) (kk : ∀ w', Mid G x m o s (pU (backE z nm (xs (i + 1)) (xs (i + 2)) (xs (i + 3)) (xs (i + 4))) (backU (su z 45 0 0) nm (xs (i + 1)) (xs (i + 2)) (xs (i + 3)) (xs (i + 4))) z) am ac ar w' → V X G 7 w' k n Q 2124 [(4, .int (nI i)), (3, .ref o), (2, .ref m), (1, .ref x), (0, .ref b)] []) : V X G 7 w k n Q 1233 ((5, .int e) :: [(4, .int (nI i)), (3, .ref o), (2, .ref m), (1, .ref x), (0, .ref b)]) [] := by
  have hst : X.2.1.stackTraces = false := C.2.2.2.2.2.1
  have hG : GOK G := C.2.2.2.2.2.2.2.2.2.1
  obtain ⟨a, La, s0, rfl, hL, ⟨rfl, rfl, rfl⟩, T0, T1, T2⟩ := hW
  refine v_aload_n C dL_law_1233 rfl 3 rfl ?_
  refine v_aload_n C dL_law_1234 rfl 5 rfl ?_
  refine v_iload C dL_law_1235 rfl 1 rfl ?_
  refine v_iconst C (v := 1) dL_law_1237 rfl rfl ?_
  refine v_iaddN C i 1 rfl rfl dL_law_1238 rfl ?_
  refine v_sld C S (i + 1) (by omega) dL_law_1239 rfl ?_
  refine v_aload_n C dL_law_1240 rfl 5 rfl ?_
  refine v_iload C dL_law_1241 rfl 1 rfl ?_
  refine v_iconst C (v := 2) dL_law_1243 rfl rfl ?_
  refine v_iaddN C i 2 rfl rfl dL_law_1244 rfl ?_
  refine v_sld C S (i + 2) (by omega) dL_law_1245 rfl ?_
  refine v_aload_n C dL_law_1246 rfl 5 rfl ?_
  refine v_iload C dL_law_1247 rfl 1 rfl ?_
  refine v_iconst C (v := 3) dL_law_1249 rfl rfl ?_
  refine v_iaddN C i 3 rfl rfl dL_law_1250 rfl ?_
  refine v_sld C S (i + 3) (by omega) dL_law_1251 rfl ?_
  refine v_aload_n C dL_law_1252 rfl 5 rfl ?_
  refine v_iload C dL_law_1253 rfl 1 rfl ?_
  refine v_iconst C (v := 4) dL_law_1255 rfl rfl ?_
  refine v_iaddN C i 4 rfl rfl dL_law_1256 rfl ?_
  refine v_sld C S (i + 4) (by omega) dL_law_1257 rfl ?_
  refine v_invV C (As := [.int (xs (i + 1)), .int (xs (i + 2)), .int (xs (i + 3)), .int (xs (i + 4))]) L_L_171 (c_X8_back (s := s) (t := z) (nm := nm) hst hG hL (xs (i + 1)) (xs (i + 2)) (xs (i + 3)) (xs (i + 4)) hI.1.1.1 hI.1.1.2) (m0 (s := s) (t := z) (g := G.2.2.1) hL) rfl rfl rfl (by decide) ⟨hk.1, hk.2⟩ (by decide) dL_law_1258 rfl kx_no (fun v w1 hv => ?_)
  obtain ⟨rfl, rfl, -⟩ := hv
  refine xx_mono (k' := k) (n' := n) (Nat.le_refl _) (Nat.le_refl _) ?_
  show V X G 7 _ _ _ _ _ _ []
  refine v_aload_n C dL_law_1261 rfl 3 rfl ?_
  refine v_invV C (As := []) L_L_118 (c_X8_thrown (s := s) (t := (pU (backE z nm (xs (i + 1)) (xs (i + 2)) (xs (i + 3)) (xs (i + 4))) (backU (su z 45 0 0) nm (xs (i + 1)) (xs (i + 2)) (xs (i + 3)) (xs (i + 4))) z)) hst hG hL) (m0 (s := s) (t := (pU (backE z nm (xs (i + 1)) (xs (i + 2)) (xs (i + 3)) (xs (i + 4))) (backU (su z 45 0 0) nm (xs (i + 1)) (xs (i + 2)) (xs (i + 3)) (xs (i + 4))) z)) (g := G.2.2.1) hL) rfl rfl rfl (by decide) ⟨hk.1, hk.2⟩ (by decide) dL_law_1262 rfl kx_no (fun v w1 hv => ?_)
  obtain ⟨rfl, rfl, -⟩ := hv
  refine xx_mono (k' := k) (n' := n) (Nat.le_refl _) (Nat.le_refl _) ?_
  show V X G 7 _ _ _ _ _ _ [.int ((pU (backE z nm (xs (i + 1)) (xs (i + 2)) (xs (i + 3)) (xs (i + 4))) (backU (su z 45 0 0) nm (xs (i + 1)) (xs (i + 2)) (xs (i + 3)) (xs (i + 4))) z) 45 0)]
  refine xx_top (y := e) hU ?_
  refine v_iload C dL_law_1265 rfl 0 rfl ?_
  refine v_icmp_eq C (t := 1272) dL_law_1267 rfl rfl (fun _ => ?_) (fun h => absurd rfl h)
  refine v_goto C (q := 2124) dL_law_1272 rfl ?_
  exact xx_lv [1, 2, 3, 4, 5] rfl (kk _ ⟨a, La, s0, rfl, hL, ⟨rfl, rfl, rfl⟩, T0, T1, T2⟩)

theorem lwm_end {X : XS} {G : GG} {nme : String} {tb : List ExceptionTableEntry} {w : va_W} {k n : Nat} {Q : State → Prop} {b L i x m o : Nat} {xs : Nat → Int32} {s z : SS} {am ac ar nm nc nr nf ns dd c : Nat} {e : Int32} (C : Cx X G cL_law 7 RL (some .boolean) room_1 nme tb) (S : Scr X G b L xs) (hi : i + 5 ≤ L) (hW : Mid G x m o s z am ac ar w) (hI : Iv z nm nc nr nf ns dd c) (h5 : c < 600) (hk : k ≤ 601024 ∧ n ≤ 7293034) (hU : (pU (endE z (xs (i + 1)) (xs (i + 2))) (endU (su z 45 0 0) (xs (i + 1)) (xs (i + 2))) z) 45 0 = e) (hR : e = 0 → s 60 0 = pM (endE z (xs (i + 1)) (xs (i + 2))) (endR z (xs (i + 1)) (xs (i + 2)))) (kk : ∀ w', Mid G x m o s (pU (endE z (xs (i + 1)) (xs (i + 2))) (endU (su z 45 0 0) (xs (i + 1)) (xs (i + 2))) z) am ac ar w' → V X G 7 w' k n Q 2124 [(4, .int (nI i)), (3, .ref o), (2, .ref m), (1, .ref x), (0, .ref b)] []) : V X G 7 w k n Q 1294 ((5, .int e) :: [(4, .int (nI i)), (3, .ref o), (2, .ref m), (1, .ref x), (0, .ref b)]) [] := by
  have hst : X.2.1.stackTraces = false := C.2.2.2.2.2.1
  have hG : GOK G := C.2.2.2.2.2.2.2.2.2.1
  obtain ⟨a, La, s0, rfl, hL, ⟨rfl, rfl, rfl⟩, T0, T1, T2⟩ := hW
  refine v_aload_n C dL_law_1294 rfl 3 rfl ?_
  refine v_aload_n C dL_law_1295 rfl 5 rfl ?_
  refine v_iload C dL_law_1296 rfl 1 rfl ?_
  refine v_iconst C (v := 1) dL_law_1298 rfl rfl ?_
  refine v_iaddN C i 1 rfl rfl dL_law_1299 rfl ?_
  refine v_sld C S (i + 1) (by omega) dL_law_1300 rfl ?_
  refine v_aload_n C dL_law_1301 rfl 5 rfl ?_
  refine v_iload C dL_law_1302 rfl 1 rfl ?_
  refine v_iconst C (v := 2) dL_law_1304 rfl rfl ?_
  refine v_iaddN C i 2 rfl rfl dL_law_1305 rfl ?_
  refine v_sld C S (i + 2) (by omega) dL_law_1306 rfl ?_
  refine v_invV C (As := [.int (xs (i + 1)), .int (xs (i + 2))]) L_L_174 (c_X8_end (s := s) (t := z) (nm := nm) hst hG hL (xs (i + 1)) (xs (i + 2)) hI.1.1.1 hI.1.1.2) (m0 (s := s) (t := z) (g := G.2.2.1) hL) rfl rfl rfl (by decide) ⟨hk.1, hk.2⟩ (by decide) dL_law_1307 rfl kx_no (fun v w1 hv => ?_)
  obtain ⟨rfl, rfl, -⟩ := hv
  refine xx_mono (k' := k) (n' := n) (Nat.le_refl _) (Nat.le_refl _) ?_
  show V X G 7 _ _ _ _ _ _ [.int (pM (endE z (xs (i + 1)) (xs (i + 2))) (endR z (xs (i + 1)) (xs (i + 2))))]
  refine v_istore C (lv1 := [(6, .int (pM (endE z (xs (i + 1)) (xs (i + 2))) (endR z (xs (i + 1)) (xs (i + 2))))), (5, .int e), (4, .int (nI i)), (3, .ref (a 14 0)), (2, .ref (a 0 0)), (1, .ref (a 2 0)), (0, .ref b)]) dL_law_1310 rfl (by decide) rfl ?_
  refine v_aload_n C dL_law_1312 rfl 4 rfl ?_
  refine v_invV C (As := []) L_L_118 (c_X8_thrown (s := s) (t := (pU (endE z (xs (i + 1)) (xs (i + 2))) (endU (su z 45 0 0) (xs (i + 1)) (xs (i + 2))) z)) hst hG hL) (m0 (s := s) (t := (pU (endE z (xs (i + 1)) (xs (i + 2))) (endU (su z 45 0 0) (xs (i + 1)) (xs (i + 2))) z)) (g := G.2.2.1) hL) rfl rfl rfl (by decide) ⟨hk.1, hk.2⟩ (by decide) dL_law_1313 rfl kx_no (fun v w1 hv => ?_)
  obtain ⟨rfl, rfl, -⟩ := hv
  refine xx_mono (k' := k) (n' := n) (Nat.le_refl _) (Nat.le_refl _) ?_
  show V X G 7 _ _ _ _ _ _ [.int ((pU (endE z (xs (i + 1)) (xs (i + 2))) (endU (su z 45 0 0) (xs (i + 1)) (xs (i + 2))) z) 45 0)]
  refine xx_top (y := e) hU ?_
  refine v_iload C dL_law_1316 rfl 1 rfl ?_
  refine v_icmp_eq C (t := 1323) dL_law_1318 rfl rfl (fun _ => ?_) (fun h => absurd rfl h)
  refine v_iload C dL_law_1323 rfl 1 rfl ?_
  refine v_if_ne C (t := 1340) dL_law_1325 rfl rfl (fun _ => ?_) (fun hz => ?_)
  · skip
    refine v_goto C (q := 2124) dL_law_1340 rfl ?_
    exact xx_lv [2, 3, 4, 5, 6] rfl (kk _ ⟨a, La, s0, rfl, hL, ⟨rfl, rfl, rfl⟩, T0, T1, T2⟩)
  · skip
    refine v_aload_n C dL_law_1328 rfl 3 rfl ?_
    refine v_iconst C (v := 0) dL_law_1329 rfl rfl ?_
    refine v_lald C (m14 (s := s) (t := (pU (endE z (xs (i + 1)) (xs (i + 2))) (endU (su z 45 0 0) (xs (i + 1)) (xs (i + 2))) z)) (g := G.2.2.1) hL) (pk_in 0 1 (by decide)) dL_law_1330 rfl ?_
    refine xx_topV (y := .long (s 60 0).toInt64) rfl ?_
    refine v_iload C dL_law_1331 rfl 0 rfl ?_
    refine v_i2l C dL_law_1333 rfl ?_
    refine v_lcmp C dL_law_1334 rfl ?_
    refine xx_top (y := 0) (by rw [hR hz]; exact lg_c0) ?_
    refine v_if_eq C (t := 1340) dL_law_1335 rfl rfl (fun _ => ?_) (fun h => absurd rfl h)
    refine v_goto C (q := 2124) dL_law_1340 rfl ?_
    exact xx_lv [2, 3, 4, 5, 6] rfl (kk _ ⟨a, La, s0, rfl, hL, ⟨rfl, rfl, rfl⟩, T0, T1, T2⟩)

theorem lwm_trade {X : XS} {G : GG} {nme : String} {tb : List ExceptionTableEntry} {w : va_W} {k n : Nat} {Q : State → Prop} {b L i x m o : Nat} {xs : Nat → Int32} {s z : SS} {am ac ar nm nc nr nf ns dd c : Nat} {e : Int32} (C : Cx X G cL_law 7 RL (some .boolean) room_1 nme tb) (S : Scr X G b L xs) (hi : i + 5 ≤ L) (hW : Mid G x m o s z am ac ar w) (hI : Iv z nm nc nr nf ns dd c) (h5 : c < 600) (hk : k ≤ 601024 ∧ n ≤ 7293034) (hU : (pU (tradeE z (xs (i + 1)) (xs (i + 2)) (xs (i + 3))) (tradeU (su z 45 0 0) (xs (i + 1)) (xs (i + 2)) (xs (i + 3))) z) 45 0 = e) (hR : e = 0 → s 60 0 = pM (tradeE z (xs (i + 1)) (xs (i + 2)) (xs (i + 3))) (tradeR z (xs (i + 1)) (xs (i + 2)) (xs (i + 3)))) (kk : ∀ w', Mid G x m o s (pU (tradeE z (xs (i + 1)) (xs (i + 2)) (xs (i + 3))) (tradeU (su z 45 0 0) (xs (i + 1)) (xs (i + 2)) (xs (i + 3))) z) am ac ar w' → V X G 7 w' k n Q 2124 [(4, .int (nI i)), (3, .ref o), (2, .ref m), (1, .ref x), (0, .ref b)] []) : V X G 7 w k n Q 1368 ((5, .int e) :: [(4, .int (nI i)), (3, .ref o), (2, .ref m), (1, .ref x), (0, .ref b)]) [] := by
  have hst : X.2.1.stackTraces = false := C.2.2.2.2.2.1
  have hG : GOK G := C.2.2.2.2.2.2.2.2.2.1
  obtain ⟨a, La, s0, rfl, hL, ⟨rfl, rfl, rfl⟩, T0, T1, T2⟩ := hW
  refine v_aload_n C dL_law_1368 rfl 3 rfl ?_
  refine v_aload_n C dL_law_1369 rfl 5 rfl ?_
  refine v_iload C dL_law_1370 rfl 1 rfl ?_
  refine v_iconst C (v := 1) dL_law_1372 rfl rfl ?_
  refine v_iaddN C i 1 rfl rfl dL_law_1373 rfl ?_
  refine v_sld C S (i + 1) (by omega) dL_law_1374 rfl ?_
  refine v_aload_n C dL_law_1375 rfl 5 rfl ?_
  refine v_iload C dL_law_1376 rfl 1 rfl ?_
  refine v_iconst C (v := 2) dL_law_1378 rfl rfl ?_
  refine v_iaddN C i 2 rfl rfl dL_law_1379 rfl ?_
  refine v_sld C S (i + 2) (by omega) dL_law_1380 rfl ?_
  refine v_aload_n C dL_law_1381 rfl 5 rfl ?_
  refine v_iload C dL_law_1382 rfl 1 rfl ?_
  refine v_iconst C (v := 3) dL_law_1384 rfl rfl ?_
  refine v_iaddN C i 3 rfl rfl dL_law_1385 rfl ?_
  refine v_sld C S (i + 3) (by omega) dL_law_1386 rfl ?_
  refine v_invV C (As := [.int (xs (i + 1)), .int (xs (i + 2)), .int (xs (i + 3))]) L_L_177 (c_X8_trade (s := s) (t := z) (nm := nm) (nc := nc) hst hG hL (xs (i + 1)) (xs (i + 2)) (xs (i + 3)) hI.1.1.1 hI.1.1.2 hI.1.2.1.1 hI.1.2.1.2 hI.2.2.2.2.1.1) (m0 (s := s) (t := z) (g := G.2.2.1) hL) rfl rfl rfl (by decide) ⟨hk.1, hk.2⟩ (by decide) dL_law_1387 rfl kx_no (fun v w1 hv => ?_)
  obtain ⟨rfl, rfl, -⟩ := hv
  refine xx_mono (k' := k) (n' := n) (Nat.le_refl _) (Nat.le_refl _) ?_
  show V X G 7 _ _ _ _ _ _ [.int (pM (tradeE z (xs (i + 1)) (xs (i + 2)) (xs (i + 3))) (tradeR z (xs (i + 1)) (xs (i + 2)) (xs (i + 3))))]
  refine v_istore C (lv1 := [(6, .int (pM (tradeE z (xs (i + 1)) (xs (i + 2)) (xs (i + 3))) (tradeR z (xs (i + 1)) (xs (i + 2)) (xs (i + 3))))), (5, .int e), (4, .int (nI i)), (3, .ref (a 14 0)), (2, .ref (a 0 0)), (1, .ref (a 2 0)), (0, .ref b)]) dL_law_1390 rfl (by decide) rfl ?_
  refine v_aload_n C dL_law_1392 rfl 4 rfl ?_
  refine v_invV C (As := []) L_L_118 (c_X8_thrown (s := s) (t := (pU (tradeE z (xs (i + 1)) (xs (i + 2)) (xs (i + 3))) (tradeU (su z 45 0 0) (xs (i + 1)) (xs (i + 2)) (xs (i + 3))) z)) hst hG hL) (m0 (s := s) (t := (pU (tradeE z (xs (i + 1)) (xs (i + 2)) (xs (i + 3))) (tradeU (su z 45 0 0) (xs (i + 1)) (xs (i + 2)) (xs (i + 3))) z)) (g := G.2.2.1) hL) rfl rfl rfl (by decide) ⟨hk.1, hk.2⟩ (by decide) dL_law_1393 rfl kx_no (fun v w1 hv => ?_)
  obtain ⟨rfl, rfl, -⟩ := hv
  refine xx_mono (k' := k) (n' := n) (Nat.le_refl _) (Nat.le_refl _) ?_
  show V X G 7 _ _ _ _ _ _ [.int ((pU (tradeE z (xs (i + 1)) (xs (i + 2)) (xs (i + 3))) (tradeU (su z 45 0 0) (xs (i + 1)) (xs (i + 2)) (xs (i + 3))) z) 45 0)]
  refine xx_top (y := e) hU ?_
  refine v_iload C dL_law_1396 rfl 1 rfl ?_
  refine v_icmp_eq C (t := 1403) dL_law_1398 rfl rfl (fun _ => ?_) (fun h => absurd rfl h)
  refine v_iload C dL_law_1403 rfl 1 rfl ?_
  refine v_if_ne C (t := 1420) dL_law_1405 rfl rfl (fun _ => ?_) (fun hz => ?_)
  · skip
    refine v_goto C (q := 2124) dL_law_1420 rfl ?_
    exact xx_lv [2, 3, 4, 5, 6] rfl (kk _ ⟨a, La, s0, rfl, hL, ⟨rfl, rfl, rfl⟩, T0, T1, T2⟩)
  · skip
    refine v_aload_n C dL_law_1408 rfl 3 rfl ?_
    refine v_iconst C (v := 0) dL_law_1409 rfl rfl ?_
    refine v_lald C (m14 (s := s) (t := (pU (tradeE z (xs (i + 1)) (xs (i + 2)) (xs (i + 3))) (tradeU (su z 45 0 0) (xs (i + 1)) (xs (i + 2)) (xs (i + 3))) z)) (g := G.2.2.1) hL) (pk_in 0 1 (by decide)) dL_law_1410 rfl ?_
    refine xx_topV (y := .long (s 60 0).toInt64) rfl ?_
    refine v_iload C dL_law_1411 rfl 0 rfl ?_
    refine v_i2l C dL_law_1413 rfl ?_
    refine v_lcmp C dL_law_1414 rfl ?_
    refine xx_top (y := 0) (by rw [hR hz]; exact lg_c0) ?_
    refine v_if_eq C (t := 1420) dL_law_1415 rfl rfl (fun _ => ?_) (fun h => absurd rfl h)
    refine v_goto C (q := 2124) dL_law_1420 rfl ?_
    exact xx_lv [2, 3, 4, 5, 6] rfl (kk _ ⟨a, La, s0, rfl, hL, ⟨rfl, rfl, rfl⟩, T0, T1, T2⟩)

theorem lwm_suit {X : XS} {G : GG} {nme : String} {tb : List ExceptionTableEntry} {w : va_W} {k n : Nat} {Q : State → Prop} {b L i x m o : Nat} {xs : Nat → Int32} {s z : SS} {am ac ar nm nc nr nf ns dd c : Nat} {e : Int32} (C : Cx X G cL_law 7 RL (some .boolean) room_1 nme tb) (S : Scr X G b L xs) (hi : i + 5 ≤ L) (hW : Mid G x m o s z am ac ar w) (hI : Iv z nm nc nr nf ns dd c) (h5 : c < 600) (hk : k ≤ 601024 ∧ n ≤ 7293034) (hU : (pU (suitE z ns (xs (i + 1))) (suitU (su z 45 0 0) ns (xs (i + 1))) z) 45 0 = e) (hR : e = 0 → s 60 0 = pM (suitE z ns (xs (i + 1))) (suitR z ns (xs (i + 1)))) (kk : ∀ w', Mid G x m o s (pU (suitE z ns (xs (i + 1))) (suitU (su z 45 0 0) ns (xs (i + 1))) z) am ac ar w' → V X G 7 w' k n Q 2124 [(4, .int (nI i)), (3, .ref o), (2, .ref m), (1, .ref x), (0, .ref b)] []) : V X G 7 w k n Q 1436 ((5, .int e) :: [(4, .int (nI i)), (3, .ref o), (2, .ref m), (1, .ref x), (0, .ref b)]) [] := by
  have hst : X.2.1.stackTraces = false := C.2.2.2.2.2.1
  have hG : GOK G := C.2.2.2.2.2.2.2.2.2.1
  obtain ⟨a, La, s0, rfl, hL, ⟨rfl, rfl, rfl⟩, T0, T1, T2⟩ := hW
  refine v_aload_n C dL_law_1436 rfl 3 rfl ?_
  refine v_aload_n C dL_law_1437 rfl 5 rfl ?_
  refine v_iload C dL_law_1438 rfl 1 rfl ?_
  refine v_iconst C (v := 1) dL_law_1440 rfl rfl ?_
  refine v_iaddN C i 1 rfl rfl dL_law_1441 rfl ?_
  refine v_sld C S (i + 1) (by omega) dL_law_1442 rfl ?_
  refine v_invV C (As := [.int (xs (i + 1))]) L_L_180 (c_X8_suit (s := s) (t := z) (nc := nc) (ns := ns) hst hG hL (xs (i + 1)) hI.1.2.1.1 hI.1.2.1.2 hI.1.2.2.2.2.1.1 (by have := hI.1.2.2.2.2.1.2; omega) (hsm_of hI.2.2.2.2.2.1 hI.2.2.2.2.1 hI.1.1.2)) (m0 (s := s) (t := z) (g := G.2.2.1) hL) rfl rfl rfl (by decide) ⟨hk.1, hk.2⟩ (by decide) dL_law_1443 rfl kx_no (fun v w1 hv => ?_)
  obtain ⟨rfl, rfl, -⟩ := hv
  refine xx_mono (k' := k) (n' := n) (Nat.le_refl _) (Nat.le_refl _) ?_
  show V X G 7 _ _ _ _ _ _ [.int (pM (suitE z ns (xs (i + 1))) (suitR z ns (xs (i + 1))))]
  refine v_istore C (lv1 := [(6, .int (pM (suitE z ns (xs (i + 1))) (suitR z ns (xs (i + 1))))), (5, .int e), (4, .int (nI i)), (3, .ref (a 14 0)), (2, .ref (a 0 0)), (1, .ref (a 2 0)), (0, .ref b)]) dL_law_1446 rfl (by decide) rfl ?_
  refine v_aload_n C dL_law_1448 rfl 4 rfl ?_
  refine v_invV C (As := []) L_L_118 (c_X8_thrown (s := s) (t := (pU (suitE z ns (xs (i + 1))) (suitU (su z 45 0 0) ns (xs (i + 1))) z)) hst hG hL) (m0 (s := s) (t := (pU (suitE z ns (xs (i + 1))) (suitU (su z 45 0 0) ns (xs (i + 1))) z)) (g := G.2.2.1) hL) rfl rfl rfl (by decide) ⟨hk.1, hk.2⟩ (by decide) dL_law_1449 rfl kx_no (fun v w1 hv => ?_)
  obtain ⟨rfl, rfl, -⟩ := hv
  refine xx_mono (k' := k) (n' := n) (Nat.le_refl _) (Nat.le_refl _) ?_
  show V X G 7 _ _ _ _ _ _ [.int ((pU (suitE z ns (xs (i + 1))) (suitU (su z 45 0 0) ns (xs (i + 1))) z) 45 0)]
  refine xx_top (y := e) hU ?_
  refine v_iload C dL_law_1452 rfl 1 rfl ?_
  refine v_icmp_eq C (t := 1459) dL_law_1454 rfl rfl (fun _ => ?_) (fun h => absurd rfl h)
  refine v_iload C dL_law_1459 rfl 1 rfl ?_
  refine v_if_ne C (t := 1476) dL_law_1461 rfl rfl (fun _ => ?_) (fun hz => ?_)
  · skip
    refine v_goto C (q := 2124) dL_law_1476 rfl ?_
    exact xx_lv [2, 3, 4, 5, 6] rfl (kk _ ⟨a, La, s0, rfl, hL, ⟨rfl, rfl, rfl⟩, T0, T1, T2⟩)
  · skip
    refine v_aload_n C dL_law_1464 rfl 3 rfl ?_
    refine v_iconst C (v := 0) dL_law_1465 rfl rfl ?_
    refine v_lald C (m14 (s := s) (t := (pU (suitE z ns (xs (i + 1))) (suitU (su z 45 0 0) ns (xs (i + 1))) z)) (g := G.2.2.1) hL) (pk_in 0 1 (by decide)) dL_law_1466 rfl ?_
    refine xx_topV (y := .long (s 60 0).toInt64) rfl ?_
    refine v_iload C dL_law_1467 rfl 0 rfl ?_
    refine v_i2l C dL_law_1469 rfl ?_
    refine v_lcmp C dL_law_1470 rfl ?_
    refine xx_top (y := 0) (by rw [hR hz]; exact lg_c0) ?_
    refine v_if_eq C (t := 1476) dL_law_1471 rfl rfl (fun _ => ?_) (fun h => absurd rfl h)
    refine v_goto C (q := 2124) dL_law_1476 rfl ?_
    exact xx_lv [2, 3, 4, 5, 6] rfl (kk _ ⟨a, La, s0, rfl, hL, ⟨rfl, rfl, rfl⟩, T0, T1, T2⟩)

theorem lwm_rumour {X : XS} {G : GG} {nme : String} {tb : List ExceptionTableEntry} {w : va_W} {k n : Nat} {Q : State → Prop} {b L i x m o : Nat} {xs : Nat → Int32} {s z : SS} {am ac ar nm nc nr nf ns dd c : Nat} {e : Int32} (C : Cx X G cL_law 7 RL (some .boolean) room_1 nme tb) (S : Scr X G b L xs) (hi : i + 5 ≤ L) (hW : Mid G x m o s z am ac ar w) (hI : Iv z nm nc nr nf ns dd c) (h5 : c < 600) (hk : k ≤ 601024 ∧ n ≤ 7293034) (hU : (pU (rumourE z (xs (i + 1)) (xs (i + 2))) (rumourU (su z 45 0 0) (xs (i + 1)) (xs (i + 2))) z) 45 0 = e) (hR : e = 0 → s 60 0 = pM (rumourE z (xs (i + 1)) (xs (i + 2))) (rumourR z (xs (i + 1)) (xs (i + 2)))) (kk : ∀ w', Mid G x m o s (pU (rumourE z (xs (i + 1)) (xs (i + 2))) (rumourU (su z 45 0 0) (xs (i + 1)) (xs (i + 2))) z) am ac ar w' → V X G 7 w' k n Q 2124 [(4, .int (nI i)), (3, .ref o), (2, .ref m), (1, .ref x), (0, .ref b)] []) : V X G 7 w k n Q 1498 ((5, .int e) :: [(4, .int (nI i)), (3, .ref o), (2, .ref m), (1, .ref x), (0, .ref b)]) [] := by
  have hst : X.2.1.stackTraces = false := C.2.2.2.2.2.1
  have hG : GOK G := C.2.2.2.2.2.2.2.2.2.1
  obtain ⟨a, La, s0, rfl, hL, ⟨rfl, rfl, rfl⟩, T0, T1, T2⟩ := hW
  refine v_aload_n C dL_law_1498 rfl 3 rfl ?_
  refine v_aload_n C dL_law_1499 rfl 5 rfl ?_
  refine v_iload C dL_law_1500 rfl 1 rfl ?_
  refine v_iconst C (v := 1) dL_law_1502 rfl rfl ?_
  refine v_iaddN C i 1 rfl rfl dL_law_1503 rfl ?_
  refine v_sld C S (i + 1) (by omega) dL_law_1504 rfl ?_
  refine v_aload_n C dL_law_1505 rfl 5 rfl ?_
  refine v_iload C dL_law_1506 rfl 1 rfl ?_
  refine v_iconst C (v := 2) dL_law_1508 rfl rfl ?_
  refine v_iaddN C i 2 rfl rfl dL_law_1509 rfl ?_
  refine v_sld C S (i + 2) (by omega) dL_law_1510 rfl ?_
  refine v_invV C (As := [.int (xs (i + 1)), .int (xs (i + 2))]) L_L_183 (c_X8_rumour (s := s) (t := z)  hst hG hL (xs (i + 1)) (xs (i + 2))) (m0 (s := s) (t := z) (g := G.2.2.1) hL) rfl rfl rfl (by decide) ⟨hk.1, hk.2⟩ (by decide) dL_law_1511 rfl kx_no (fun v w1 hv => ?_)
  obtain ⟨rfl, rfl, -⟩ := hv
  refine xx_mono (k' := k) (n' := n) (Nat.le_refl _) (Nat.le_refl _) ?_
  show V X G 7 _ _ _ _ _ _ [.int (pM (rumourE z (xs (i + 1)) (xs (i + 2))) (rumourR z (xs (i + 1)) (xs (i + 2))))]
  refine v_istore C (lv1 := [(6, .int (pM (rumourE z (xs (i + 1)) (xs (i + 2))) (rumourR z (xs (i + 1)) (xs (i + 2))))), (5, .int e), (4, .int (nI i)), (3, .ref (a 14 0)), (2, .ref (a 0 0)), (1, .ref (a 2 0)), (0, .ref b)]) dL_law_1514 rfl (by decide) rfl ?_
  refine v_aload_n C dL_law_1516 rfl 4 rfl ?_
  refine v_invV C (As := []) L_L_118 (c_X8_thrown (s := s) (t := (pU (rumourE z (xs (i + 1)) (xs (i + 2))) (rumourU (su z 45 0 0) (xs (i + 1)) (xs (i + 2))) z)) hst hG hL) (m0 (s := s) (t := (pU (rumourE z (xs (i + 1)) (xs (i + 2))) (rumourU (su z 45 0 0) (xs (i + 1)) (xs (i + 2))) z)) (g := G.2.2.1) hL) rfl rfl rfl (by decide) ⟨hk.1, hk.2⟩ (by decide) dL_law_1517 rfl kx_no (fun v w1 hv => ?_)
  obtain ⟨rfl, rfl, -⟩ := hv
  refine xx_mono (k' := k) (n' := n) (Nat.le_refl _) (Nat.le_refl _) ?_
  show V X G 7 _ _ _ _ _ _ [.int ((pU (rumourE z (xs (i + 1)) (xs (i + 2))) (rumourU (su z 45 0 0) (xs (i + 1)) (xs (i + 2))) z) 45 0)]
  refine xx_top (y := e) hU ?_
  refine v_iload C dL_law_1520 rfl 1 rfl ?_
  refine v_icmp_eq C (t := 1527) dL_law_1522 rfl rfl (fun _ => ?_) (fun h => absurd rfl h)
  refine v_iload C dL_law_1527 rfl 1 rfl ?_
  refine v_if_ne C (t := 1544) dL_law_1529 rfl rfl (fun _ => ?_) (fun hz => ?_)
  · skip
    refine v_goto C (q := 2124) dL_law_1544 rfl ?_
    exact xx_lv [2, 3, 4, 5, 6] rfl (kk _ ⟨a, La, s0, rfl, hL, ⟨rfl, rfl, rfl⟩, T0, T1, T2⟩)
  · skip
    refine v_aload_n C dL_law_1532 rfl 3 rfl ?_
    refine v_iconst C (v := 0) dL_law_1533 rfl rfl ?_
    refine v_lald C (m14 (s := s) (t := (pU (rumourE z (xs (i + 1)) (xs (i + 2))) (rumourU (su z 45 0 0) (xs (i + 1)) (xs (i + 2))) z)) (g := G.2.2.1) hL) (pk_in 0 1 (by decide)) dL_law_1534 rfl ?_
    refine xx_topV (y := .long (s 60 0).toInt64) rfl ?_
    refine v_iload C dL_law_1535 rfl 0 rfl ?_
    refine v_i2l C dL_law_1537 rfl ?_
    refine v_lcmp C dL_law_1538 rfl ?_
    refine xx_top (y := 0) (by rw [hR hz]; exact lg_c0) ?_
    refine v_if_eq C (t := 1544) dL_law_1539 rfl rfl (fun _ => ?_) (fun h => absurd rfl h)
    refine v_goto C (q := 2124) dL_law_1544 rfl ?_
    exact xx_lv [2, 3, 4, 5, 6] rfl (kk _ ⟨a, La, s0, rfl, hL, ⟨rfl, rfl, rfl⟩, T0, T1, T2⟩)


theorem lwm_holds {X : XS} {G : GG} {nme : String} {tb : List ExceptionTableEntry} {w : va_W} {k n : Nat} {Q : State → Prop} {b L i x m o : Nat} {xs : Nat → Int32} {s z : SS} {am ac ar nm nc nr nf ns dd c : Nat} {e : Int32} (C : Cx X G cL_law 7 RL (some .boolean) room_1 nme tb) (S : Scr X G b L xs) (hi : i + 5 ≤ L) (hW : Mid G x m o s z am ac ar w) (hI : Iv z nm nc nr nf ns dd c) (h5 : c < 600) (hk : k ≤ 601024 ∧ n ≤ 7293034) (hU : (pU (holdsE z nc (xs (i + 1))) (su z 45 0 0) z) 45 0 = e) (hR : e = 0 → s 60 0 = pM (holdsE z nc (xs (i + 1))) (holdsR z nc (xs (i + 1)))) (kk : ∀ w', Mid G x m o s (pU (holdsE z nc (xs (i + 1))) (su z 45 0 0) z) am ac ar w' → V X G 7 w' k n Q 2124 [(4, .int (nI i)), (3, .ref o), (2, .ref m), (1, .ref x), (0, .ref b)] []) : V X G 7 w k n Q 1573 ((5, .int e) :: [(4, .int (nI i)), (3, .ref o), (2, .ref m), (1, .ref x), (0, .ref b)]) [] := by
  have hst : X.2.1.stackTraces = false := C.2.2.2.2.2.1
  have hG : GOK G := C.2.2.2.2.2.2.2.2.2.1
  obtain ⟨a, La, s0, rfl, hL, ⟨rfl, rfl, rfl⟩, T0, T1, T2⟩ := hW
  refine v_aload_n C dL_law_1573 rfl 3 rfl ?_
  refine v_aload_n C dL_law_1574 rfl 5 rfl ?_
  refine v_iload C dL_law_1575 rfl 1 rfl ?_
  refine v_iconst C (v := 1) dL_law_1577 rfl rfl ?_
  refine v_iaddN C i 1 rfl rfl dL_law_1578 rfl ?_
  refine v_sld C S (i + 1) (by omega) dL_law_1579 rfl ?_
  refine v_invV C (As := [.int (xs (i + 1))]) L_L_190 (c_X8_holds (s := s) (t := z) (nc := nc) hst hG hL (xs (i + 1)) hI.1.2.1.1 hI.1.2.1.2) (m0 (s := s) (t := z) (g := G.2.2.1) hL) rfl rfl rfl (by decide) ⟨hk.1, hk.2⟩ (by decide) dL_law_1580 rfl kx_no (fun v w1 hv => ?_)
  obtain ⟨rfl, rfl, -⟩ := hv
  refine xx_mono (k' := k) (n' := n) (Nat.le_refl _) (Nat.le_refl _) ?_
  show V X G 7 _ _ _ _ _ _ [.int (pM (holdsE z nc (xs (i + 1))) (holdsR z nc (xs (i + 1))))]
  refine v_istore C (lv1 := [(6, .int (pM (holdsE z nc (xs (i + 1))) (holdsR z nc (xs (i + 1))))), (5, .int e), (4, .int (nI i)), (3, .ref (a 14 0)), (2, .ref (a 0 0)), (1, .ref (a 2 0)), (0, .ref b)]) dL_law_1583 rfl (by decide) rfl ?_
  refine v_aload_n C dL_law_1585 rfl 4 rfl ?_
  refine v_invV C (As := []) L_L_118 (c_X8_thrown (s := s) (t := (pU (holdsE z nc (xs (i + 1))) (su z 45 0 0) z)) hst hG hL) (m0 (s := s) (t := (pU (holdsE z nc (xs (i + 1))) (su z 45 0 0) z)) (g := G.2.2.1) hL) rfl rfl rfl (by decide) ⟨hk.1, hk.2⟩ (by decide) dL_law_1586 rfl kx_no (fun v w1 hv => ?_)
  obtain ⟨rfl, rfl, -⟩ := hv
  refine xx_mono (k' := k) (n' := n) (Nat.le_refl _) (Nat.le_refl _) ?_
  show V X G 7 _ _ _ _ _ _ [.int ((pU (holdsE z nc (xs (i + 1))) (su z 45 0 0) z) 45 0)]
  refine xx_top (y := e) hU ?_
  refine v_iload C dL_law_1589 rfl 1 rfl ?_
  refine v_icmp_eq C (t := 1596) dL_law_1591 rfl rfl (fun _ => ?_) (fun h => absurd rfl h)
  refine v_iload C dL_law_1596 rfl 1 rfl ?_
  refine v_if_ne C (t := 1613) dL_law_1598 rfl rfl (fun _ => ?_) (fun hz => ?_)
  · skip
    refine v_goto C (q := 2124) dL_law_1613 rfl ?_
    exact xx_lv [2, 3, 4, 5, 6] rfl (kk _ ⟨a, La, s0, rfl, hL, ⟨rfl, rfl, rfl⟩, T0, T1, T2⟩)
  · skip
    refine v_aload_n C dL_law_1601 rfl 3 rfl ?_
    refine v_iconst C (v := 0) dL_law_1602 rfl rfl ?_
    refine v_lald C (m14 (s := s) (t := (pU (holdsE z nc (xs (i + 1))) (su z 45 0 0) z)) (g := G.2.2.1) hL) (pk_in 0 1 (by decide)) dL_law_1603 rfl ?_
    refine xx_topV (y := .long (s 60 0).toInt64) rfl ?_
    refine v_iload C dL_law_1604 rfl 0 rfl ?_
    refine v_i2l C dL_law_1606 rfl ?_
    refine v_lcmp C dL_law_1607 rfl ?_
    refine xx_top (y := 0) (by rw [hR hz]; exact lg_c0) ?_
    refine v_if_eq C (t := 1613) dL_law_1608 rfl rfl (fun _ => ?_) (fun h => absurd rfl h)
    refine v_goto C (q := 2124) dL_law_1613 rfl ?_
    exact xx_lv [2, 3, 4, 5, 6] rfl (kk _ ⟨a, La, s0, rfl, hL, ⟨rfl, rfl, rfl⟩, T0, T1, T2⟩)

theorem lwm_ofClaim {X : XS} {G : GG} {nme : String} {tb : List ExceptionTableEntry} {w : va_W} {k n : Nat} {Q : State → Prop} {b L i x m o : Nat} {xs : Nat → Int32} {s z : SS} {am ac ar nm nc nr nf ns dd c : Nat} {e : Int32} (C : Cx X G cL_law 7 RL (some .boolean) room_1 nme tb) (S : Scr X G b L xs) (hi : i + 5 ≤ L) (hW : Mid G x m o s z am ac ar w) (hI : Iv z nm nc nr nf ns dd c) (h5 : c < 600) (hk : k ≤ 601024 ∧ n ≤ 7293034) (hU : (pU (ofClaimE z (xs (i + 1)) (xs (i + 2))) (su z 45 0 0) z) 45 0 = e) (hR : e = 0 → s 60 0 = pM (ofClaimE z (xs (i + 1)) (xs (i + 2))) (ofClaimR z (xs (i + 1)) (xs (i + 2)))) (kk : ∀ w', Mid G x m o s (pU (ofClaimE z (xs (i + 1)) (xs (i + 2))) (su z 45 0 0) z) am ac ar w' → V X G 7 w' k n Q 2124 [(4, .int (nI i)), (3, .ref o), (2, .ref m), (1, .ref x), (0, .ref b)] []) : V X G 7 w k n Q 1635 ((5, .int e) :: [(4, .int (nI i)), (3, .ref o), (2, .ref m), (1, .ref x), (0, .ref b)]) [] := by
  have hst : X.2.1.stackTraces = false := C.2.2.2.2.2.1
  have hG : GOK G := C.2.2.2.2.2.2.2.2.2.1
  obtain ⟨a, La, s0, rfl, hL, ⟨rfl, rfl, rfl⟩, T0, T1, T2⟩ := hW
  refine v_aload_n C dL_law_1635 rfl 3 rfl ?_
  refine v_aload_n C dL_law_1636 rfl 5 rfl ?_
  refine v_iload C dL_law_1637 rfl 1 rfl ?_
  refine v_iconst C (v := 1) dL_law_1639 rfl rfl ?_
  refine v_iaddN C i 1 rfl rfl dL_law_1640 rfl ?_
  refine v_sld C S (i + 1) (by omega) dL_law_1641 rfl ?_
  refine v_aload_n C dL_law_1642 rfl 5 rfl ?_
  refine v_iload C dL_law_1643 rfl 1 rfl ?_
  refine v_iconst C (v := 2) dL_law_1645 rfl rfl ?_
  refine v_iaddN C i 2 rfl rfl dL_law_1646 rfl ?_
  refine v_sld C S (i + 2) (by omega) dL_law_1647 rfl ?_
  refine v_invV C (As := [.int (xs (i + 1)), .int (xs (i + 2))]) L_L_193 (c_X8_ofClaim (s := s) (t := z) (nc := nc) hst hG hL (xs (i + 1)) (xs (i + 2)) hI.1.2.1.1 hI.1.2.1.2) (m0 (s := s) (t := z) (g := G.2.2.1) hL) rfl rfl rfl (by decide) ⟨hk.1, hk.2⟩ (by decide) dL_law_1648 rfl kx_no (fun v w1 hv => ?_)
  obtain ⟨rfl, rfl, -⟩ := hv
  refine xx_mono (k' := k) (n' := n) (Nat.le_refl _) (Nat.le_refl _) ?_
  show V X G 7 _ _ _ _ _ _ [.int (pM (ofClaimE z (xs (i + 1)) (xs (i + 2))) (ofClaimR z (xs (i + 1)) (xs (i + 2))))]
  refine v_istore C (lv1 := [(6, .int (pM (ofClaimE z (xs (i + 1)) (xs (i + 2))) (ofClaimR z (xs (i + 1)) (xs (i + 2))))), (5, .int e), (4, .int (nI i)), (3, .ref (a 14 0)), (2, .ref (a 0 0)), (1, .ref (a 2 0)), (0, .ref b)]) dL_law_1651 rfl (by decide) rfl ?_
  refine v_aload_n C dL_law_1653 rfl 4 rfl ?_
  refine v_invV C (As := []) L_L_118 (c_X8_thrown (s := s) (t := (pU (ofClaimE z (xs (i + 1)) (xs (i + 2))) (su z 45 0 0) z)) hst hG hL) (m0 (s := s) (t := (pU (ofClaimE z (xs (i + 1)) (xs (i + 2))) (su z 45 0 0) z)) (g := G.2.2.1) hL) rfl rfl rfl (by decide) ⟨hk.1, hk.2⟩ (by decide) dL_law_1654 rfl kx_no (fun v w1 hv => ?_)
  obtain ⟨rfl, rfl, -⟩ := hv
  refine xx_mono (k' := k) (n' := n) (Nat.le_refl _) (Nat.le_refl _) ?_
  show V X G 7 _ _ _ _ _ _ [.int ((pU (ofClaimE z (xs (i + 1)) (xs (i + 2))) (su z 45 0 0) z) 45 0)]
  refine xx_top (y := e) hU ?_
  refine v_iload C dL_law_1657 rfl 1 rfl ?_
  refine v_icmp_eq C (t := 1664) dL_law_1659 rfl rfl (fun _ => ?_) (fun h => absurd rfl h)
  refine v_iload C dL_law_1664 rfl 1 rfl ?_
  refine v_if_ne C (t := 1681) dL_law_1666 rfl rfl (fun _ => ?_) (fun hz => ?_)
  · skip
    refine v_goto C (q := 2124) dL_law_1681 rfl ?_
    exact xx_lv [2, 3, 4, 5, 6] rfl (kk _ ⟨a, La, s0, rfl, hL, ⟨rfl, rfl, rfl⟩, T0, T1, T2⟩)
  · skip
    refine v_aload_n C dL_law_1669 rfl 3 rfl ?_
    refine v_iconst C (v := 0) dL_law_1670 rfl rfl ?_
    refine v_lald C (m14 (s := s) (t := (pU (ofClaimE z (xs (i + 1)) (xs (i + 2))) (su z 45 0 0) z)) (g := G.2.2.1) hL) (pk_in 0 1 (by decide)) dL_law_1671 rfl ?_
    refine xx_topV (y := .long (s 60 0).toInt64) rfl ?_
    refine v_iload C dL_law_1672 rfl 0 rfl ?_
    refine v_i2l C dL_law_1674 rfl ?_
    refine v_lcmp C dL_law_1675 rfl ?_
    refine xx_top (y := 0) (by rw [hR hz]; exact lg_c0) ?_
    refine v_if_eq C (t := 1681) dL_law_1676 rfl rfl (fun _ => ?_) (fun h => absurd rfl h)
    refine v_goto C (q := 2124) dL_law_1681 rfl ?_
    exact xx_lv [2, 3, 4, 5, 6] rfl (kk _ ⟨a, La, s0, rfl, hL, ⟨rfl, rfl, rfl⟩, T0, T1, T2⟩)

theorem lwm_ofMiner {X : XS} {G : GG} {nme : String} {tb : List ExceptionTableEntry} {w : va_W} {k n : Nat} {Q : State → Prop} {b L i x m o : Nat} {xs : Nat → Int32} {s z : SS} {am ac ar nm nc nr nf ns dd c : Nat} {e : Int32} (C : Cx X G cL_law 7 RL (some .boolean) room_1 nme tb) (S : Scr X G b L xs) (hi : i + 5 ≤ L) (hW : Mid G x m o s z am ac ar w) (hI : Iv z nm nc nr nf ns dd c) (h5 : c < 600) (hk : k ≤ 601024 ∧ n ≤ 7293034) (hU : (pU (ofMinerE z nm nr (xs (i + 1)) (xs (i + 2))) (su z 45 0 0) z) 45 0 = e) (hR : e = 0 → s 60 0 = pM (ofMinerE z nm nr (xs (i + 1)) (xs (i + 2))) (ofMinerR z nm nr (xs (i + 1)) (xs (i + 2)))) (kk : ∀ w', Mid G x m o s (pU (ofMinerE z nm nr (xs (i + 1)) (xs (i + 2))) (su z 45 0 0) z) am ac ar w' → V X G 7 w' k n Q 2124 [(4, .int (nI i)), (3, .ref o), (2, .ref m), (1, .ref x), (0, .ref b)] []) : V X G 7 w k n Q 1703 ((5, .int e) :: [(4, .int (nI i)), (3, .ref o), (2, .ref m), (1, .ref x), (0, .ref b)]) [] := by
  have hst : X.2.1.stackTraces = false := C.2.2.2.2.2.1
  have hG : GOK G := C.2.2.2.2.2.2.2.2.2.1
  obtain ⟨a, La, s0, rfl, hL, ⟨rfl, rfl, rfl⟩, T0, T1, T2⟩ := hW
  refine v_aload_n C dL_law_1703 rfl 3 rfl ?_
  refine v_aload_n C dL_law_1704 rfl 5 rfl ?_
  refine v_iload C dL_law_1705 rfl 1 rfl ?_
  refine v_iconst C (v := 1) dL_law_1707 rfl rfl ?_
  refine v_iaddN C i 1 rfl rfl dL_law_1708 rfl ?_
  refine v_sld C S (i + 1) (by omega) dL_law_1709 rfl ?_
  refine v_aload_n C dL_law_1710 rfl 5 rfl ?_
  refine v_iload C dL_law_1711 rfl 1 rfl ?_
  refine v_iconst C (v := 2) dL_law_1713 rfl rfl ?_
  refine v_iaddN C i 2 rfl rfl dL_law_1714 rfl ?_
  refine v_sld C S (i + 2) (by omega) dL_law_1715 rfl ?_
  refine v_invV C (As := [.int (xs (i + 1)), .int (xs (i + 2))]) L_L_196 (c_X8_ofMiner (s := s) (t := z) (nm := nm) (nr := nr) hst hG hL (xs (i + 1)) (xs (i + 2)) hI.1.1.1 hI.1.1.2 hI.1.2.2.1.1 hI.1.2.2.1.2 (fun i hi => vp_up (hI.2.2.2.2.1.2 i hi) hI.1.1.2)) (m0 (s := s) (t := z) (g := G.2.2.1) hL) rfl rfl rfl (by decide) ⟨hk.1, hk.2⟩ (by decide) dL_law_1716 rfl kx_no (fun v w1 hv => ?_)
  obtain ⟨rfl, rfl, -⟩ := hv
  refine xx_mono (k' := k) (n' := n) (Nat.le_refl _) (Nat.le_refl _) ?_
  show V X G 7 _ _ _ _ _ _ [.int (pM (ofMinerE z nm nr (xs (i + 1)) (xs (i + 2))) (ofMinerR z nm nr (xs (i + 1)) (xs (i + 2))))]
  refine v_istore C (lv1 := [(6, .int (pM (ofMinerE z nm nr (xs (i + 1)) (xs (i + 2))) (ofMinerR z nm nr (xs (i + 1)) (xs (i + 2))))), (5, .int e), (4, .int (nI i)), (3, .ref (a 14 0)), (2, .ref (a 0 0)), (1, .ref (a 2 0)), (0, .ref b)]) dL_law_1719 rfl (by decide) rfl ?_
  refine v_aload_n C dL_law_1721 rfl 4 rfl ?_
  refine v_invV C (As := []) L_L_118 (c_X8_thrown (s := s) (t := (pU (ofMinerE z nm nr (xs (i + 1)) (xs (i + 2))) (su z 45 0 0) z)) hst hG hL) (m0 (s := s) (t := (pU (ofMinerE z nm nr (xs (i + 1)) (xs (i + 2))) (su z 45 0 0) z)) (g := G.2.2.1) hL) rfl rfl rfl (by decide) ⟨hk.1, hk.2⟩ (by decide) dL_law_1722 rfl kx_no (fun v w1 hv => ?_)
  obtain ⟨rfl, rfl, -⟩ := hv
  refine xx_mono (k' := k) (n' := n) (Nat.le_refl _) (Nat.le_refl _) ?_
  show V X G 7 _ _ _ _ _ _ [.int ((pU (ofMinerE z nm nr (xs (i + 1)) (xs (i + 2))) (su z 45 0 0) z) 45 0)]
  refine xx_top (y := e) hU ?_
  refine v_iload C dL_law_1725 rfl 1 rfl ?_
  refine v_icmp_eq C (t := 1732) dL_law_1727 rfl rfl (fun _ => ?_) (fun h => absurd rfl h)
  refine v_iload C dL_law_1732 rfl 1 rfl ?_
  refine v_if_ne C (t := 1749) dL_law_1734 rfl rfl (fun _ => ?_) (fun hz => ?_)
  · skip
    refine v_goto C (q := 2124) dL_law_1749 rfl ?_
    exact xx_lv [2, 3, 4, 5, 6] rfl (kk _ ⟨a, La, s0, rfl, hL, ⟨rfl, rfl, rfl⟩, T0, T1, T2⟩)
  · skip
    refine v_aload_n C dL_law_1737 rfl 3 rfl ?_
    refine v_iconst C (v := 0) dL_law_1738 rfl rfl ?_
    refine v_lald C (m14 (s := s) (t := (pU (ofMinerE z nm nr (xs (i + 1)) (xs (i + 2))) (su z 45 0 0) z)) (g := G.2.2.1) hL) (pk_in 0 1 (by decide)) dL_law_1739 rfl ?_
    refine xx_topV (y := .long (s 60 0).toInt64) rfl ?_
    refine v_iload C dL_law_1740 rfl 0 rfl ?_
    refine v_i2l C dL_law_1742 rfl ?_
    refine v_lcmp C dL_law_1743 rfl ?_
    refine xx_top (y := 0) (by rw [hR hz]; exact lg_c0) ?_
    refine v_if_eq C (t := 1749) dL_law_1744 rfl rfl (fun _ => ?_) (fun h => absurd rfl h)
    refine v_goto C (q := 2124) dL_law_1749 rfl ?_
    exact xx_lv [2, 3, 4, 5, 6] rfl (kk _ ⟨a, La, s0, rfl, hL, ⟨rfl, rfl, rfl⟩, T0, T1, T2⟩)

theorem lwm_gets {X : XS} {G : GG} {nme : String} {tb : List ExceptionTableEntry} {w : va_W} {k n : Nat} {Q : State → Prop} {b L i x m o : Nat} {xs : Nat → Int32} {s z : SS} {am ac ar nm nc nr nf ns dd c : Nat} {e : Int32} (C : Cx X G cL_law 7 RL (some .boolean) room_1 nme tb) (S : Scr X G b L xs) (hi : i + 5 ≤ L) (hW : Mid G x m o s z am ac ar w) (hI : Iv z nm nc nr nf ns dd c) (h5 : c < 600) (hk : k ≤ 601024 ∧ n ≤ 7293034) (hU : (pU (getsE z (xs (i + 1))) (su z 45 0 0) z) 45 0 = e) (hR : e = 0 → s 60 0 = pM (getsE z (xs (i + 1))) (getsR z (xs (i + 1)))) (kk : ∀ w', Mid G x m o s (pU (getsE z (xs (i + 1))) (su z 45 0 0) z) am ac ar w' → V X G 7 w' k n Q 2124 [(4, .int (nI i)), (3, .ref o), (2, .ref m), (1, .ref x), (0, .ref b)] []) : V X G 7 w k n Q 1765 ((5, .int e) :: [(4, .int (nI i)), (3, .ref o), (2, .ref m), (1, .ref x), (0, .ref b)]) [] := by
  have hst : X.2.1.stackTraces = false := C.2.2.2.2.2.1
  have hG : GOK G := C.2.2.2.2.2.2.2.2.2.1
  obtain ⟨a, La, s0, rfl, hL, ⟨rfl, rfl, rfl⟩, T0, T1, T2⟩ := hW
  refine v_aload_n C dL_law_1765 rfl 3 rfl ?_
  refine v_aload_n C dL_law_1766 rfl 5 rfl ?_
  refine v_iload C dL_law_1767 rfl 1 rfl ?_
  refine v_iconst C (v := 1) dL_law_1769 rfl rfl ?_
  refine v_iaddN C i 1 rfl rfl dL_law_1770 rfl ?_
  refine v_sld C S (i + 1) (by omega) dL_law_1771 rfl ?_
  refine v_invV C (As := [.int (xs (i + 1))]) L_L_199 (c_X8_gets (s := s) (t := z) (nr := nr) hst hG hL (xs (i + 1)) hI.1.2.2.1.1 hI.1.2.2.1.2 (fun i hi => vp_up (hI.2.2.2.2.1.2 i hi) hI.1.1.2)) (m0 (s := s) (t := z) (g := G.2.2.1) hL) rfl rfl rfl (by decide) ⟨hk.1, hk.2⟩ (by decide) dL_law_1772 rfl kx_no (fun v w1 hv => ?_)
  obtain ⟨rfl, rfl, -⟩ := hv
  refine xx_mono (k' := k) (n' := n) (Nat.le_refl _) (Nat.le_refl _) ?_
  show V X G 7 _ _ _ _ _ _ [.int (pM (getsE z (xs (i + 1))) (getsR z (xs (i + 1))))]
  refine v_istore C (lv1 := [(6, .int (pM (getsE z (xs (i + 1))) (getsR z (xs (i + 1))))), (5, .int e), (4, .int (nI i)), (3, .ref (a 14 0)), (2, .ref (a 0 0)), (1, .ref (a 2 0)), (0, .ref b)]) dL_law_1775 rfl (by decide) rfl ?_
  refine v_aload_n C dL_law_1777 rfl 4 rfl ?_
  refine v_invV C (As := []) L_L_118 (c_X8_thrown (s := s) (t := (pU (getsE z (xs (i + 1))) (su z 45 0 0) z)) hst hG hL) (m0 (s := s) (t := (pU (getsE z (xs (i + 1))) (su z 45 0 0) z)) (g := G.2.2.1) hL) rfl rfl rfl (by decide) ⟨hk.1, hk.2⟩ (by decide) dL_law_1778 rfl kx_no (fun v w1 hv => ?_)
  obtain ⟨rfl, rfl, -⟩ := hv
  refine xx_mono (k' := k) (n' := n) (Nat.le_refl _) (Nat.le_refl _) ?_
  show V X G 7 _ _ _ _ _ _ [.int ((pU (getsE z (xs (i + 1))) (su z 45 0 0) z) 45 0)]
  refine xx_top (y := e) hU ?_
  refine v_iload C dL_law_1781 rfl 1 rfl ?_
  refine v_icmp_eq C (t := 1788) dL_law_1783 rfl rfl (fun _ => ?_) (fun h => absurd rfl h)
  refine v_iload C dL_law_1788 rfl 1 rfl ?_
  refine v_if_ne C (t := 1805) dL_law_1790 rfl rfl (fun _ => ?_) (fun hz => ?_)
  · skip
    refine v_goto C (q := 2124) dL_law_1805 rfl ?_
    exact xx_lv [2, 3, 4, 5, 6] rfl (kk _ ⟨a, La, s0, rfl, hL, ⟨rfl, rfl, rfl⟩, T0, T1, T2⟩)
  · skip
    refine v_aload_n C dL_law_1793 rfl 3 rfl ?_
    refine v_iconst C (v := 0) dL_law_1794 rfl rfl ?_
    refine v_lald C (m14 (s := s) (t := (pU (getsE z (xs (i + 1))) (su z 45 0 0) z)) (g := G.2.2.1) hL) (pk_in 0 1 (by decide)) dL_law_1795 rfl ?_
    refine xx_topV (y := .long (s 60 0).toInt64) rfl ?_
    refine v_iload C dL_law_1796 rfl 0 rfl ?_
    refine v_i2l C dL_law_1798 rfl ?_
    refine v_lcmp C dL_law_1799 rfl ?_
    refine xx_top (y := 0) (by rw [hR hz]; exact lg_c0) ?_
    refine v_if_eq C (t := 1805) dL_law_1800 rfl rfl (fun _ => ?_) (fun h => absurd rfl h)
    refine v_goto C (q := 2124) dL_law_1805 rfl ?_
    exact xx_lv [2, 3, 4, 5, 6] rfl (kk _ ⟨a, La, s0, rfl, hL, ⟨rfl, rfl, rfl⟩, T0, T1, T2⟩)

theorem lwm_gold {X : XS} {G : GG} {nme : String} {tb : List ExceptionTableEntry} {w : va_W} {k n : Nat} {Q : State → Prop} {b L i x m o : Nat} {xs : Nat → Int32} {s z : SS} {am ac ar nm nc nr nf ns dd c : Nat} {e : Int32} (C : Cx X G cL_law 7 RL (some .boolean) room_1 nme tb) (S : Scr X G b L xs) (hi : i + 5 ≤ L) (hW : Mid G x m o s z am ac ar w) (hI : Iv z nm nc nr nf ns dd c) (h5 : c < 600) (hk : k ≤ 601024 ∧ n ≤ 7293034) (hU : (pU (goldE z nm (xs (i + 1))) (su z 45 0 0) z) 45 0 = e) (hR : e = 0 → s 60 0 = pM (goldE z nm (xs (i + 1))) (goldR z nm (xs (i + 1)))) (kk : ∀ w', Mid G x m o s (pU (goldE z nm (xs (i + 1))) (su z 45 0 0) z) am ac ar w' → V X G 7 w' k n Q 2124 [(4, .int (nI i)), (3, .ref o), (2, .ref m), (1, .ref x), (0, .ref b)] []) : V X G 7 w k n Q 1821 ((5, .int e) :: [(4, .int (nI i)), (3, .ref o), (2, .ref m), (1, .ref x), (0, .ref b)]) [] := by
  have hst : X.2.1.stackTraces = false := C.2.2.2.2.2.1
  have hG : GOK G := C.2.2.2.2.2.2.2.2.2.1
  obtain ⟨a, La, s0, rfl, hL, ⟨rfl, rfl, rfl⟩, T0, T1, T2⟩ := hW
  refine v_aload_n C dL_law_1821 rfl 3 rfl ?_
  refine v_aload_n C dL_law_1822 rfl 5 rfl ?_
  refine v_iload C dL_law_1823 rfl 1 rfl ?_
  refine v_iconst C (v := 1) dL_law_1825 rfl rfl ?_
  refine v_iaddN C i 1 rfl rfl dL_law_1826 rfl ?_
  refine v_sld C S (i + 1) (by omega) dL_law_1827 rfl ?_
  refine v_invV C (As := [.int (xs (i + 1))]) L_L_202 (c_X8_gold (s := s) (t := z) (nm := nm) hst hG hL (xs (i + 1)) hI.1.1.1 hI.1.1.2) (m0 (s := s) (t := z) (g := G.2.2.1) hL) rfl rfl rfl (by decide) ⟨hk.1, hk.2⟩ (by decide) dL_law_1828 rfl kx_no (fun v w1 hv => ?_)
  obtain ⟨rfl, rfl, -⟩ := hv
  refine xx_mono (k' := k) (n' := n) (Nat.le_refl _) (Nat.le_refl _) ?_
  show V X G 7 _ _ _ _ _ _ [.int (pM (goldE z nm (xs (i + 1))) (goldR z nm (xs (i + 1))))]
  refine v_istore C (lv1 := [(6, .int (pM (goldE z nm (xs (i + 1))) (goldR z nm (xs (i + 1))))), (5, .int e), (4, .int (nI i)), (3, .ref (a 14 0)), (2, .ref (a 0 0)), (1, .ref (a 2 0)), (0, .ref b)]) dL_law_1831 rfl (by decide) rfl ?_
  refine v_aload_n C dL_law_1833 rfl 4 rfl ?_
  refine v_invV C (As := []) L_L_118 (c_X8_thrown (s := s) (t := (pU (goldE z nm (xs (i + 1))) (su z 45 0 0) z)) hst hG hL) (m0 (s := s) (t := (pU (goldE z nm (xs (i + 1))) (su z 45 0 0) z)) (g := G.2.2.1) hL) rfl rfl rfl (by decide) ⟨hk.1, hk.2⟩ (by decide) dL_law_1834 rfl kx_no (fun v w1 hv => ?_)
  obtain ⟨rfl, rfl, -⟩ := hv
  refine xx_mono (k' := k) (n' := n) (Nat.le_refl _) (Nat.le_refl _) ?_
  show V X G 7 _ _ _ _ _ _ [.int ((pU (goldE z nm (xs (i + 1))) (su z 45 0 0) z) 45 0)]
  refine xx_top (y := e) hU ?_
  refine v_iload C dL_law_1837 rfl 1 rfl ?_
  refine v_icmp_eq C (t := 1844) dL_law_1839 rfl rfl (fun _ => ?_) (fun h => absurd rfl h)
  refine v_iload C dL_law_1844 rfl 1 rfl ?_
  refine v_if_ne C (t := 1861) dL_law_1846 rfl rfl (fun _ => ?_) (fun hz => ?_)
  · skip
    refine v_goto C (q := 2124) dL_law_1861 rfl ?_
    exact xx_lv [2, 3, 4, 5, 6] rfl (kk _ ⟨a, La, s0, rfl, hL, ⟨rfl, rfl, rfl⟩, T0, T1, T2⟩)
  · skip
    refine v_aload_n C dL_law_1849 rfl 3 rfl ?_
    refine v_iconst C (v := 0) dL_law_1850 rfl rfl ?_
    refine v_lald C (m14 (s := s) (t := (pU (goldE z nm (xs (i + 1))) (su z 45 0 0) z)) (g := G.2.2.1) hL) (pk_in 0 1 (by decide)) dL_law_1851 rfl ?_
    refine xx_topV (y := .long (s 60 0).toInt64) rfl ?_
    refine v_iload C dL_law_1852 rfl 0 rfl ?_
    refine v_i2l C dL_law_1854 rfl ?_
    refine v_lcmp C dL_law_1855 rfl ?_
    refine xx_top (y := 0) (by rw [hR hz]; exact lg_c0) ?_
    refine v_if_eq C (t := 1861) dL_law_1856 rfl rfl (fun _ => ?_) (fun h => absurd rfl h)
    refine v_goto C (q := 2124) dL_law_1861 rfl ?_
    exact xx_lv [2, 3, 4, 5, 6] rfl (kk _ ⟨a, La, s0, rfl, hL, ⟨rfl, rfl, rfl⟩, T0, T1, T2⟩)

theorem lwm_camp {X : XS} {G : GG} {nme : String} {tb : List ExceptionTableEntry} {w : va_W} {k n : Nat} {Q : State → Prop} {b L i x m o : Nat} {xs : Nat → Int32} {s z : SS} {am ac ar nm nc nr nf ns dd c : Nat} {e : Int32} (C : Cx X G cL_law 7 RL (some .boolean) room_1 nme tb) (S : Scr X G b L xs) (hi : i + 5 ≤ L) (hW : Mid G x m o s z am ac ar w) (hI : Iv z nm nc nr nf ns dd c) (h5 : c < 600) (hk : k ≤ 601024 ∧ n ≤ 7293034) (hU : (pU (campE z nm (xs (i + 1))) (su z 45 0 0) z) 45 0 = e) (hR : e = 0 → s 60 0 = pM (campE z nm (xs (i + 1))) (campR z nm (xs (i + 1)))) (kk : ∀ w', Mid G x m o s (pU (campE z nm (xs (i + 1))) (su z 45 0 0) z) am ac ar w' → V X G 7 w' k n Q 2124 [(4, .int (nI i)), (3, .ref o), (2, .ref m), (1, .ref x), (0, .ref b)] []) : V X G 7 w k n Q 1877 ((5, .int e) :: [(4, .int (nI i)), (3, .ref o), (2, .ref m), (1, .ref x), (0, .ref b)]) [] := by
  have hst : X.2.1.stackTraces = false := C.2.2.2.2.2.1
  have hG : GOK G := C.2.2.2.2.2.2.2.2.2.1
  obtain ⟨a, La, s0, rfl, hL, ⟨rfl, rfl, rfl⟩, T0, T1, T2⟩ := hW
  refine v_aload_n C dL_law_1877 rfl 3 rfl ?_
  refine v_aload_n C dL_law_1878 rfl 5 rfl ?_
  refine v_iload C dL_law_1879 rfl 1 rfl ?_
  refine v_iconst C (v := 1) dL_law_1881 rfl rfl ?_
  refine v_iaddN C i 1 rfl rfl dL_law_1882 rfl ?_
  refine v_sld C S (i + 1) (by omega) dL_law_1883 rfl ?_
  refine v_invV C (As := [.int (xs (i + 1))]) L_L_205 (c_X8_camp (s := s) (t := z) (nm := nm) hst hG hL (xs (i + 1)) hI.1.1.1 hI.1.1.2) (m0 (s := s) (t := z) (g := G.2.2.1) hL) rfl rfl rfl (by decide) ⟨hk.1, hk.2⟩ (by decide) dL_law_1884 rfl kx_no (fun v w1 hv => ?_)
  obtain ⟨rfl, rfl, -⟩ := hv
  refine xx_mono (k' := k) (n' := n) (Nat.le_refl _) (Nat.le_refl _) ?_
  show V X G 7 _ _ _ _ _ _ [.int (pM (campE z nm (xs (i + 1))) (campR z nm (xs (i + 1))))]
  refine v_istore C (lv1 := [(6, .int (pM (campE z nm (xs (i + 1))) (campR z nm (xs (i + 1))))), (5, .int e), (4, .int (nI i)), (3, .ref (a 14 0)), (2, .ref (a 0 0)), (1, .ref (a 2 0)), (0, .ref b)]) dL_law_1887 rfl (by decide) rfl ?_
  refine v_aload_n C dL_law_1889 rfl 4 rfl ?_
  refine v_invV C (As := []) L_L_118 (c_X8_thrown (s := s) (t := (pU (campE z nm (xs (i + 1))) (su z 45 0 0) z)) hst hG hL) (m0 (s := s) (t := (pU (campE z nm (xs (i + 1))) (su z 45 0 0) z)) (g := G.2.2.1) hL) rfl rfl rfl (by decide) ⟨hk.1, hk.2⟩ (by decide) dL_law_1890 rfl kx_no (fun v w1 hv => ?_)
  obtain ⟨rfl, rfl, -⟩ := hv
  refine xx_mono (k' := k) (n' := n) (Nat.le_refl _) (Nat.le_refl _) ?_
  show V X G 7 _ _ _ _ _ _ [.int ((pU (campE z nm (xs (i + 1))) (su z 45 0 0) z) 45 0)]
  refine xx_top (y := e) hU ?_
  refine v_iload C dL_law_1893 rfl 1 rfl ?_
  refine v_icmp_eq C (t := 1900) dL_law_1895 rfl rfl (fun _ => ?_) (fun h => absurd rfl h)
  refine v_iload C dL_law_1900 rfl 1 rfl ?_
  refine v_if_ne C (t := 1917) dL_law_1902 rfl rfl (fun _ => ?_) (fun hz => ?_)
  · skip
    refine v_goto C (q := 2124) dL_law_1917 rfl ?_
    exact xx_lv [2, 3, 4, 5, 6] rfl (kk _ ⟨a, La, s0, rfl, hL, ⟨rfl, rfl, rfl⟩, T0, T1, T2⟩)
  · skip
    refine v_aload_n C dL_law_1905 rfl 3 rfl ?_
    refine v_iconst C (v := 0) dL_law_1906 rfl rfl ?_
    refine v_lald C (m14 (s := s) (t := (pU (campE z nm (xs (i + 1))) (su z 45 0 0) z)) (g := G.2.2.1) hL) (pk_in 0 1 (by decide)) dL_law_1907 rfl ?_
    refine xx_topV (y := .long (s 60 0).toInt64) rfl ?_
    refine v_iload C dL_law_1908 rfl 0 rfl ?_
    refine v_i2l C dL_law_1910 rfl ?_
    refine v_lcmp C dL_law_1911 rfl ?_
    refine xx_top (y := 0) (by rw [hR hz]; exact lg_c0) ?_
    refine v_if_eq C (t := 1917) dL_law_1912 rfl rfl (fun _ => ?_) (fun h => absurd rfl h)
    refine v_goto C (q := 2124) dL_law_1917 rfl ?_
    exact xx_lv [2, 3, 4, 5, 6] rfl (kk _ ⟨a, La, s0, rfl, hL, ⟨rfl, rfl, rfl⟩, T0, T1, T2⟩)

theorem lwm_belief {X : XS} {G : GG} {nme : String} {tb : List ExceptionTableEntry} {w : va_W} {k n : Nat} {Q : State → Prop} {b L i x m o : Nat} {xs : Nat → Int32} {s z : SS} {am ac ar nm nc nr nf ns dd c : Nat} {e : Int32} (C : Cx X G cL_law 7 RL (some .boolean) room_1 nme tb) (S : Scr X G b L xs) (hi : i + 5 ≤ L) (hW : Mid G x m o s z am ac ar w) (hI : Iv z nm nc nr nf ns dd c) (h5 : c < 600) (hk : k ≤ 601024 ∧ n ≤ 7293034) (hU : (pU (beliefE z (xs (i + 1))) (su z 45 0 0) z) 45 0 = e) (hR : e = 0 → s 60 0 = pM (beliefE z (xs (i + 1))) (beliefR z (xs (i + 1)))) (kk : ∀ w', Mid G x m o s (pU (beliefE z (xs (i + 1))) (su z 45 0 0) z) am ac ar w' → V X G 7 w' k n Q 2124 [(4, .int (nI i)), (3, .ref o), (2, .ref m), (1, .ref x), (0, .ref b)] []) : V X G 7 w k n Q 1933 ((5, .int e) :: [(4, .int (nI i)), (3, .ref o), (2, .ref m), (1, .ref x), (0, .ref b)]) [] := by
  have hst : X.2.1.stackTraces = false := C.2.2.2.2.2.1
  have hG : GOK G := C.2.2.2.2.2.2.2.2.2.1
  obtain ⟨a, La, s0, rfl, hL, ⟨rfl, rfl, rfl⟩, T0, T1, T2⟩ := hW
  refine v_aload_n C dL_law_1933 rfl 3 rfl ?_
  refine v_aload_n C dL_law_1934 rfl 5 rfl ?_
  refine v_iload C dL_law_1935 rfl 1 rfl ?_
  refine v_iconst C (v := 1) dL_law_1937 rfl rfl ?_
  refine v_iaddN C i 1 rfl rfl dL_law_1938 rfl ?_
  refine v_sld C S (i + 1) (by omega) dL_law_1939 rfl ?_
  refine v_invV C (As := [.int (xs (i + 1))]) L_L_208 (c_X8_belief (s := s) (t := z)  hst hG hL (xs (i + 1))) (m0 (s := s) (t := z) (g := G.2.2.1) hL) rfl rfl rfl (by decide) ⟨hk.1, hk.2⟩ (by decide) dL_law_1940 rfl kx_no (fun v w1 hv => ?_)
  obtain ⟨rfl, rfl, -⟩ := hv
  refine xx_mono (k' := k) (n' := n) (Nat.le_refl _) (Nat.le_refl _) ?_
  show V X G 7 _ _ _ _ _ _ [.int (pM (beliefE z (xs (i + 1))) (beliefR z (xs (i + 1))))]
  refine v_istore C (lv1 := [(6, .int (pM (beliefE z (xs (i + 1))) (beliefR z (xs (i + 1))))), (5, .int e), (4, .int (nI i)), (3, .ref (a 14 0)), (2, .ref (a 0 0)), (1, .ref (a 2 0)), (0, .ref b)]) dL_law_1943 rfl (by decide) rfl ?_
  refine v_aload_n C dL_law_1945 rfl 4 rfl ?_
  refine v_invV C (As := []) L_L_118 (c_X8_thrown (s := s) (t := (pU (beliefE z (xs (i + 1))) (su z 45 0 0) z)) hst hG hL) (m0 (s := s) (t := (pU (beliefE z (xs (i + 1))) (su z 45 0 0) z)) (g := G.2.2.1) hL) rfl rfl rfl (by decide) ⟨hk.1, hk.2⟩ (by decide) dL_law_1946 rfl kx_no (fun v w1 hv => ?_)
  obtain ⟨rfl, rfl, -⟩ := hv
  refine xx_mono (k' := k) (n' := n) (Nat.le_refl _) (Nat.le_refl _) ?_
  show V X G 7 _ _ _ _ _ _ [.int ((pU (beliefE z (xs (i + 1))) (su z 45 0 0) z) 45 0)]
  refine xx_top (y := e) hU ?_
  refine v_iload C dL_law_1949 rfl 1 rfl ?_
  refine v_icmp_eq C (t := 1956) dL_law_1951 rfl rfl (fun _ => ?_) (fun h => absurd rfl h)
  refine v_iload C dL_law_1956 rfl 1 rfl ?_
  refine v_if_ne C (t := 1973) dL_law_1958 rfl rfl (fun _ => ?_) (fun hz => ?_)
  · skip
    refine v_goto C (q := 2124) dL_law_1973 rfl ?_
    exact xx_lv [2, 3, 4, 5, 6] rfl (kk _ ⟨a, La, s0, rfl, hL, ⟨rfl, rfl, rfl⟩, T0, T1, T2⟩)
  · skip
    refine v_aload_n C dL_law_1961 rfl 3 rfl ?_
    refine v_iconst C (v := 0) dL_law_1962 rfl rfl ?_
    refine v_lald C (m14 (s := s) (t := (pU (beliefE z (xs (i + 1))) (su z 45 0 0) z)) (g := G.2.2.1) hL) (pk_in 0 1 (by decide)) dL_law_1963 rfl ?_
    refine xx_topV (y := .long (s 60 0).toInt64) rfl ?_
    refine v_iload C dL_law_1964 rfl 0 rfl ?_
    refine v_i2l C dL_law_1966 rfl ?_
    refine v_lcmp C dL_law_1967 rfl ?_
    refine xx_top (y := 0) (by rw [hR hz]; exact lg_c0) ?_
    refine v_if_eq C (t := 1973) dL_law_1968 rfl rfl (fun _ => ?_) (fun h => absurd rfl h)
    refine v_goto C (q := 2124) dL_law_1973 rfl ?_
    exact xx_lv [2, 3, 4, 5, 6] rfl (kk _ ⟨a, La, s0, rfl, hL, ⟨rfl, rfl, rfl⟩, T0, T1, T2⟩)

theorem lwm_plan {X : XS} {G : GG} {nme : String} {tb : List ExceptionTableEntry} {w : va_W} {k n : Nat} {Q : State → Prop} {b L i x m o : Nat} {xs : Nat → Int32} {s z : SS} {am ac ar nm nc nr nf ns dd c : Nat} {e : Int32} (C : Cx X G cL_law 7 RL (some .boolean) room_1 nme tb) (S : Scr X G b L xs) (hi : i + 5 ≤ L) (hW : Mid G x m o s z am ac ar w) (hI : Iv z nm nc nr nf ns dd c) (h5 : c < 600) (hk : k ≤ 601024 ∧ n ≤ 7293034) (hU : (if apE z (xs (i + 1)) (xs (i + 2)) 1 = 0 then (plnW (su z 45 0 (apE z (xs (i + 1)) (xs (i + 2)) 1)) (tn (z 23 (tn (xs (i + 1))))) (tn (z 24 (tn (xs (i + 1))))) (xs (i + 2))).1 else (su z 45 0 (apE z (xs (i + 1)) (xs (i + 2)) 1))) 45 0 = e) (hR : e = 0 → s 60 0 = pM (apE z (xs (i + 1)) (xs (i + 2)) 1) (plnW (su z 45 0 (apE z (xs (i + 1)) (xs (i + 2)) 1)) (tn (z 23 (tn (xs (i + 1))))) (tn (z 24 (tn (xs (i + 1))))) (xs (i + 2))).2) (kk : ∀ w', Mid G x m o s (if apE z (xs (i + 1)) (xs (i + 2)) 1 = 0 then (plnW (su z 45 0 (apE z (xs (i + 1)) (xs (i + 2)) 1)) (tn (z 23 (tn (xs (i + 1))))) (tn (z 24 (tn (xs (i + 1))))) (xs (i + 2))).1 else (su z 45 0 (apE z (xs (i + 1)) (xs (i + 2)) 1))) am ac ar w' → V X G 7 w' k n Q 2124 [(4, .int (nI i)), (3, .ref o), (2, .ref m), (1, .ref x), (0, .ref b)] []) : V X G 7 w k n Q 1995 ((5, .int e) :: [(4, .int (nI i)), (3, .ref o), (2, .ref m), (1, .ref x), (0, .ref b)]) [] := by
  have hst : X.2.1.stackTraces = false := C.2.2.2.2.2.1
  have hG : GOK G := C.2.2.2.2.2.2.2.2.2.1
  obtain ⟨a, La, s0, rfl, hL, ⟨rfl, rfl, rfl⟩, T0, T1, T2⟩ := hW
  refine v_aload_n C dL_law_1995 rfl 3 rfl ?_
  refine v_aload_n C dL_law_1996 rfl 5 rfl ?_
  refine v_iload C dL_law_1997 rfl 1 rfl ?_
  refine v_iconst C (v := 1) dL_law_1999 rfl rfl ?_
  refine v_iaddN C i 1 rfl rfl dL_law_2000 rfl ?_
  refine v_sld C S (i + 1) (by omega) dL_law_2001 rfl ?_
  refine v_aload_n C dL_law_2002 rfl 5 rfl ?_
  refine v_iload C dL_law_2003 rfl 1 rfl ?_
  refine v_iconst C (v := 2) dL_law_2005 rfl rfl ?_
  refine v_iaddN C i 2 rfl rfl dL_law_2006 rfl ?_
  refine v_sld C S (i + 2) (by omega) dL_law_2007 rfl ?_
  refine v_invV C (As := [.int (xs (i + 1)), .int (xs (i + 2))]) L_L_211 (c_X8_plan (s := s) (t := z) (nc := nc) hst hG hL (xs (i + 1)) (xs (i + 2)) hI.1.2.1.1 hI.1.2.1.2 hI.2.2.2.1.1) (m0 (s := s) (t := z) (g := G.2.2.1) hL) rfl rfl rfl (by decide) ⟨hk.1, hk.2⟩ (by decide) dL_law_2008 rfl kx_no (fun v w1 hv => ?_)
  obtain ⟨rfl, rfl, -⟩ := hv
  refine xx_mono (k' := k) (n' := n) (Nat.le_refl _) (Nat.le_refl _) ?_
  show V X G 7 _ _ _ _ _ _ [.int (pM (apE z (xs (i + 1)) (xs (i + 2)) 1) (plnW (su z 45 0 (apE z (xs (i + 1)) (xs (i + 2)) 1)) (tn (z 23 (tn (xs (i + 1))))) (tn (z 24 (tn (xs (i + 1))))) (xs (i + 2))).2)]
  refine v_istore C (lv1 := [(6, .int (pM (apE z (xs (i + 1)) (xs (i + 2)) 1) (plnW (su z 45 0 (apE z (xs (i + 1)) (xs (i + 2)) 1)) (tn (z 23 (tn (xs (i + 1))))) (tn (z 24 (tn (xs (i + 1))))) (xs (i + 2))).2)), (5, .int e), (4, .int (nI i)), (3, .ref (a 14 0)), (2, .ref (a 0 0)), (1, .ref (a 2 0)), (0, .ref b)]) dL_law_2011 rfl (by decide) rfl ?_
  refine v_aload_n C dL_law_2013 rfl 4 rfl ?_
  refine v_invV C (As := []) L_L_118 (c_X8_thrown (s := s) (t := (if apE z (xs (i + 1)) (xs (i + 2)) 1 = 0 then (plnW (su z 45 0 (apE z (xs (i + 1)) (xs (i + 2)) 1)) (tn (z 23 (tn (xs (i + 1))))) (tn (z 24 (tn (xs (i + 1))))) (xs (i + 2))).1 else (su z 45 0 (apE z (xs (i + 1)) (xs (i + 2)) 1)))) hst hG hL) (m0 (s := s) (t := (if apE z (xs (i + 1)) (xs (i + 2)) 1 = 0 then (plnW (su z 45 0 (apE z (xs (i + 1)) (xs (i + 2)) 1)) (tn (z 23 (tn (xs (i + 1))))) (tn (z 24 (tn (xs (i + 1))))) (xs (i + 2))).1 else (su z 45 0 (apE z (xs (i + 1)) (xs (i + 2)) 1)))) (g := G.2.2.1) hL) rfl rfl rfl (by decide) ⟨hk.1, hk.2⟩ (by decide) dL_law_2014 rfl kx_no (fun v w1 hv => ?_)
  obtain ⟨rfl, rfl, -⟩ := hv
  refine xx_mono (k' := k) (n' := n) (Nat.le_refl _) (Nat.le_refl _) ?_
  show V X G 7 _ _ _ _ _ _ [.int ((if apE z (xs (i + 1)) (xs (i + 2)) 1 = 0 then (plnW (su z 45 0 (apE z (xs (i + 1)) (xs (i + 2)) 1)) (tn (z 23 (tn (xs (i + 1))))) (tn (z 24 (tn (xs (i + 1))))) (xs (i + 2))).1 else (su z 45 0 (apE z (xs (i + 1)) (xs (i + 2)) 1))) 45 0)]
  refine xx_top (y := e) hU ?_
  refine v_iload C dL_law_2017 rfl 1 rfl ?_
  refine v_icmp_eq C (t := 2024) dL_law_2019 rfl rfl (fun _ => ?_) (fun h => absurd rfl h)
  refine v_iload C dL_law_2024 rfl 1 rfl ?_
  refine v_if_ne C (t := 2041) dL_law_2026 rfl rfl (fun _ => ?_) (fun hz => ?_)
  · skip
    refine v_goto C (q := 2124) dL_law_2041 rfl ?_
    exact xx_lv [2, 3, 4, 5, 6] rfl (kk _ ⟨a, La, s0, rfl, hL, ⟨rfl, rfl, rfl⟩, T0, T1, T2⟩)
  · skip
    refine v_aload_n C dL_law_2029 rfl 3 rfl ?_
    refine v_iconst C (v := 0) dL_law_2030 rfl rfl ?_
    refine v_lald C (m14 (s := s) (t := (if apE z (xs (i + 1)) (xs (i + 2)) 1 = 0 then (plnW (su z 45 0 (apE z (xs (i + 1)) (xs (i + 2)) 1)) (tn (z 23 (tn (xs (i + 1))))) (tn (z 24 (tn (xs (i + 1))))) (xs (i + 2))).1 else (su z 45 0 (apE z (xs (i + 1)) (xs (i + 2)) 1)))) (g := G.2.2.1) hL) (pk_in 0 1 (by decide)) dL_law_2031 rfl ?_
    refine xx_topV (y := .long (s 60 0).toInt64) rfl ?_
    refine v_iload C dL_law_2032 rfl 0 rfl ?_
    refine v_i2l C dL_law_2034 rfl ?_
    refine v_lcmp C dL_law_2035 rfl ?_
    refine xx_top (y := 0) (by rw [hR hz]; exact lg_c0) ?_
    refine v_if_eq C (t := 2041) dL_law_2036 rfl rfl (fun _ => ?_) (fun h => absurd rfl h)
    refine v_goto C (q := 2124) dL_law_2041 rfl ?_
    exact xx_lv [2, 3, 4, 5, 6] rfl (kk _ ⟨a, La, s0, rfl, hL, ⟨rfl, rfl, rfl⟩, T0, T1, T2⟩)

theorem lwm_planCell {X : XS} {G : GG} {nme : String} {tb : List ExceptionTableEntry} {w : va_W} {k n : Nat} {Q : State → Prop} {b L i x m o : Nat} {xs : Nat → Int32} {s z : SS} {am ac ar nm nc nr nf ns dd c : Nat} {e : Int32} (C : Cx X G cL_law 7 RL (some .boolean) room_1 nme tb) (S : Scr X G b L xs) (hi : i + 5 ≤ L) (hW : Mid G x m o s z am ac ar w) (hI : Iv z nm nc nr nf ns dd c) (h5 : c < 600) (hk : k ≤ 601024 ∧ n ≤ 7293034) (hU : (if apE z (xs (i + 1)) (xs (i + 2)) (prF (xs (i + 3))) = 0 ∧ (xs (i + 3)) < z 24 (tn (xs (i + 1))) then plnL (su z 45 0 (apE z (xs (i + 1)) (xs (i + 2)) (prF (xs (i + 3))))) (tn (z 23 (tn (xs (i + 1))))) (tn (z 24 (tn (xs (i + 1))))) (xs (i + 2)) else (su z 45 0 (apE z (xs (i + 1)) (xs (i + 2)) (prF (xs (i + 3)))))) 45 0 = e) (hR : e = 0 → s 60 0 = pM (apE z (xs (i + 1)) (xs (i + 2)) (prF (xs (i + 3)))) (if (xs (i + 3)) < z 24 (tn (xs (i + 1))) then z 23 (tn (xs (i + 1))) + plnL (su z 45 0 (apE z (xs (i + 1)) (xs (i + 2)) (prF (xs (i + 3))))) (tn (z 23 (tn (xs (i + 1))))) (tn (z 24 (tn (xs (i + 1))))) (xs (i + 2)) 43 (tn (xs (i + 3))) else -1)) (kk : ∀ w', Mid G x m o s (if apE z (xs (i + 1)) (xs (i + 2)) (prF (xs (i + 3))) = 0 ∧ (xs (i + 3)) < z 24 (tn (xs (i + 1))) then plnL (su z 45 0 (apE z (xs (i + 1)) (xs (i + 2)) (prF (xs (i + 3))))) (tn (z 23 (tn (xs (i + 1))))) (tn (z 24 (tn (xs (i + 1))))) (xs (i + 2)) else (su z 45 0 (apE z (xs (i + 1)) (xs (i + 2)) (prF (xs (i + 3)))))) am ac ar w' → V X G 7 w' k n Q 2124 [(4, .int (nI i)), (3, .ref o), (2, .ref m), (1, .ref x), (0, .ref b)] []) : V X G 7 w k n Q 2069 ((5, .int e) :: [(4, .int (nI i)), (3, .ref o), (2, .ref m), (1, .ref x), (0, .ref b)]) [] := by
  have hst : X.2.1.stackTraces = false := C.2.2.2.2.2.1
  have hG : GOK G := C.2.2.2.2.2.2.2.2.2.1
  obtain ⟨a, La, s0, rfl, hL, ⟨rfl, rfl, rfl⟩, T0, T1, T2⟩ := hW
  refine v_aload_n C dL_law_2069 rfl 3 rfl ?_
  refine v_aload_n C dL_law_2070 rfl 5 rfl ?_
  refine v_iload C dL_law_2071 rfl 1 rfl ?_
  refine v_iconst C (v := 1) dL_law_2073 rfl rfl ?_
  refine v_iaddN C i 1 rfl rfl dL_law_2074 rfl ?_
  refine v_sld C S (i + 1) (by omega) dL_law_2075 rfl ?_
  refine v_aload_n C dL_law_2076 rfl 5 rfl ?_
  refine v_iload C dL_law_2077 rfl 1 rfl ?_
  refine v_iconst C (v := 2) dL_law_2079 rfl rfl ?_
  refine v_iaddN C i 2 rfl rfl dL_law_2080 rfl ?_
  refine v_sld C S (i + 2) (by omega) dL_law_2081 rfl ?_
  refine v_aload_n C dL_law_2082 rfl 5 rfl ?_
  refine v_iload C dL_law_2083 rfl 1 rfl ?_
  refine v_iconst C (v := 3) dL_law_2085 rfl rfl ?_
  refine v_iaddN C i 3 rfl rfl dL_law_2086 rfl ?_
  refine v_sld C S (i + 3) (by omega) dL_law_2087 rfl ?_
  refine v_invV C (As := [.int (xs (i + 1)), .int (xs (i + 2)), .int (xs (i + 3))]) L_L_214 (c_X8_planCell (s := s) (t := z) (nc := nc) hst hG hL (xs (i + 1)) (xs (i + 2)) (xs (i + 3)) hI.1.2.1.1 hI.1.2.1.2 hI.2.2.2.1.1) (m0 (s := s) (t := z) (g := G.2.2.1) hL) rfl rfl rfl (by decide) ⟨hk.1, hk.2⟩ (by decide) dL_law_2088 rfl kx_no (fun v w1 hv => ?_)
  obtain ⟨rfl, rfl, -⟩ := hv
  refine xx_mono (k' := k) (n' := n) (Nat.le_refl _) (Nat.le_refl _) ?_
  show V X G 7 _ _ _ _ _ _ [.int (pM (apE z (xs (i + 1)) (xs (i + 2)) (prF (xs (i + 3)))) (if (xs (i + 3)) < z 24 (tn (xs (i + 1))) then z 23 (tn (xs (i + 1))) + plnL (su z 45 0 (apE z (xs (i + 1)) (xs (i + 2)) (prF (xs (i + 3))))) (tn (z 23 (tn (xs (i + 1))))) (tn (z 24 (tn (xs (i + 1))))) (xs (i + 2)) 43 (tn (xs (i + 3))) else -1))]
  refine v_istore C (lv1 := [(6, .int (pM (apE z (xs (i + 1)) (xs (i + 2)) (prF (xs (i + 3)))) (if (xs (i + 3)) < z 24 (tn (xs (i + 1))) then z 23 (tn (xs (i + 1))) + plnL (su z 45 0 (apE z (xs (i + 1)) (xs (i + 2)) (prF (xs (i + 3))))) (tn (z 23 (tn (xs (i + 1))))) (tn (z 24 (tn (xs (i + 1))))) (xs (i + 2)) 43 (tn (xs (i + 3))) else -1))), (5, .int e), (4, .int (nI i)), (3, .ref (a 14 0)), (2, .ref (a 0 0)), (1, .ref (a 2 0)), (0, .ref b)]) dL_law_2091 rfl (by decide) rfl ?_
  refine v_aload_n C dL_law_2093 rfl 4 rfl ?_
  refine v_invV C (As := []) L_L_118 (c_X8_thrown (s := s) (t := (if apE z (xs (i + 1)) (xs (i + 2)) (prF (xs (i + 3))) = 0 ∧ (xs (i + 3)) < z 24 (tn (xs (i + 1))) then plnL (su z 45 0 (apE z (xs (i + 1)) (xs (i + 2)) (prF (xs (i + 3))))) (tn (z 23 (tn (xs (i + 1))))) (tn (z 24 (tn (xs (i + 1))))) (xs (i + 2)) else (su z 45 0 (apE z (xs (i + 1)) (xs (i + 2)) (prF (xs (i + 3))))))) hst hG hL) (m0 (s := s) (t := (if apE z (xs (i + 1)) (xs (i + 2)) (prF (xs (i + 3))) = 0 ∧ (xs (i + 3)) < z 24 (tn (xs (i + 1))) then plnL (su z 45 0 (apE z (xs (i + 1)) (xs (i + 2)) (prF (xs (i + 3))))) (tn (z 23 (tn (xs (i + 1))))) (tn (z 24 (tn (xs (i + 1))))) (xs (i + 2)) else (su z 45 0 (apE z (xs (i + 1)) (xs (i + 2)) (prF (xs (i + 3))))))) (g := G.2.2.1) hL) rfl rfl rfl (by decide) ⟨hk.1, hk.2⟩ (by decide) dL_law_2094 rfl kx_no (fun v w1 hv => ?_)
  obtain ⟨rfl, rfl, -⟩ := hv
  refine xx_mono (k' := k) (n' := n) (Nat.le_refl _) (Nat.le_refl _) ?_
  show V X G 7 _ _ _ _ _ _ [.int ((if apE z (xs (i + 1)) (xs (i + 2)) (prF (xs (i + 3))) = 0 ∧ (xs (i + 3)) < z 24 (tn (xs (i + 1))) then plnL (su z 45 0 (apE z (xs (i + 1)) (xs (i + 2)) (prF (xs (i + 3))))) (tn (z 23 (tn (xs (i + 1))))) (tn (z 24 (tn (xs (i + 1))))) (xs (i + 2)) else (su z 45 0 (apE z (xs (i + 1)) (xs (i + 2)) (prF (xs (i + 3)))))) 45 0)]
  refine xx_top (y := e) hU ?_
  refine v_iload C dL_law_2097 rfl 1 rfl ?_
  refine v_icmp_eq C (t := 2104) dL_law_2099 rfl rfl (fun _ => ?_) (fun h => absurd rfl h)
  refine v_iload C dL_law_2104 rfl 1 rfl ?_
  refine v_if_ne C (t := 2121) dL_law_2106 rfl rfl (fun _ => ?_) (fun hz => ?_)
  · skip
    refine v_goto C (q := 2124) dL_law_2121 rfl ?_
    exact xx_lv [2, 3, 4, 5, 6] rfl (kk _ ⟨a, La, s0, rfl, hL, ⟨rfl, rfl, rfl⟩, T0, T1, T2⟩)
  · skip
    refine v_aload_n C dL_law_2109 rfl 3 rfl ?_
    refine v_iconst C (v := 0) dL_law_2110 rfl rfl ?_
    refine v_lald C (m14 (s := s) (t := (if apE z (xs (i + 1)) (xs (i + 2)) (prF (xs (i + 3))) = 0 ∧ (xs (i + 3)) < z 24 (tn (xs (i + 1))) then plnL (su z 45 0 (apE z (xs (i + 1)) (xs (i + 2)) (prF (xs (i + 3))))) (tn (z 23 (tn (xs (i + 1))))) (tn (z 24 (tn (xs (i + 1))))) (xs (i + 2)) else (su z 45 0 (apE z (xs (i + 1)) (xs (i + 2)) (prF (xs (i + 3))))))) (g := G.2.2.1) hL) (pk_in 0 1 (by decide)) dL_law_2111 rfl ?_
    refine xx_topV (y := .long (s 60 0).toInt64) rfl ?_
    refine v_iload C dL_law_2112 rfl 0 rfl ?_
    refine v_i2l C dL_law_2114 rfl ?_
    refine v_lcmp C dL_law_2115 rfl ?_
    refine xx_top (y := 0) (by rw [hR hz]; exact lg_c0) ?_
    refine v_if_eq C (t := 2121) dL_law_2116 rfl rfl (fun _ => ?_) (fun h => absurd rfl h)
    refine v_goto C (q := 2124) dL_law_2121 rfl ?_
    exact xx_lv [2, 3, 4, 5, 6] rfl (kk _ ⟨a, La, s0, rfl, hL, ⟨rfl, rfl, rfl⟩, T0, T1, T2⟩)
