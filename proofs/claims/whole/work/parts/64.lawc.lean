theorem lwc_ground {X : XS} {G : GG} {nme : String} {tb : List ExceptionTableEntry} {w : va_W} {k n : Nat} {Q : State → Prop} {b L i x m o : Nat} {xs : Nat → Int32} {c : Nat} (C : Cx X G cL_law 7 RL (some .boolean) room_1 nme tb) (S : Scr X G b L xs) (hi : i + 5 ≤ L) (hMi : MiOK G) (hW : WI G x m o c w) (hc : c < 512) (hk : k + 10 ≤ 601024 ∧ n + 200 ≤ 7293034) (kk : ∀ w', WI G x m o (c + 1) w' → V X G 7 w' (k + 10) (n + 200) Q 2124 [(4, .int (nI i)), (3, .ref o), (2, .ref m), (1, .ref x), (0, .ref b)] []) : V X G 7 w k n Q 172 [(4, .int (nI i)), (3, .ref o), (2, .ref m), (1, .ref x), (0, .ref b)] [] := by
  have hst : X.2.1.stackTraces = false := C.2.2.2.2.2.1
  have hG : GOK G := C.2.2.2.2.2.2.2.2.2.1
  obtain ⟨z, nm, nc, nr, nf, ns, dd, ⟨a, La, s0, rfl, hL, ⟨rfl, rfl, rfl⟩, T0, T1, T2⟩, hI, hg⟩ := hW
  have hJ : groundE z (xs (i + 1)) (xs (i + 2)) (xs (i + 3)) = 0 → Jx (groundU z (xs (i + 1)) (xs (i + 2)) (xs (i + 3))) (groundU (su z 45 0 0) (xs (i + 1)) (xs (i + 2)) (xs (i + 3))) nm nc nr (c + 1) := fun he => j_ground hI hg he
  have hN : groundE z (xs (i + 1)) (xs (i + 2)) (xs (i + 3)) = 0 → (pU (groundE z (xs (i + 1)) (xs (i + 2)) (xs (i + 3))) (groundU (su z 45 0 0) (xs (i + 1)) (xs (i + 2)) (xs (i + 3))) z) = groundU (su z 45 0 0) (xs (i + 1)) (xs (i + 2)) (xs (i + 3)) ∧ (groundU (su z 45 0 0) (xs (i + 1)) (xs (i + 2)) (xs (i + 3))) 45 0 = 0 ∧ groundR z (xs (i + 1)) (xs (i + 2)) (xs (i + 3)) = pM (groundE z (xs (i + 1)) (xs (i + 2)) (xs (i + 3))) (groundR z (xs (i + 1)) (xs (i + 2)) (xs (i + 3))) := fun he => ⟨(pU_z he), (k_ground hI).2, (rfl).trans (pM_0 he).symm⟩
  have hQ : groundE z (xs (i + 1)) (xs (i + 2)) (xs (i + 3)) = groundE z (xs (i + 1)) (xs (i + 2)) (xs (i + 3)) := rfl
  refine v_aload_n C dL_law_172 rfl 3 rfl ?_
  refine v_aload_n C dL_law_173 rfl 4 rfl ?_
  refine v_iload C dL_law_174 rfl 0 rfl ?_
  refine v_iconst C (v := 1) dL_law_176 rfl rfl ?_
  refine v_iaddN C i 1 rfl rfl dL_law_177 rfl ?_
  refine v_sld C S (i + 1) (by omega) dL_law_178 rfl ?_
  refine v_aload_n C dL_law_179 rfl 4 rfl ?_
  refine v_iload C dL_law_180 rfl 0 rfl ?_
  refine v_iconst C (v := 2) dL_law_182 rfl rfl ?_
  refine v_iaddN C i 2 rfl rfl dL_law_183 rfl ?_
  refine v_sld C S (i + 2) (by omega) dL_law_184 rfl ?_
  refine v_aload_n C dL_law_185 rfl 4 rfl ?_
  refine v_iload C dL_law_186 rfl 0 rfl ?_
  refine v_iconst C (v := 3) dL_law_188 rfl rfl ?_
  refine v_iaddN C i 3 rfl rfl dL_law_189 rfl ?_
  refine v_sld C S (i + 3) (by omega) dL_law_190 rfl ?_
  refine v_aload_n C dL_law_191 rfl 1 rfl ?_
  refine v_invSX C (np := 5) (As := [.ref (a 2 0), .int (xs (i + 1)), .int (xs (i + 2)), .int (xs (i + 3)), .ref (a 14 0)]) (q1 0 rfl rfl) (q1 152 rfl rfl) L_L_112 (q1 151 rfl rfl) ⟨by decide, by decide, by decide +kernel⟩ (c_L_ground (e := groundE z (xs (i + 1)) (xs (i + 2)) (xs (i + 3))) (P2 := Mid G (a 2 0) (a 0 0) (a 14 0) (su (groundU z (xs (i + 1)) (xs (i + 2)) (xs (i + 3))) 60 0 (groundR z (xs (i + 1)) (xs (i + 2)) (xs (i + 3)))) z nm nc nr) hst hG (m2 (s := z) (t := z) (g := G.2.2.1) hL) (c_X7_ground (s := z) (t := z) (dd := dd) hst hG hL (xs (i + 1)) (xs (i + 2)) (xs (i + 3)) hI.1.2.2.2.2.2.1.1 hI.1.2.2.2.2.2.1.2) (fun v w0 hv => by obtain ⟨rfl, rfl, hE⟩ := hv; exact ⟨_, wl a (E G.2.2.1 a (su (groundU z (xs (i + 1)) (xs (i + 2)) (xs (i + 3))) 60 0 (groundR z (xs (i + 1)) (xs (i + 2)) (xs (i + 3)))) z) La, rfl, hE, put_out hL _ rfl, a, La, s0, rfl, hL, ⟨rfl, rfl, rfl⟩, T0.frame rfl rfl rfl (((congrFun (su_o (by decide)) 0).trans (hJ (hQ.symm.trans hE)).cnt.1).trans T0.1.1.symm) rfl, T1.frame rfl rfl rfl (((congrFun (su_o (by decide)) 0).trans (hJ (hQ.symm.trans hE)).cnt.2.1).trans T1.1.1.symm) rfl, T2.frame rfl rfl rfl (((congrFun (su_o (by decide)) 0).trans (hJ (hQ.symm.trans hE)).cnt.2.2).trans T2.1.1.symm) rfl⟩)) rfl rfl (by decide) ⟨Nat.le_trans (Nat.add_le_add_left (show 4 ≤ 10 by decide) k) hk.1, Nat.le_trans (Nat.add_le_add_left (show 24 ≤ 200 by decide) n) hk.2⟩ (by decide) dL_law_192 rfl kx_no (fun v w1 hv => ?_)
  obtain ⟨rfl, hv⟩ := hv
  refine xx_mono (k' := k + 10) (n' := n + 200) (Nat.add_le_add_left (show 4 ≤ 10 by decide) k) (Nat.add_le_add_left (show 24 ≤ 200 by decide) n) ?_
  show V X G 7 _ _ _ _ _ _ [.int (groundE z (xs (i + 1)) (xs (i + 2)) (xs (i + 3)))]
  refine v_istore C (lv1 := (5, .int (groundE z (xs (i + 1)) (xs (i + 2)) (xs (i + 3)))) :: [(4, .int (nI i)), (3, .ref (a 14 0)), (2, .ref (a 0 0)), (1, .ref (a 2 0)), (0, .ref b)]) dL_law_195 rfl (by decide) rfl ?_
  rcases hv with ⟨hne, rfl⟩ | ⟨h0, hP⟩
  · have he : ¬ groundE z (xs (i + 1)) (xs (i + 2)) (xs (i + 3)) = 0 := fun q => hne (hQ.trans q)
    have hT : (pU (groundE z (xs (i + 1)) (xs (i + 2)) (xs (i + 3))) (groundU (su z 45 0 0) (xs (i + 1)) (xs (i + 2)) (xs (i + 3))) z) = su z 45 0 (groundE z (xs (i + 1)) (xs (i + 2)) (xs (i + 3))) := (pU_n he)
    refine lwm_ground C S hi (s := z) (z := z) (am := nm) (ac := nc) (ar := nr) ⟨a, La, s0, rfl, hL, ⟨rfl, rfl, rfl⟩, T0, T1, T2⟩ hI (by omega) hk (by rw [hT, hQ]; exact su_a) (fun q => absurd q hne) (fun w' hw' => kk w' ?_)
    rw [hT] at hw'
    exact wi_of hw' (j_err hI hg _)
  · obtain ⟨hT, h45, hRR⟩ := hN (hQ.symm.trans h0)
    refine lwm_ground C S hi (s := su (groundU z (xs (i + 1)) (xs (i + 2)) (xs (i + 3))) 60 0 (groundR z (xs (i + 1)) (xs (i + 2)) (xs (i + 3)))) (z := z) (hP) hI (by omega) hk (by rw [hT, h45, h0]) (fun _ => (su_a.trans hRR)) (fun w' hw' => kk w' ?_)
    rw [hT] at hw'
    exact wi_of hw' ((hJ (hQ.symm.trans h0)).out _)

theorem lwc_flow {X : XS} {G : GG} {nme : String} {tb : List ExceptionTableEntry} {w : va_W} {k n : Nat} {Q : State → Prop} {b L i x m o : Nat} {xs : Nat → Int32} {c : Nat} (C : Cx X G cL_law 7 RL (some .boolean) room_1 nme tb) (S : Scr X G b L xs) (hi : i + 5 ≤ L) (hMi : MiOK G) (hW : WI G x m o c w) (hc : c < 512) (hk : k + 10 ≤ 601024 ∧ n + 200 ≤ 7293034) (kk : ∀ w', WI G x m o (c + 1) w' → V X G 7 w' (k + 10) (n + 200) Q 2124 [(4, .int (nI i)), (3, .ref o), (2, .ref m), (1, .ref x), (0, .ref b)] []) : V X G 7 w k n Q 252 [(4, .int (nI i)), (3, .ref o), (2, .ref m), (1, .ref x), (0, .ref b)] [] := by
  have hst : X.2.1.stackTraces = false := C.2.2.2.2.2.1
  have hG : GOK G := C.2.2.2.2.2.2.2.2.2.1
  obtain ⟨z, nm, nc, nr, nf, ns, dd, ⟨a, La, s0, rfl, hL, ⟨rfl, rfl, rfl⟩, T0, T1, T2⟩, hI, hg⟩ := hW
  have hJ : flowE z (xs (i + 1)) = 0 → Jx (flowU z (xs (i + 1))) (flowU (su z 45 0 0) (xs (i + 1))) nm nc nr (c + 1) := fun he => j_flow hI hg
  have hN : flowE z (xs (i + 1)) = 0 → (pU (flowE z (xs (i + 1))) (flowU (su z 45 0 0) (xs (i + 1))) z) = flowU (su z 45 0 0) (xs (i + 1)) ∧ (flowU (su z 45 0 0) (xs (i + 1))) 45 0 = 0 ∧ flowR z (xs (i + 1)) = pM (flowE z (xs (i + 1))) (flowR z (xs (i + 1))) := fun he => ⟨(pU_z he), (k_flow hI).2, (rfl).trans (pM_0 he).symm⟩
  have hQ : flowE z (xs (i + 1)) = flowE z (xs (i + 1)) := rfl
  refine v_aload_n C dL_law_252 rfl 3 rfl ?_
  refine v_aload_n C dL_law_253 rfl 4 rfl ?_
  refine v_iload C dL_law_254 rfl 0 rfl ?_
  refine v_iconst C (v := 1) dL_law_256 rfl rfl ?_
  refine v_iaddN C i 1 rfl rfl dL_law_257 rfl ?_
  refine v_sld C S (i + 1) (by omega) dL_law_258 rfl ?_
  refine v_aload_n C dL_law_259 rfl 1 rfl ?_
  refine v_invSX C (np := 3) (As := [.ref (a 2 0), .int (xs (i + 1)), .ref (a 14 0)]) (q1 0 rfl rfl) (q2 50 rfl rfl) L_L_122 (q2 49 rfl rfl) ⟨by decide, by decide, by decide +kernel⟩ (c_L_flow (e := flowE z (xs (i + 1))) (P2 := Mid G (a 2 0) (a 0 0) (a 14 0) (su (flowU z (xs (i + 1))) 60 0 (flowR z (xs (i + 1)))) z nm nc nr) hst hG (m2 (s := z) (t := z) (g := G.2.2.1) hL) (c_X7_flow (s := z) (t := z)  hst hG hL (xs (i + 1))) (fun v w0 hv => by obtain ⟨rfl, rfl, hE⟩ := hv; exact ⟨_, wl a (E G.2.2.1 a (su (flowU z (xs (i + 1))) 60 0 (flowR z (xs (i + 1)))) z) La, rfl, hE, put_out hL _ rfl, a, La, s0, rfl, hL, ⟨rfl, rfl, rfl⟩, T0.frame rfl rfl rfl (((congrFun (su_o (by decide)) 0).trans (hJ (hQ.symm.trans hE)).cnt.1).trans T0.1.1.symm) rfl, T1.frame rfl rfl rfl (((congrFun (su_o (by decide)) 0).trans (hJ (hQ.symm.trans hE)).cnt.2.1).trans T1.1.1.symm) rfl, T2.frame rfl rfl rfl (((congrFun (su_o (by decide)) 0).trans (hJ (hQ.symm.trans hE)).cnt.2.2).trans T2.1.1.symm) rfl⟩)) rfl rfl (by decide) ⟨Nat.le_trans (Nat.add_le_add_left (show 1 ≤ 10 by decide) k) hk.1, Nat.le_trans (Nat.add_le_add_left (show 6 ≤ 200 by decide) n) hk.2⟩ (by decide) dL_law_260 rfl kx_no (fun v w1 hv => ?_)
  obtain ⟨rfl, hv⟩ := hv
  refine xx_mono (k' := k + 10) (n' := n + 200) (Nat.add_le_add_left (show 1 ≤ 10 by decide) k) (Nat.add_le_add_left (show 6 ≤ 200 by decide) n) ?_
  show V X G 7 _ _ _ _ _ _ [.int (flowE z (xs (i + 1)))]
  refine v_istore C (lv1 := (5, .int (flowE z (xs (i + 1)))) :: [(4, .int (nI i)), (3, .ref (a 14 0)), (2, .ref (a 0 0)), (1, .ref (a 2 0)), (0, .ref b)]) dL_law_263 rfl (by decide) rfl ?_
  rcases hv with ⟨hne, rfl⟩ | ⟨h0, hP⟩
  · have he : ¬ flowE z (xs (i + 1)) = 0 := fun q => hne (hQ.trans q)
    have hT : (pU (flowE z (xs (i + 1))) (flowU (su z 45 0 0) (xs (i + 1))) z) = su z 45 0 (flowE z (xs (i + 1))) := (pU_n he)
    refine lwm_flow C S hi (s := z) (z := z) (am := nm) (ac := nc) (ar := nr) ⟨a, La, s0, rfl, hL, ⟨rfl, rfl, rfl⟩, T0, T1, T2⟩ hI (by omega) hk (by rw [hT, hQ]; exact su_a) (fun q => absurd q hne) (fun w' hw' => kk w' ?_)
    rw [hT] at hw'
    exact wi_of hw' (j_err hI hg _)
  · obtain ⟨hT, h45, hRR⟩ := hN (hQ.symm.trans h0)
    refine lwm_flow C S hi (s := su (flowU z (xs (i + 1))) 60 0 (flowR z (xs (i + 1)))) (z := z) (hP) hI (by omega) hk (by rw [hT, h45, h0]) (fun _ => (su_a.trans hRR)) (fun w' hw' => kk w' ?_)
    rw [hT] at hw'
    exact wi_of hw' ((hJ (hQ.symm.trans h0)).out _)

theorem lwc_miner {X : XS} {G : GG} {nme : String} {tb : List ExceptionTableEntry} {w : va_W} {k n : Nat} {Q : State → Prop} {b L i x m o : Nat} {xs : Nat → Int32} {c : Nat} (C : Cx X G cL_law 7 RL (some .boolean) room_1 nme tb) (S : Scr X G b L xs) (hi : i + 5 ≤ L) (hMi : MiOK G) (hW : WI G x m o c w) (hc : c < 512) (hk : k + 10 ≤ 601024 ∧ n + 200 ≤ 7293034) (kk : ∀ w', WI G x m o (c + 1) w' → V X G 7 w' (k + 10) (n + 200) Q 2124 [(4, .int (nI i)), (3, .ref o), (2, .ref m), (1, .ref x), (0, .ref b)] []) : V X G 7 w k n Q 308 [(4, .int (nI i)), (3, .ref o), (2, .ref m), (1, .ref x), (0, .ref b)] [] := by
  have hst : X.2.1.stackTraces = false := C.2.2.2.2.2.1
  have hG : GOK G := C.2.2.2.2.2.2.2.2.2.1
  obtain ⟨z, nm, nc, nr, nf, ns, dd, ⟨a, La, s0, rfl, hL, ⟨rfl, rfl, rfl⟩, T0, T1, T2⟩, hI, hg⟩ := hW
  have hJ : minerE z nm (xs (i + 1)) (xs (i + 2)) = 0 → Jx (minerS z nm (xs (i + 1)) (xs (i + 2))) (minerU (su z 45 0 0) nm (xs (i + 1)) (xs (i + 2))) (nm + 1) nc nr (c + 1) := fun he => j_miner hI hg he
  have hN : minerE z nm (xs (i + 1)) (xs (i + 2)) = 0 → (pU (minerE z nm (xs (i + 1)) (xs (i + 2))) (minerU (su z 45 0 0) nm (xs (i + 1)) (xs (i + 2))) z) = minerU (su z 45 0 0) nm (xs (i + 1)) (xs (i + 2)) ∧ (minerU (su z 45 0 0) nm (xs (i + 1)) (xs (i + 2))) 45 0 = 0 ∧ nI nm = pM (minerE z nm (xs (i + 1)) (xs (i + 2))) (minerR z nm (xs (i + 1)) (xs (i + 2))) := fun he => ⟨(pU_z he), (k_miner hI he).2, (rfl).trans (pM_0 he).symm⟩
  have hQ : minerE z nm (xs (i + 1)) (xs (i + 2)) = minerE z nm (xs (i + 1)) (xs (i + 2)) := rfl
  refine v_aload_n C dL_law_308 rfl 3 rfl ?_
  refine v_aload_n C dL_law_309 rfl 4 rfl ?_
  refine v_iload C dL_law_310 rfl 0 rfl ?_
  refine v_iconst C (v := 1) dL_law_312 rfl rfl ?_
  refine v_iaddN C i 1 rfl rfl dL_law_313 rfl ?_
  refine v_sld C S (i + 1) (by omega) dL_law_314 rfl ?_
  refine v_aload_n C dL_law_315 rfl 4 rfl ?_
  refine v_iload C dL_law_316 rfl 0 rfl ?_
  refine v_iconst C (v := 2) dL_law_318 rfl rfl ?_
  refine v_iaddN C i 2 rfl rfl dL_law_319 rfl ?_
  refine v_sld C S (i + 2) (by omega) dL_law_320 rfl ?_
  refine v_aload_n C dL_law_321 rfl 1 rfl ?_
  refine v_invSX C (np := 4) (As := [.ref (a 2 0), .int (xs (i + 1)), .int (xs (i + 2)), .ref (a 14 0)]) (q1 0 rfl rfl) (q2 57 rfl rfl) L_L_126 (q2 56 rfl rfl) ⟨by decide, by decide, by decide +kernel⟩ (c_L_miner (e := minerE z nm (xs (i + 1)) (xs (i + 2))) (P2 := Mid G (a 2 0) (a 0 0) (a 14 0) (su (minerS z nm (xs (i + 1)) (xs (i + 2))) 60 0 (nI nm)) z (nm + 1) nc nr) hst hG (m2 (s := z) (t := z) (g := G.2.2.1) hL) (c_X7_miner (s := z) (t := z) (nm := nm) hst hG hL hMi T0 (xs (i + 1)) (xs (i + 2)) T0.1 hI.1.1.2 (lv0 T0)) (fun v w0 hv => by
    obtain ⟨rfl, hE, a1, L1, rfl, h2, h3, h4, h5⟩ := hv
    refine ⟨_, wl a1 (E G.2.2.1 a1 (su (minerS z nm (xs (i + 1)) (xs (i + 2))) 60 0 (nI nm)) z) L1, rfl, hE, ?_, a1, L1, _, rfl, h2, ⟨h4 2 0 (by omega), h4 0 0 (by omega), h4 14 0 (by omega)⟩, (h3.frame rfl rfl rfl rfl rfl), (T1.frame (h5 7 1 (Or.inl rfl) (by decide)) (h5 15 1 (Or.inr (Or.inl rfl)) (by decide)) (h5 16 1 (Or.inr (Or.inr rfl)) (by decide)) ((hJ (hQ.symm.trans hE)).cnt.2.1.trans T1.1.1.symm) (congrFun (su_o (by decide)) 0)), (T2.frame (h5 7 2 (Or.inl rfl) (by decide)) (h5 15 2 (Or.inr (Or.inl rfl)) (by decide)) (h5 16 2 (Or.inr (Or.inr rfl)) (by decide)) ((hJ (hQ.symm.trans hE)).cnt.2.2.trans T2.1.1.symm) (congrFun (su_o (by decide)) 0))⟩
    rw [← h4 14 0 (by omega)]
    exact put_out h2 _ rfl)) rfl rfl (by decide) ⟨Nat.le_trans (Nat.add_le_add_left (show 7 ≤ 10 by decide) k) hk.1, Nat.le_trans (Nat.add_le_add_left (show 119 ≤ 200 by decide) n) hk.2⟩ (by decide) dL_law_322 rfl kx_no (fun v w1 hv => ?_)
  obtain ⟨rfl, hv⟩ := hv
  refine xx_mono (k' := k + 10) (n' := n + 200) (Nat.add_le_add_left (show 7 ≤ 10 by decide) k) (Nat.add_le_add_left (show 119 ≤ 200 by decide) n) ?_
  show V X G 7 _ _ _ _ _ _ [.int (minerE z nm (xs (i + 1)) (xs (i + 2)))]
  refine v_istore C (lv1 := (5, .int (minerE z nm (xs (i + 1)) (xs (i + 2)))) :: [(4, .int (nI i)), (3, .ref (a 14 0)), (2, .ref (a 0 0)), (1, .ref (a 2 0)), (0, .ref b)]) dL_law_325 rfl (by decide) rfl ?_
  rcases hv with ⟨hne, rfl⟩ | ⟨h0, hP⟩
  · have he : ¬ minerE z nm (xs (i + 1)) (xs (i + 2)) = 0 := fun q => hne (hQ.trans q)
    have hT : (pU (minerE z nm (xs (i + 1)) (xs (i + 2))) (minerU (su z 45 0 0) nm (xs (i + 1)) (xs (i + 2))) z) = su z 45 0 (minerE z nm (xs (i + 1)) (xs (i + 2))) := (pU_n he)
    refine lwm_miner C S hi (s := z) (z := z) (am := nm) (ac := nc) (ar := nr) ⟨a, La, s0, rfl, hL, ⟨rfl, rfl, rfl⟩, T0, T1, T2⟩ hI (by omega) hk (by rw [hT, hQ]; exact su_a) (fun q => absurd q hne) (fun w' hw' => kk w' ?_)
    rw [hT] at hw'
    exact wi_of hw' (j_err hI hg _)
  · obtain ⟨hT, h45, hRR⟩ := hN (hQ.symm.trans h0)
    refine lwm_miner C S hi (s := su (minerS z nm (xs (i + 1)) (xs (i + 2))) 60 0 (nI nm)) (z := z) (hP) hI (by omega) hk (by rw [hT, h45, h0]) (fun _ => (su_a.trans hRR)) (fun w' hw' => kk w' ?_)
    rw [hT] at hw'
    exact wi_of hw' ((hJ (hQ.symm.trans h0)).out _)

theorem lwc_pass {X : XS} {G : GG} {nme : String} {tb : List ExceptionTableEntry} {w : va_W} {k n : Nat} {Q : State → Prop} {b L i x m o : Nat} {xs : Nat → Int32} {c : Nat} (C : Cx X G cL_law 7 RL (some .boolean) room_1 nme tb) (S : Scr X G b L xs) (hi : i + 5 ≤ L) (hMi : MiOK G) (hW : WI G x m o c w) (hc : c < 512) (hk : k + 10 ≤ 601024 ∧ n + 200 ≤ 7293034) (kk : ∀ w', WI G x m o (c + 1) w' → V X G 7 w' (k + 10) (n + 200) Q 2124 [(4, .int (nI i)), (3, .ref o), (2, .ref m), (1, .ref x), (0, .ref b)] []) : V X G 7 w k n Q 376 [(4, .int (nI i)), (3, .ref o), (2, .ref m), (1, .ref x), (0, .ref b)] [] := by
  have hst : X.2.1.stackTraces = false := C.2.2.2.2.2.1
  have hG : GOK G := C.2.2.2.2.2.2.2.2.2.1
  obtain ⟨z, nm, nc, nr, nf, ns, dd, ⟨a, La, s0, rfl, hL, ⟨rfl, rfl, rfl⟩, T0, T1, T2⟩, hI, hg⟩ := hW
  have hJ : passE z nm nc nf (xs (i + 1)) = 0 → Jx (psC z nm nc (tn (xs (i + 1)))) (passU (su z 45 0 0) nm nc nf (xs (i + 1))) nm nc nr (c + 1) := fun he => j_pass hI hg he
  have hN : passE z nm nc nf (xs (i + 1)) = 0 → (pU (passE z nm nc nf (xs (i + 1))) (passU (su z 45 0 0) nm nc nf (xs (i + 1))) z) = passU (su z 45 0 0) nm nc nf (xs (i + 1)) ∧ (passU (su z 45 0 0) nm nc nf (xs (i + 1))) 45 0 = 0 ∧ passR z nm nc 0 (xs (i + 1)) = pM (passE z nm nc nf (xs (i + 1))) (passR z nm nc nf (xs (i + 1))) := fun he => ⟨(pU_z he), (k_pass hI he).2, (rfl).trans (pM_0 he).symm⟩
  have hQ : passE z nm nc 0 (xs (i + 1)) = passE z nm nc nf (xs (i + 1)) := rfl
  refine v_aload_n C dL_law_376 rfl 3 rfl ?_
  refine v_aload_n C dL_law_377 rfl 4 rfl ?_
  refine v_iload C dL_law_378 rfl 0 rfl ?_
  refine v_iconst C (v := 1) dL_law_380 rfl rfl ?_
  refine v_iaddN C i 1 rfl rfl dL_law_381 rfl ?_
  refine v_sld C S (i + 1) (by omega) dL_law_382 rfl ?_
  refine v_aload_n C dL_law_383 rfl 1 rfl ?_
  refine v_invSX C (np := 3) (As := [.ref (a 2 0), .int (xs (i + 1)), .ref (a 14 0)]) (q1 0 rfl rfl) (q2 169 rfl rfl) L_L_130 (q2 168 rfl rfl) ⟨by decide, by decide, by decide +kernel⟩ (c_L_pass (e := passE z nm nc 0 (xs (i + 1))) (P2 := Mid G (a 2 0) (a 0 0) (a 14 0) (su (psC z nm nc (tn (xs (i + 1)))) 60 0 (passR z nm nc 0 (xs (i + 1)))) z nm nc nr) hst hG (m2 (s := z) (t := z) (g := G.2.2.1) hL) (c_X7_pass (s := z) (t := z) (nm := nm) (nc := nc) hst hG hL (xs (i + 1)) T0.1 hI.1.1.2 (lv0 T0) T1.1 (lv1 T1) hI.2.2.2.2.1.1) (fun v w0 hv => by obtain ⟨rfl, rfl, hE⟩ := hv; exact ⟨_, wl a (E G.2.2.1 a (su (psC z nm nc (tn (xs (i + 1)))) 60 0 (passR z nm nc 0 (xs (i + 1)))) z) La, rfl, hE, put_out hL _ rfl, a, La, s0, rfl, hL, ⟨rfl, rfl, rfl⟩, T0.frame rfl rfl rfl (((congrFun (su_o (by decide)) 0).trans (hJ (hQ.symm.trans hE)).cnt.1).trans T0.1.1.symm) rfl, T1.frame rfl rfl rfl (((congrFun (su_o (by decide)) 0).trans (hJ (hQ.symm.trans hE)).cnt.2.1).trans T1.1.1.symm) rfl, T2.frame rfl rfl rfl (((congrFun (su_o (by decide)) 0).trans (hJ (hQ.symm.trans hE)).cnt.2.2).trans T2.1.1.symm) rfl⟩)) rfl rfl (by decide) ⟨Nat.le_trans (Nat.add_le_add_left (show 2 ≤ 10 by decide) k) hk.1, Nat.le_trans (Nat.add_le_add_left (show 12 ≤ 200 by decide) n) hk.2⟩ (by decide) dL_law_384 rfl kx_no (fun v w1 hv => ?_)
  obtain ⟨rfl, hv⟩ := hv
  refine xx_mono (k' := k + 10) (n' := n + 200) (Nat.add_le_add_left (show 2 ≤ 10 by decide) k) (Nat.add_le_add_left (show 12 ≤ 200 by decide) n) ?_
  show V X G 7 _ _ _ _ _ _ [.int (passE z nm nc 0 (xs (i + 1)))]
  refine v_istore C (lv1 := (5, .int (passE z nm nc 0 (xs (i + 1)))) :: [(4, .int (nI i)), (3, .ref (a 14 0)), (2, .ref (a 0 0)), (1, .ref (a 2 0)), (0, .ref b)]) dL_law_387 rfl (by decide) rfl ?_
  rcases hv with ⟨hne, rfl⟩ | ⟨h0, hP⟩
  · have he : ¬ passE z nm nc nf (xs (i + 1)) = 0 := fun q => hne (hQ.trans q)
    have hT : (pU (passE z nm nc nf (xs (i + 1))) (passU (su z 45 0 0) nm nc nf (xs (i + 1))) z) = su z 45 0 (passE z nm nc nf (xs (i + 1))) := (pU_n he)
    refine lwm_pass C S hi (s := z) (z := z) (am := nm) (ac := nc) (ar := nr) ⟨a, La, s0, rfl, hL, ⟨rfl, rfl, rfl⟩, T0, T1, T2⟩ hI (by omega) hk (by rw [hT, hQ]; exact su_a) (fun q => absurd q hne) (fun w' hw' => kk w' ?_)
    rw [hT] at hw'
    exact wi_of hw' (j_err hI hg _)
  · obtain ⟨hT, h45, hRR⟩ := hN (hQ.symm.trans h0)
    refine lwm_pass C S hi (s := su (psC z nm nc (tn (xs (i + 1)))) 60 0 (passR z nm nc 0 (xs (i + 1)))) (z := z) (hP) hI (by omega) hk (by rw [hT, h45, h0]) (fun _ => (su_a.trans hRR)) (fun w' hw' => kk w' ?_)
    rw [hT] at hw'
    exact wi_of hw' ((hJ (hQ.symm.trans h0)).out _)

theorem lwc_meet {X : XS} {G : GG} {nme : String} {tb : List ExceptionTableEntry} {w : va_W} {k n : Nat} {Q : State → Prop} {b L i x m o : Nat} {xs : Nat → Int32} {c : Nat} (C : Cx X G cL_law 7 RL (some .boolean) room_1 nme tb) (S : Scr X G b L xs) (hi : i + 5 ≤ L) (hMi : MiOK G) (hW : WI G x m o c w) (hc : c < 512) (hk : k + 10 ≤ 601024 ∧ n + 200 ≤ 7293034) (kk : ∀ w', WI G x m o (c + 1) w' → V X G 7 w' (k + 10) (n + 200) Q 2124 [(4, .int (nI i)), (3, .ref o), (2, .ref m), (1, .ref x), (0, .ref b)] []) : V X G 7 w k n Q 432 [(4, .int (nI i)), (3, .ref o), (2, .ref m), (1, .ref x), (0, .ref b)] [] := by
  have hst : X.2.1.stackTraces = false := C.2.2.2.2.2.1
  have hG : GOK G := C.2.2.2.2.2.2.2.2.2.1
  obtain ⟨z, nm, nc, nr, nf, ns, dd, ⟨a, La, s0, rfl, hL, ⟨rfl, rfl, rfl⟩, T0, T1, T2⟩, hI, hg⟩ := hW
  have hJ : meetE z nm (xs (i + 1)) (xs (i + 2)) (xs (i + 3)) (xs (i + 4)) = 0 → Jx (meetU z nm (xs (i + 1)) (xs (i + 2)) (xs (i + 3)) (xs (i + 4))) (meetU (su z 45 0 0) nm (xs (i + 1)) (xs (i + 2)) (xs (i + 3)) (xs (i + 4))) nm nc nr (c + 1) := fun he => j_meet hI hg
  have hN : meetE z nm (xs (i + 1)) (xs (i + 2)) (xs (i + 3)) (xs (i + 4)) = 0 → (pU (meetE z nm (xs (i + 1)) (xs (i + 2)) (xs (i + 3)) (xs (i + 4))) (meetU (su z 45 0 0) nm (xs (i + 1)) (xs (i + 2)) (xs (i + 3)) (xs (i + 4))) z) = meetU (su z 45 0 0) nm (xs (i + 1)) (xs (i + 2)) (xs (i + 3)) (xs (i + 4)) ∧ (meetU (su z 45 0 0) nm (xs (i + 1)) (xs (i + 2)) (xs (i + 3)) (xs (i + 4))) 45 0 = 0 ∧ meetR z nm (xs (i + 1)) (xs (i + 2)) (xs (i + 3)) (xs (i + 4)) = pM (meetE z nm (xs (i + 1)) (xs (i + 2)) (xs (i + 3)) (xs (i + 4))) (meetR z nm (xs (i + 1)) (xs (i + 2)) (xs (i + 3)) (xs (i + 4))) := fun he => ⟨(pU_z he), (k_meet hI).2, (rfl).trans (pM_0 he).symm⟩
  have hQ : meetE z nm (xs (i + 1)) (xs (i + 2)) (xs (i + 3)) (xs (i + 4)) = meetE z nm (xs (i + 1)) (xs (i + 2)) (xs (i + 3)) (xs (i + 4)) := rfl
  refine v_aload_n C dL_law_432 rfl 3 rfl ?_
  refine v_aload_n C dL_law_433 rfl 4 rfl ?_
  refine v_iload C dL_law_434 rfl 0 rfl ?_
  refine v_iconst C (v := 1) dL_law_436 rfl rfl ?_
  refine v_iaddN C i 1 rfl rfl dL_law_437 rfl ?_
  refine v_sld C S (i + 1) (by omega) dL_law_438 rfl ?_
  refine v_aload_n C dL_law_439 rfl 4 rfl ?_
  refine v_iload C dL_law_440 rfl 0 rfl ?_
  refine v_iconst C (v := 2) dL_law_442 rfl rfl ?_
  refine v_iaddN C i 2 rfl rfl dL_law_443 rfl ?_
  refine v_sld C S (i + 2) (by omega) dL_law_444 rfl ?_
  refine v_aload_n C dL_law_445 rfl 4 rfl ?_
  refine v_iload C dL_law_446 rfl 0 rfl ?_
  refine v_iconst C (v := 3) dL_law_448 rfl rfl ?_
  refine v_iaddN C i 3 rfl rfl dL_law_449 rfl ?_
  refine v_sld C S (i + 3) (by omega) dL_law_450 rfl ?_
  refine v_aload_n C dL_law_451 rfl 4 rfl ?_
  refine v_iload C dL_law_452 rfl 0 rfl ?_
  refine v_iconst C (v := 4) dL_law_454 rfl rfl ?_
  refine v_iaddN C i 4 rfl rfl dL_law_455 rfl ?_
  refine v_sld C S (i + 4) (by omega) dL_law_456 rfl ?_
  refine v_aload_n C dL_law_457 rfl 1 rfl ?_
  refine v_invSX C (np := 6) (As := [.ref (a 2 0), .int (xs (i + 1)), .int (xs (i + 2)), .int (xs (i + 3)), .int (xs (i + 4)), .ref (a 14 0)]) (q1 0 rfl rfl) (q2 227 rfl rfl) L_L_133 (q2 226 rfl rfl) ⟨by decide, by decide, by decide +kernel⟩ (c_L_meet (e := meetE z nm (xs (i + 1)) (xs (i + 2)) (xs (i + 3)) (xs (i + 4))) (P2 := Mid G (a 2 0) (a 0 0) (a 14 0) (su (meetU z nm (xs (i + 1)) (xs (i + 2)) (xs (i + 3)) (xs (i + 4))) 60 0 (if meetR z nm (xs (i + 1)) (xs (i + 2)) (xs (i + 3)) (xs (i + 4)) = 0 then 0 else 1)) z nm nc nr) hst hG (m2 (s := z) (t := z) (g := G.2.2.1) hL) (c_X7_meet (s := z) (t := z) (nm := nm) hst hG hL (xs (i + 1)) (xs (i + 2)) (xs (i + 3)) (xs (i + 4)) T0.1 hI.1.1.2 (lv0 T0)) (fun v w0 hv => by obtain ⟨rfl, rfl, hE⟩ := hv; exact ⟨_, wl a (E G.2.2.1 a (su (meetU z nm (xs (i + 1)) (xs (i + 2)) (xs (i + 3)) (xs (i + 4))) 60 0 (if meetR z nm (xs (i + 1)) (xs (i + 2)) (xs (i + 3)) (xs (i + 4)) = 0 then 0 else 1)) z) La, rfl, hE, put_out hL _ (by split <;> rfl), a, La, s0, rfl, hL, ⟨rfl, rfl, rfl⟩, T0.frame rfl rfl rfl (((congrFun (su_o (by decide)) 0).trans (hJ (hQ.symm.trans hE)).cnt.1).trans T0.1.1.symm) rfl, T1.frame rfl rfl rfl (((congrFun (su_o (by decide)) 0).trans (hJ (hQ.symm.trans hE)).cnt.2.1).trans T1.1.1.symm) rfl, T2.frame rfl rfl rfl (((congrFun (su_o (by decide)) 0).trans (hJ (hQ.symm.trans hE)).cnt.2.2).trans T2.1.1.symm) rfl⟩)) rfl rfl (by decide) ⟨Nat.le_trans (Nat.add_le_add_left (show 5 ≤ 10 by decide) k) hk.1, Nat.le_trans (Nat.add_le_add_left (show 30 ≤ 200 by decide) n) hk.2⟩ (by decide) dL_law_458 rfl kx_no (fun v w1 hv => ?_)
  obtain ⟨rfl, hv⟩ := hv
  refine xx_mono (k' := k + 10) (n' := n + 200) (Nat.add_le_add_left (show 5 ≤ 10 by decide) k) (Nat.add_le_add_left (show 30 ≤ 200 by decide) n) ?_
  show V X G 7 _ _ _ _ _ _ [.int (meetE z nm (xs (i + 1)) (xs (i + 2)) (xs (i + 3)) (xs (i + 4)))]
  refine v_istore C (lv1 := (5, .int (meetE z nm (xs (i + 1)) (xs (i + 2)) (xs (i + 3)) (xs (i + 4)))) :: [(4, .int (nI i)), (3, .ref (a 14 0)), (2, .ref (a 0 0)), (1, .ref (a 2 0)), (0, .ref b)]) dL_law_461 rfl (by decide) rfl ?_
  rcases hv with ⟨hne, rfl⟩ | ⟨h0, hP⟩
  · have he : ¬ meetE z nm (xs (i + 1)) (xs (i + 2)) (xs (i + 3)) (xs (i + 4)) = 0 := fun q => hne (hQ.trans q)
    have hT : (pU (meetE z nm (xs (i + 1)) (xs (i + 2)) (xs (i + 3)) (xs (i + 4))) (meetU (su z 45 0 0) nm (xs (i + 1)) (xs (i + 2)) (xs (i + 3)) (xs (i + 4))) z) = su z 45 0 (meetE z nm (xs (i + 1)) (xs (i + 2)) (xs (i + 3)) (xs (i + 4))) := (pU_n he)
    refine lwm_meet C S hi (s := z) (z := z) (am := nm) (ac := nc) (ar := nr) ⟨a, La, s0, rfl, hL, ⟨rfl, rfl, rfl⟩, T0, T1, T2⟩ hI (by omega) hk (by rw [hT, hQ]; exact su_a) (fun q => absurd q hne) (fun w' hw' => kk w' ?_)
    rw [hT] at hw'
    exact wi_of hw' (j_err hI hg _)
  · obtain ⟨hT, h45, hRR⟩ := hN (hQ.symm.trans h0)
    refine lwm_meet C S hi (s := su (meetU z nm (xs (i + 1)) (xs (i + 2)) (xs (i + 3)) (xs (i + 4))) 60 0 (if meetR z nm (xs (i + 1)) (xs (i + 2)) (xs (i + 3)) (xs (i + 4)) = 0 then 0 else 1)) (z := z) (hP) hI (by omega) hk (by rw [hT, h45, h0]) (fun _ => su_a.trans (congrArg (fun q : Int32 => if q = 0 then (0 : Int32) else 1) hRR)) (fun w' hw' => kk w' ?_)
    rw [hT] at hw'
    exact wi_of hw' ((hJ (hQ.symm.trans h0)).out _)

theorem lwc_peg {X : XS} {G : GG} {nme : String} {tb : List ExceptionTableEntry} {w : va_W} {k n : Nat} {Q : State → Prop} {b L i x m o : Nat} {xs : Nat → Int32} {c : Nat} (C : Cx X G cL_law 7 RL (some .boolean) room_1 nme tb) (S : Scr X G b L xs) (hi : i + 5 ≤ L) (hMi : MiOK G) (hW : WI G x m o c w) (hc : c < 512) (hk : k + 10 ≤ 601024 ∧ n + 200 ≤ 7293034) (kk : ∀ w', WI G x m o (c + 1) w' → V X G 7 w' (k + 10) (n + 200) Q 2124 [(4, .int (nI i)), (3, .ref o), (2, .ref m), (1, .ref x), (0, .ref b)] []) : V X G 7 w k n Q 531 [(4, .int (nI i)), (3, .ref o), (2, .ref m), (1, .ref x), (0, .ref b)] [] := by
  have hst : X.2.1.stackTraces = false := C.2.2.2.2.2.1
  have hG : GOK G := C.2.2.2.2.2.2.2.2.2.1
  obtain ⟨z, nm, nc, nr, nf, ns, dd, ⟨a, La, s0, rfl, hL, ⟨rfl, rfl, rfl⟩, T0, T1, T2⟩, hI, hg⟩ := hW
  have hJ : pegE z nc (xs (i + 1)) (xs (i + 2)) (xs (i + 3)) = 0 → Jx (pegS z nc (xs (i + 1)) (xs (i + 2)) (xs (i + 3))) (pegU (su z 45 0 0) nc (xs (i + 1)) (xs (i + 2)) (xs (i + 3))) nm (nc + 1) nr (c + 1) := fun he => j_peg hI hg he
  have hN : pegE z nc (xs (i + 1)) (xs (i + 2)) (xs (i + 3)) = 0 → (pU (pegE z nc (xs (i + 1)) (xs (i + 2)) (xs (i + 3))) (pegU (su z 45 0 0) nc (xs (i + 1)) (xs (i + 2)) (xs (i + 3))) z) = pegU (su z 45 0 0) nc (xs (i + 1)) (xs (i + 2)) (xs (i + 3)) ∧ (pegU (su z 45 0 0) nc (xs (i + 1)) (xs (i + 2)) (xs (i + 3))) 45 0 = 0 ∧ nI nc = pM (pegE z nc (xs (i + 1)) (xs (i + 2)) (xs (i + 3))) (pegR z nc (xs (i + 1)) (xs (i + 2)) (xs (i + 3))) := fun he => ⟨(pU_z he), (k_peg hI he).2, (rfl).trans (pM_0 he).symm⟩
  have hQ : pegEC z nc (xs (i + 1)) (xs (i + 2)) (xs (i + 3)) = pegE z nc (xs (i + 1)) (xs (i + 2)) (xs (i + 3)) := k_pegE hI
  refine v_aload_n C dL_law_531 rfl 3 rfl ?_
  refine v_aload_n C dL_law_532 rfl 4 rfl ?_
  refine v_iload C dL_law_533 rfl 0 rfl ?_
  refine v_iconst C (v := 1) dL_law_535 rfl rfl ?_
  refine v_iaddN C i 1 rfl rfl dL_law_536 rfl ?_
  refine v_sld C S (i + 1) (by omega) dL_law_537 rfl ?_
  refine v_aload_n C dL_law_538 rfl 4 rfl ?_
  refine v_iload C dL_law_539 rfl 0 rfl ?_
  refine v_iconst C (v := 2) dL_law_541 rfl rfl ?_
  refine v_iaddN C i 2 rfl rfl dL_law_542 rfl ?_
  refine v_sld C S (i + 2) (by omega) dL_law_543 rfl ?_
  refine v_aload_n C dL_law_544 rfl 4 rfl ?_
  refine v_iload C dL_law_545 rfl 0 rfl ?_
  refine v_iconst C (v := 3) dL_law_547 rfl rfl ?_
  refine v_iaddN C i 3 rfl rfl dL_law_548 rfl ?_
  refine v_sld C S (i + 3) (by omega) dL_law_549 rfl ?_
  refine v_aload_n C dL_law_550 rfl 1 rfl ?_
  refine v_invSX C (np := 5) (As := [.ref (a 2 0), .int (xs (i + 1)), .int (xs (i + 2)), .int (xs (i + 3)), .ref (a 14 0)]) (q1 0 rfl rfl) (q2 238 rfl rfl) L_L_137 (q2 237 rfl rfl) ⟨by decide, by decide, by decide +kernel⟩ (c_L_peg (e := pegEC z nc (xs (i + 1)) (xs (i + 2)) (xs (i + 3))) (P2 := Mid G (a 2 0) (a 0 0) (a 14 0) (su (pegS z nc (xs (i + 1)) (xs (i + 2)) (xs (i + 3))) 60 0 (nI nc)) z nm (nc + 1) nr) hst hG (m2 (s := z) (t := z) (g := G.2.2.1) hL) (c_X7_peg (s := z) (t := z) (nm := nm) (nc := nc) hst hG hL hMi T1 (xs (i + 1)) (xs (i + 2)) (xs (i + 3)) T0.1 hI.1.1.2 (lv0 T0) T1.1 (lv1 T1)) (fun v w0 hv => by
    obtain ⟨rfl, hE, a1, L1, rfl, h2, h3, h4, h5⟩ := hv
    refine ⟨_, wl a1 (E G.2.2.1 a1 (su (pegS z nc (xs (i + 1)) (xs (i + 2)) (xs (i + 3))) 60 0 (nI nc)) z) L1, rfl, hE, ?_, a1, L1, _, rfl, h2, ⟨h4 2 0 (by omega), h4 0 0 (by omega), h4 14 0 (by omega)⟩, (T0.frame (h5 7 0 (Or.inl rfl) (by decide)) (h5 15 0 (Or.inr (Or.inl rfl)) (by decide)) (h5 16 0 (Or.inr (Or.inr rfl)) (by decide)) ((hJ (hQ.symm.trans hE)).cnt.1.trans T0.1.1.symm) (congrFun (su_o (by decide)) 0)), (h3.frame rfl rfl rfl rfl rfl), (T2.frame (h5 7 2 (Or.inl rfl) (by decide)) (h5 15 2 (Or.inr (Or.inl rfl)) (by decide)) (h5 16 2 (Or.inr (Or.inr rfl)) (by decide)) ((hJ (hQ.symm.trans hE)).cnt.2.2.trans T2.1.1.symm) (congrFun (su_o (by decide)) 0))⟩
    rw [← h4 14 0 (by omega)]
    exact put_out h2 _ rfl)) rfl rfl (by decide) ⟨Nat.le_trans (Nat.add_le_add_left (show 7 ≤ 10 by decide) k) hk.1, Nat.le_trans (Nat.add_le_add_left (show 81 ≤ 200 by decide) n) hk.2⟩ (by decide) dL_law_551 rfl kx_no (fun v w1 hv => ?_)
  obtain ⟨rfl, hv⟩ := hv
  refine xx_mono (k' := k + 10) (n' := n + 200) (Nat.add_le_add_left (show 7 ≤ 10 by decide) k) (Nat.add_le_add_left (show 81 ≤ 200 by decide) n) ?_
  show V X G 7 _ _ _ _ _ _ [.int (pegEC z nc (xs (i + 1)) (xs (i + 2)) (xs (i + 3)))]
  refine v_istore C (lv1 := (5, .int (pegEC z nc (xs (i + 1)) (xs (i + 2)) (xs (i + 3)))) :: [(4, .int (nI i)), (3, .ref (a 14 0)), (2, .ref (a 0 0)), (1, .ref (a 2 0)), (0, .ref b)]) dL_law_554 rfl (by decide) rfl ?_
  rcases hv with ⟨hne, rfl⟩ | ⟨h0, hP⟩
  · have he : ¬ pegE z nc (xs (i + 1)) (xs (i + 2)) (xs (i + 3)) = 0 := fun q => hne (hQ.trans q)
    have hT : (pU (pegE z nc (xs (i + 1)) (xs (i + 2)) (xs (i + 3))) (pegU (su z 45 0 0) nc (xs (i + 1)) (xs (i + 2)) (xs (i + 3))) z) = su z 45 0 (pegE z nc (xs (i + 1)) (xs (i + 2)) (xs (i + 3))) := (pU_n he)
    refine lwm_peg C S hi (s := z) (z := z) (am := nm) (ac := nc) (ar := nr) ⟨a, La, s0, rfl, hL, ⟨rfl, rfl, rfl⟩, T0, T1, T2⟩ hI (by omega) hk (by rw [hT, hQ]; exact su_a) (fun q => absurd q hne) (fun w' hw' => kk w' ?_)
    rw [hT] at hw'
    exact wi_of hw' (j_err hI hg _)
  · obtain ⟨hT, h45, hRR⟩ := hN (hQ.symm.trans h0)
    refine lwm_peg C S hi (s := su (pegS z nc (xs (i + 1)) (xs (i + 2)) (xs (i + 3))) 60 0 (nI nc)) (z := z) (hP) hI (by omega) hk (by rw [hT, h45, h0]) (fun _ => (su_a.trans hRR)) (fun w' hw' => kk w' ?_)
    rw [hT] at hw'
    exact wi_of hw' ((hJ (hQ.symm.trans h0)).out _)

theorem lwc_right {X : XS} {G : GG} {nme : String} {tb : List ExceptionTableEntry} {w : va_W} {k n : Nat} {Q : State → Prop} {b L i x m o : Nat} {xs : Nat → Int32} {c : Nat} (C : Cx X G cL_law 7 RL (some .boolean) room_1 nme tb) (S : Scr X G b L xs) (hi : i + 5 ≤ L) (hMi : MiOK G) (hW : WI G x m o c w) (hc : c < 512) (hk : k + 10 ≤ 601024 ∧ n + 200 ≤ 7293034) (kk : ∀ w', WI G x m o (c + 1) w' → V X G 7 w' (k + 10) (n + 200) Q 2124 [(4, .int (nI i)), (3, .ref o), (2, .ref m), (1, .ref x), (0, .ref b)] []) : V X G 7 w k n Q 611 [(4, .int (nI i)), (3, .ref o), (2, .ref m), (1, .ref x), (0, .ref b)] [] := by
  have hst : X.2.1.stackTraces = false := C.2.2.2.2.2.1
  have hG : GOK G := C.2.2.2.2.2.2.2.2.2.1
  obtain ⟨z, nm, nc, nr, nf, ns, dd, ⟨a, La, s0, rfl, hL, ⟨rfl, rfl, rfl⟩, T0, T1, T2⟩, hI, hg⟩ := hW
  have hJ : rightE z nr (xs (i + 1)) (xs (i + 2)) = 0 → Jx (su (rightU z nr (xs (i + 1)) (xs (i + 2))) 55 2 (z 55 2 + 1)) (rightU (su z 45 0 0) nr (xs (i + 1)) (xs (i + 2))) nm nc (nr + 1) (c + 1) := fun he => j_right hI hg he
  have hN : rightE z nr (xs (i + 1)) (xs (i + 2)) = 0 → (pU (rightE z nr (xs (i + 1)) (xs (i + 2))) (rightU (su z 45 0 0) nr (xs (i + 1)) (xs (i + 2))) z) = rightU (su z 45 0 0) nr (xs (i + 1)) (xs (i + 2)) ∧ (rightU (su z 45 0 0) nr (xs (i + 1)) (xs (i + 2))) 45 0 = 0 ∧ nI nr = pM (rightE z nr (xs (i + 1)) (xs (i + 2))) (rightR z nr (xs (i + 1)) (xs (i + 2))) := fun he => ⟨(pU_z he), (k_right hI he).2, (rfl).trans (pM_0 he).symm⟩
  have hQ : rightE z nr (xs (i + 1)) (xs (i + 2)) = rightE z nr (xs (i + 1)) (xs (i + 2)) := rfl
  refine v_aload_n C dL_law_611 rfl 3 rfl ?_
  refine v_aload_n C dL_law_612 rfl 4 rfl ?_
  refine v_iload C dL_law_613 rfl 0 rfl ?_
  refine v_iconst C (v := 1) dL_law_615 rfl rfl ?_
  refine v_iaddN C i 1 rfl rfl dL_law_616 rfl ?_
  refine v_sld C S (i + 1) (by omega) dL_law_617 rfl ?_
  refine v_aload_n C dL_law_618 rfl 4 rfl ?_
  refine v_iload C dL_law_619 rfl 0 rfl ?_
  refine v_iconst C (v := 2) dL_law_621 rfl rfl ?_
  refine v_iaddN C i 2 rfl rfl dL_law_622 rfl ?_
  refine v_sld C S (i + 2) (by omega) dL_law_623 rfl ?_
  refine v_aload_n C dL_law_624 rfl 1 rfl ?_
  refine v_invSX C (np := 4) (As := [.ref (a 2 0), .int (xs (i + 1)), .int (xs (i + 2)), .ref (a 14 0)]) (q1 0 rfl rfl) (q3 72 rfl rfl) L_L_140 (q3 71 rfl rfl) ⟨by decide, by decide, by decide +kernel⟩ (c_L_right (e := rightE z nr (xs (i + 1)) (xs (i + 2))) (P2 := Mid G (a 2 0) (a 0 0) (a 14 0) (su (su (rightU z nr (xs (i + 1)) (xs (i + 2))) 55 2 (z 55 2 + 1)) 60 0 (nI nr)) z nm nc (nr + 1)) hst hG (m2 (s := z) (t := z) (g := G.2.2.1) hL) (c_X7_right (s := z) (t := z) (nm := nm) (nr := nr) hst hG hL hMi T2 (xs (i + 1)) (xs (i + 2)) T0.1 hI.1.1.2 (lv0 T0) T2.1 hI.1.2.2.1.2 (lv2 T2)) (fun v w0 hv => by
    obtain ⟨rfl, hE, a1, L1, rfl, h2, h3, h4, h5⟩ := hv
    refine ⟨_, wl a1 (E G.2.2.1 a1 (su (su (rightU z nr (xs (i + 1)) (xs (i + 2))) 55 2 (z 55 2 + 1)) 60 0 (nI nr)) z) L1, rfl, hE, ?_, a1, L1, _, rfl, h2, ⟨h4 2 0 (by omega), h4 0 0 (by omega), h4 14 0 (by omega)⟩, (T0.frame (h5 7 0 (Or.inl rfl) (by decide)) (h5 15 0 (Or.inr (Or.inl rfl)) (by decide)) (h5 16 0 (Or.inr (Or.inr rfl)) (by decide)) ((hJ (hQ.symm.trans hE)).cnt.1.trans T0.1.1.symm) (congrFun (su_o (by decide)) 0)), (T1.frame (h5 7 1 (Or.inl rfl) (by decide)) (h5 15 1 (Or.inr (Or.inl rfl)) (by decide)) (h5 16 1 (Or.inr (Or.inr rfl)) (by decide)) ((hJ (hQ.symm.trans hE)).cnt.2.1.trans T1.1.1.symm) (congrFun (su_o (by decide)) 0)), (h3.frame rfl rfl rfl rfl rfl)⟩
    rw [← h4 14 0 (by omega)]
    exact put_out h2 _ rfl)) rfl rfl (by decide) ⟨Nat.le_trans (Nat.add_le_add_left (show 5 ≤ 10 by decide) k) hk.1, Nat.le_trans (Nat.add_le_add_left (show 60 ≤ 200 by decide) n) hk.2⟩ (by decide) dL_law_625 rfl kx_no (fun v w1 hv => ?_)
  obtain ⟨rfl, hv⟩ := hv
  refine xx_mono (k' := k + 10) (n' := n + 200) (Nat.add_le_add_left (show 5 ≤ 10 by decide) k) (Nat.add_le_add_left (show 60 ≤ 200 by decide) n) ?_
  show V X G 7 _ _ _ _ _ _ [.int (rightE z nr (xs (i + 1)) (xs (i + 2)))]
  refine v_istore C (lv1 := (5, .int (rightE z nr (xs (i + 1)) (xs (i + 2)))) :: [(4, .int (nI i)), (3, .ref (a 14 0)), (2, .ref (a 0 0)), (1, .ref (a 2 0)), (0, .ref b)]) dL_law_628 rfl (by decide) rfl ?_
  rcases hv with ⟨hne, rfl⟩ | ⟨h0, hP⟩
  · have he : ¬ rightE z nr (xs (i + 1)) (xs (i + 2)) = 0 := fun q => hne (hQ.trans q)
    have hT : (pU (rightE z nr (xs (i + 1)) (xs (i + 2))) (rightU (su z 45 0 0) nr (xs (i + 1)) (xs (i + 2))) z) = su z 45 0 (rightE z nr (xs (i + 1)) (xs (i + 2))) := (pU_n he)
    refine lwm_right C S hi (s := z) (z := z) (am := nm) (ac := nc) (ar := nr) ⟨a, La, s0, rfl, hL, ⟨rfl, rfl, rfl⟩, T0, T1, T2⟩ hI (by omega) hk (by rw [hT, hQ]; exact su_a) (fun q => absurd q hne) (fun w' hw' => kk w' ?_)
    rw [hT] at hw'
    exact wi_of hw' (j_err hI hg _)
  · obtain ⟨hT, h45, hRR⟩ := hN (hQ.symm.trans h0)
    refine lwm_right C S hi (s := su (su (rightU z nr (xs (i + 1)) (xs (i + 2))) 55 2 (z 55 2 + 1)) 60 0 (nI nr)) (z := z) (hP) hI (by omega) hk (by rw [hT, h45, h0]) (fun _ => (su_a.trans hRR)) (fun w' hw' => kk w' ?_)
    rw [hT] at hw'
    exact wi_of hw' ((hJ (hQ.symm.trans h0)).out _)

theorem lwc_work {X : XS} {G : GG} {nme : String} {tb : List ExceptionTableEntry} {w : va_W} {k n : Nat} {Q : State → Prop} {b L i x m o : Nat} {xs : Nat → Int32} {c : Nat} (C : Cx X G cL_law 7 RL (some .boolean) room_1 nme tb) (S : Scr X G b L xs) (hi : i + 5 ≤ L) (hMi : MiOK G) (hW : WI G x m o c w) (hc : c < 512) (hk : k + 10 ≤ 601024 ∧ n + 200 ≤ 7293034) (kk : ∀ w', WI G x m o (c + 1) w' → V X G 7 w' (k + 10) (n + 200) Q 2124 [(4, .int (nI i)), (3, .ref o), (2, .ref m), (1, .ref x), (0, .ref b)] []) : V X G 7 w k n Q 679 [(4, .int (nI i)), (3, .ref o), (2, .ref m), (1, .ref x), (0, .ref b)] [] := by
  have hst : X.2.1.stackTraces = false := C.2.2.2.2.2.1
  have hG : GOK G := C.2.2.2.2.2.2.2.2.2.1
  obtain ⟨z, nm, nc, nr, nf, ns, dd, ⟨a, La, s0, rfl, hL, ⟨rfl, rfl, rfl⟩, T0, T1, T2⟩, hI, hg⟩ := hW
  have hJ : workE z nm nc nr (xs (i + 1)) (xs (i + 2)) (xs (i + 3)) = 0 → Jx (workUC z nm nc (xs (i + 1)) (xs (i + 2)) (xs (i + 3))) (workU (su z 45 0 0) nm nc nr (xs (i + 1)) (xs (i + 2)) (xs (i + 3))) nm nc nr (c + 1) := fun he => j_work hI hg (by omega) he
  have hN : workE z nm nc nr (xs (i + 1)) (xs (i + 2)) (xs (i + 3)) = 0 → (pU (workE z nm nc nr (xs (i + 1)) (xs (i + 2)) (xs (i + 3))) (workU (su z 45 0 0) nm nc nr (xs (i + 1)) (xs (i + 2)) (xs (i + 3))) z) = workU (su z 45 0 0) nm nc nr (xs (i + 1)) (xs (i + 2)) (xs (i + 3)) ∧ (workU (su z 45 0 0) nm nc nr (xs (i + 1)) (xs (i + 2)) (xs (i + 3))) 45 0 = 0 ∧ workRC z (xs (i + 2)) (xs (i + 3)) = pM (workE z nm nc nr (xs (i + 1)) (xs (i + 2)) (xs (i + 3))) (workR z nm nc nr (xs (i + 1)) (xs (i + 2)) (xs (i + 3))) := fun he => ⟨(pU_z he), (k_work hI he).2, ((k_workU hI he).2).trans (pM_0 he).symm⟩
  have hQ : workEC z nm nc nr (xs (i + 1)) (xs (i + 2)) (xs (i + 3)) = workE z nm nc nr (xs (i + 1)) (xs (i + 2)) (xs (i + 3)) := k_workE hI
  refine v_aload_n C dL_law_679 rfl 3 rfl ?_
  refine v_aload_n C dL_law_680 rfl 4 rfl ?_
  refine v_iload C dL_law_681 rfl 0 rfl ?_
  refine v_iconst C (v := 1) dL_law_683 rfl rfl ?_
  refine v_iaddN C i 1 rfl rfl dL_law_684 rfl ?_
  refine v_sld C S (i + 1) (by omega) dL_law_685 rfl ?_
  refine v_aload_n C dL_law_686 rfl 4 rfl ?_
  refine v_iload C dL_law_687 rfl 0 rfl ?_
  refine v_iconst C (v := 2) dL_law_689 rfl rfl ?_
  refine v_iaddN C i 2 rfl rfl dL_law_690 rfl ?_
  refine v_sld C S (i + 2) (by omega) dL_law_691 rfl ?_
  refine v_aload_n C dL_law_692 rfl 4 rfl ?_
  refine v_iload C dL_law_693 rfl 0 rfl ?_
  refine v_iconst C (v := 3) dL_law_695 rfl rfl ?_
  refine v_iaddN C i 3 rfl rfl dL_law_696 rfl ?_
  refine v_sld C S (i + 3) (by omega) dL_law_697 rfl ?_
  refine v_aload_n C dL_law_698 rfl 1 rfl ?_
  refine v_invSX C (np := 5) (As := [.ref (a 2 0), .int (xs (i + 1)), .int (xs (i + 2)), .int (xs (i + 3)), .ref (a 14 0)]) (q1 0 rfl rfl) (q3 94 rfl rfl) L_L_143 (q3 93 rfl rfl) ⟨by decide, by decide, by decide +kernel⟩ (c_L_work (e := workEC z nm nc nr (xs (i + 1)) (xs (i + 2)) (xs (i + 3))) (P2 := Mid G (a 2 0) (a 0 0) (a 14 0) (su (workUC z nm nc (xs (i + 1)) (xs (i + 2)) (xs (i + 3))) 60 0 (workRC z (xs (i + 2)) (xs (i + 3)))) z nm nc nr) hst hG (m2 (s := z) (t := z) (g := G.2.2.1) hL) (c_X7_work (s := z) (t := z) (nm := nm) (nc := nc) (nr := nr) hst hG hL (xs (i + 1)) (xs (i + 2)) (xs (i + 3)) T0.1 hI.1.1.2 (lv0 T0) T1.1 (lv1 T1) T2.1 hI.1.2.2.1.2 (lv2 T2) hI.2.2.2.2.1.2) (fun v w0 hv => by obtain ⟨rfl, rfl, hE⟩ := hv; exact ⟨_, wl a (E G.2.2.1 a (su (workUC z nm nc (xs (i + 1)) (xs (i + 2)) (xs (i + 3))) 60 0 (workRC z (xs (i + 2)) (xs (i + 3)))) z) La, rfl, hE, put_out hL _ rfl, a, La, s0, rfl, hL, ⟨rfl, rfl, rfl⟩, T0.frame rfl rfl rfl (((congrFun (su_o (by decide)) 0).trans (hJ (hQ.symm.trans hE)).cnt.1).trans T0.1.1.symm) rfl, T1.frame rfl rfl rfl (((congrFun (su_o (by decide)) 0).trans (hJ (hQ.symm.trans hE)).cnt.2.1).trans T1.1.1.symm) rfl, T2.frame rfl rfl rfl (((congrFun (su_o (by decide)) 0).trans (hJ (hQ.symm.trans hE)).cnt.2.2).trans T2.1.1.symm) rfl⟩)) rfl rfl (by decide) ⟨Nat.le_trans (Nat.add_le_add_left (show 6 ≤ 10 by decide) k) hk.1, Nat.le_trans (Nat.add_le_add_left (show 36 ≤ 200 by decide) n) hk.2⟩ (by decide) dL_law_699 rfl kx_no (fun v w1 hv => ?_)
  obtain ⟨rfl, hv⟩ := hv
  refine xx_mono (k' := k + 10) (n' := n + 200) (Nat.add_le_add_left (show 6 ≤ 10 by decide) k) (Nat.add_le_add_left (show 36 ≤ 200 by decide) n) ?_
  show V X G 7 _ _ _ _ _ _ [.int (workEC z nm nc nr (xs (i + 1)) (xs (i + 2)) (xs (i + 3)))]
  refine v_istore C (lv1 := (5, .int (workEC z nm nc nr (xs (i + 1)) (xs (i + 2)) (xs (i + 3)))) :: [(4, .int (nI i)), (3, .ref (a 14 0)), (2, .ref (a 0 0)), (1, .ref (a 2 0)), (0, .ref b)]) dL_law_702 rfl (by decide) rfl ?_
  rcases hv with ⟨hne, rfl⟩ | ⟨h0, hP⟩
  · have he : ¬ workE z nm nc nr (xs (i + 1)) (xs (i + 2)) (xs (i + 3)) = 0 := fun q => hne (hQ.trans q)
    have hT : (pU (workE z nm nc nr (xs (i + 1)) (xs (i + 2)) (xs (i + 3))) (workU (su z 45 0 0) nm nc nr (xs (i + 1)) (xs (i + 2)) (xs (i + 3))) z) = su z 45 0 (workE z nm nc nr (xs (i + 1)) (xs (i + 2)) (xs (i + 3))) := (pU_n he)
    refine lwm_work C S hi (s := z) (z := z) (am := nm) (ac := nc) (ar := nr) ⟨a, La, s0, rfl, hL, ⟨rfl, rfl, rfl⟩, T0, T1, T2⟩ hI (by omega) hk (by rw [hT, hQ]; exact su_a) (fun q => absurd q hne) (fun w' hw' => kk w' ?_)
    rw [hT] at hw'
    exact wi_of hw' (j_err hI hg _)
  · obtain ⟨hT, h45, hRR⟩ := hN (hQ.symm.trans h0)
    refine lwm_work C S hi (s := su (workUC z nm nc (xs (i + 1)) (xs (i + 2)) (xs (i + 3))) 60 0 (workRC z (xs (i + 2)) (xs (i + 3)))) (z := z) (hP) hI (by omega) hk (by rw [hT, h45, h0]) (fun _ => (su_a.trans hRR)) (fun w' hw' => kk w' ?_)
    rw [hT] at hw'
    exact wi_of hw' ((hJ (hQ.symm.trans h0)).out _)

theorem lwc_sample {X : XS} {G : GG} {nme : String} {tb : List ExceptionTableEntry} {w : va_W} {k n : Nat} {Q : State → Prop} {b L i x m o : Nat} {xs : Nat → Int32} {c : Nat} (C : Cx X G cL_law 7 RL (some .boolean) room_1 nme tb) (S : Scr X G b L xs) (hi : i + 5 ≤ L) (hMi : MiOK G) (hW : WI G x m o c w) (hc : c < 512) (hk : k + 10 ≤ 601024 ∧ n + 200 ≤ 7293034) (kk : ∀ w', WI G x m o (c + 1) w' → V X G 7 w' (k + 10) (n + 200) Q 2124 [(4, .int (nI i)), (3, .ref o), (2, .ref m), (1, .ref x), (0, .ref b)] []) : V X G 7 w k n Q 759 [(4, .int (nI i)), (3, .ref o), (2, .ref m), (1, .ref x), (0, .ref b)] [] := by
  have hst : X.2.1.stackTraces = false := C.2.2.2.2.2.1
  have hG : GOK G := C.2.2.2.2.2.2.2.2.2.1
  obtain ⟨z, nm, nc, nr, nf, ns, dd, ⟨a, La, s0, rfl, hL, ⟨rfl, rfl, rfl⟩, T0, T1, T2⟩, hI, hg⟩ := hW
  have hJ : sampleE z (xs (i + 1)) = 0 → Jx (z) (su z 45 0 0) nm nc nr (c + 1) := fun he => j_err hI hg 0
  have hN : sampleE z (xs (i + 1)) = 0 → (pU (sampleE z (xs (i + 1))) (su z 45 0 0) z) = su z 45 0 0 ∧ (su z 45 0 0) 45 0 = 0 ∧ sampleR z (xs (i + 1)) = pM (sampleE z (xs (i + 1))) (sampleR z (xs (i + 1))) := fun he => ⟨(pU_z he), su_a, (rfl).trans (pM_0 he).symm⟩
  have hQ : sampleE z (xs (i + 1)) = sampleE z (xs (i + 1)) := rfl
  refine v_aload_n C dL_law_759 rfl 3 rfl ?_
  refine v_aload_n C dL_law_760 rfl 4 rfl ?_
  refine v_iload C dL_law_761 rfl 0 rfl ?_
  refine v_iconst C (v := 1) dL_law_763 rfl rfl ?_
  refine v_iaddN C i 1 rfl rfl dL_law_764 rfl ?_
  refine v_sld C S (i + 1) (by omega) dL_law_765 rfl ?_
  refine v_aload_n C dL_law_766 rfl 1 rfl ?_
  refine v_invSX C (np := 3) (As := [.ref (a 2 0), .int (xs (i + 1)), .ref (a 14 0)]) (q1 0 rfl rfl) (q3 153 rfl rfl) L_L_146 (q3 152 rfl rfl) ⟨by decide, by decide, by decide +kernel⟩ (c_L_sample (e := sampleE z (xs (i + 1))) (P2 := Mid G (a 2 0) (a 0 0) (a 14 0) (su (z) 60 0 (sampleR z (xs (i + 1)))) z nm nc nr) hst hG (m2 (s := z) (t := z) (g := G.2.2.1) hL) (c_X7_sample (s := z) (t := z)  hst hG hL (xs (i + 1))) (fun v w0 hv => by obtain ⟨rfl, rfl, hE⟩ := hv; exact ⟨_, wl a (E G.2.2.1 a (su (z) 60 0 (sampleR z (xs (i + 1)))) z) La, rfl, hE, put_out hL _ rfl, a, La, s0, rfl, hL, ⟨rfl, rfl, rfl⟩, T0.frame rfl rfl rfl (((congrFun (su_o (by decide)) 0).trans (hJ (hQ.symm.trans hE)).cnt.1).trans T0.1.1.symm) rfl, T1.frame rfl rfl rfl (((congrFun (su_o (by decide)) 0).trans (hJ (hQ.symm.trans hE)).cnt.2.1).trans T1.1.1.symm) rfl, T2.frame rfl rfl rfl (((congrFun (su_o (by decide)) 0).trans (hJ (hQ.symm.trans hE)).cnt.2.2).trans T2.1.1.symm) rfl⟩)) rfl rfl (by decide) ⟨Nat.le_trans (Nat.add_le_add_left (show 1 ≤ 10 by decide) k) hk.1, Nat.le_trans (Nat.add_le_add_left (show 6 ≤ 200 by decide) n) hk.2⟩ (by decide) dL_law_767 rfl kx_no (fun v w1 hv => ?_)
  obtain ⟨rfl, hv⟩ := hv
  refine xx_mono (k' := k + 10) (n' := n + 200) (Nat.add_le_add_left (show 1 ≤ 10 by decide) k) (Nat.add_le_add_left (show 6 ≤ 200 by decide) n) ?_
  show V X G 7 _ _ _ _ _ _ [.int (sampleE z (xs (i + 1)))]
  refine v_istore C (lv1 := (5, .int (sampleE z (xs (i + 1)))) :: [(4, .int (nI i)), (3, .ref (a 14 0)), (2, .ref (a 0 0)), (1, .ref (a 2 0)), (0, .ref b)]) dL_law_770 rfl (by decide) rfl ?_
  rcases hv with ⟨hne, rfl⟩ | ⟨h0, hP⟩
  · have he : ¬ sampleE z (xs (i + 1)) = 0 := fun q => hne (hQ.trans q)
    have hT : (pU (sampleE z (xs (i + 1))) (su z 45 0 0) z) = su z 45 0 (sampleE z (xs (i + 1))) := (pU_n he)
    refine lwm_sample C S hi (s := z) (z := z) (am := nm) (ac := nc) (ar := nr) ⟨a, La, s0, rfl, hL, ⟨rfl, rfl, rfl⟩, T0, T1, T2⟩ hI (by omega) hk (by rw [hT, hQ]; exact su_a) (fun q => absurd q hne) (fun w' hw' => kk w' ?_)
    rw [hT] at hw'
    exact wi_of hw' (j_err hI hg _)
  · obtain ⟨hT, h45, hRR⟩ := hN (hQ.symm.trans h0)
    refine lwm_sample C S hi (s := su (z) 60 0 (sampleR z (xs (i + 1)))) (z := z) (hP) hI (by omega) hk (by rw [hT, h45, h0]) (fun _ => (su_a.trans hRR)) (fun w' hw' => kk w' ?_)
    rw [hT] at hw'
    exact wi_of hw' ((hJ (hQ.symm.trans h0)).out _)

theorem lwc_salt {X : XS} {G : GG} {nme : String} {tb : List ExceptionTableEntry} {w : va_W} {k n : Nat} {Q : State → Prop} {b L i x m o : Nat} {xs : Nat → Int32} {c : Nat} (C : Cx X G cL_law 7 RL (some .boolean) room_1 nme tb) (S : Scr X G b L xs) (hi : i + 5 ≤ L) (hMi : MiOK G) (hW : WI G x m o c w) (hc : c < 512) (hk : k + 10 ≤ 601024 ∧ n + 200 ≤ 7293034) (kk : ∀ w', WI G x m o (c + 1) w' → V X G 7 w' (k + 10) (n + 200) Q 2124 [(4, .int (nI i)), (3, .ref o), (2, .ref m), (1, .ref x), (0, .ref b)] []) : V X G 7 w k n Q 815 [(4, .int (nI i)), (3, .ref o), (2, .ref m), (1, .ref x), (0, .ref b)] [] := by
  have hst : X.2.1.stackTraces = false := C.2.2.2.2.2.1
  have hG : GOK G := C.2.2.2.2.2.2.2.2.2.1
  obtain ⟨z, nm, nc, nr, nf, ns, dd, ⟨a, La, s0, rfl, hL, ⟨rfl, rfl, rfl⟩, T0, T1, T2⟩, hI, hg⟩ := hW
  have hJ : saltE z ns (xs (i + 1)) (xs (i + 2)) (xs (i + 3)) = 0 → Jx (saltUC z nc (xs (i + 1)) (xs (i + 2)) (xs (i + 3))) (saltU (su z 45 0 0) ns (xs (i + 1)) (xs (i + 2)) (xs (i + 3))) nm nc nr (c + 1) := fun he => j_salt hI hg he
  have hN : saltE z ns (xs (i + 1)) (xs (i + 2)) (xs (i + 3)) = 0 → (pU (saltE z ns (xs (i + 1)) (xs (i + 2)) (xs (i + 3))) (saltU (su z 45 0 0) ns (xs (i + 1)) (xs (i + 2)) (xs (i + 3))) z) = saltU (su z 45 0 0) ns (xs (i + 1)) (xs (i + 2)) (xs (i + 3)) ∧ (saltU (su z 45 0 0) ns (xs (i + 1)) (xs (i + 2)) (xs (i + 3))) 45 0 = 0 ∧ grF (saltUC z nc (xs (i + 1)) (xs (i + 2)) (xs (i + 3))) (xs (i + 2)) = pM (saltE z ns (xs (i + 1)) (xs (i + 2)) (xs (i + 3))) (saltR z ns (xs (i + 1)) (xs (i + 2)) (xs (i + 3))) := fun he => ⟨(pU_z he), (k_salt hI he).2, (k_saltR (nm := nm) (nc := nc) (nr := nr) (nf := nf) (ns := ns) (dd := dd) (cc := c) he).trans (pM_0 he).symm⟩
  have hQ : saltE z 0 (xs (i + 1)) (xs (i + 2)) (xs (i + 3)) = saltE z ns (xs (i + 1)) (xs (i + 2)) (xs (i + 3)) := rfl
  refine v_aload_n C dL_law_815 rfl 3 rfl ?_
  refine v_aload_n C dL_law_816 rfl 4 rfl ?_
  refine v_iload C dL_law_817 rfl 0 rfl ?_
  refine v_iconst C (v := 1) dL_law_819 rfl rfl ?_
  refine v_iaddN C i 1 rfl rfl dL_law_820 rfl ?_
  refine v_sld C S (i + 1) (by omega) dL_law_821 rfl ?_
  refine v_aload_n C dL_law_822 rfl 4 rfl ?_
  refine v_iload C dL_law_823 rfl 0 rfl ?_
  refine v_iconst C (v := 2) dL_law_825 rfl rfl ?_
  refine v_iaddN C i 2 rfl rfl dL_law_826 rfl ?_
  refine v_sld C S (i + 2) (by omega) dL_law_827 rfl ?_
  refine v_aload_n C dL_law_828 rfl 4 rfl ?_
  refine v_iload C dL_law_829 rfl 0 rfl ?_
  refine v_iconst C (v := 3) dL_law_831 rfl rfl ?_
  refine v_iaddN C i 3 rfl rfl dL_law_832 rfl ?_
  refine v_sld C S (i + 3) (by omega) dL_law_833 rfl ?_
  refine v_aload_n C dL_law_834 rfl 1 rfl ?_
  refine v_invSX C (np := 5) (As := [.ref (a 2 0), .int (xs (i + 1)), .int (xs (i + 2)), .int (xs (i + 3)), .ref (a 14 0)]) (q1 0 rfl rfl) (q3 160 rfl rfl) L_L_149 (q3 159 rfl rfl) ⟨by decide, by decide, by decide +kernel⟩ (c_L_salt (e := saltE z 0 (xs (i + 1)) (xs (i + 2)) (xs (i + 3))) (P2 := Mid G (a 2 0) (a 0 0) (a 14 0) (su (saltUC z nc (xs (i + 1)) (xs (i + 2)) (xs (i + 3))) 60 0 (grF (saltUC z nc (xs (i + 1)) (xs (i + 2)) (xs (i + 3))) (xs (i + 2)))) z nm nc nr) hst hG (m2 (s := z) (t := z) (g := G.2.2.1) hL) (c_X7_salt (s := z) (t := z) (nm := nm) (nc := nc) hst hG hL (xs (i + 1)) (xs (i + 2)) (xs (i + 3)) T0.1 hI.1.1.2 (lv0 T0) T1.1 (lv1 T1)) (fun v w0 hv => by obtain ⟨rfl, rfl, hE⟩ := hv; exact ⟨_, wl a (E G.2.2.1 a (su (saltUC z nc (xs (i + 1)) (xs (i + 2)) (xs (i + 3))) 60 0 (grF (saltUC z nc (xs (i + 1)) (xs (i + 2)) (xs (i + 3))) (xs (i + 2)))) z) La, rfl, hE, put_out hL _ rfl, a, La, s0, rfl, hL, ⟨rfl, rfl, rfl⟩, T0.frame rfl rfl rfl (((congrFun (su_o (by decide)) 0).trans (hJ (hQ.symm.trans hE)).cnt.1).trans T0.1.1.symm) rfl, T1.frame rfl rfl rfl (((congrFun (su_o (by decide)) 0).trans (hJ (hQ.symm.trans hE)).cnt.2.1).trans T1.1.1.symm) rfl, T2.frame rfl rfl rfl (((congrFun (su_o (by decide)) 0).trans (hJ (hQ.symm.trans hE)).cnt.2.2).trans T2.1.1.symm) rfl⟩)) rfl rfl (by decide) ⟨Nat.le_trans (Nat.add_le_add_left (show 4 ≤ 10 by decide) k) hk.1, Nat.le_trans (Nat.add_le_add_left (show 24 ≤ 200 by decide) n) hk.2⟩ (by decide) dL_law_835 rfl kx_no (fun v w1 hv => ?_)
  obtain ⟨rfl, hv⟩ := hv
  refine xx_mono (k' := k + 10) (n' := n + 200) (Nat.add_le_add_left (show 4 ≤ 10 by decide) k) (Nat.add_le_add_left (show 24 ≤ 200 by decide) n) ?_
  show V X G 7 _ _ _ _ _ _ [.int (saltE z 0 (xs (i + 1)) (xs (i + 2)) (xs (i + 3)))]
  refine v_istore C (lv1 := (5, .int (saltE z 0 (xs (i + 1)) (xs (i + 2)) (xs (i + 3)))) :: [(4, .int (nI i)), (3, .ref (a 14 0)), (2, .ref (a 0 0)), (1, .ref (a 2 0)), (0, .ref b)]) dL_law_838 rfl (by decide) rfl ?_
  rcases hv with ⟨hne, rfl⟩ | ⟨h0, hP⟩
  · have he : ¬ saltE z ns (xs (i + 1)) (xs (i + 2)) (xs (i + 3)) = 0 := fun q => hne (hQ.trans q)
    have hT : (pU (saltE z ns (xs (i + 1)) (xs (i + 2)) (xs (i + 3))) (saltU (su z 45 0 0) ns (xs (i + 1)) (xs (i + 2)) (xs (i + 3))) z) = su z 45 0 (saltE z ns (xs (i + 1)) (xs (i + 2)) (xs (i + 3))) := (pU_n he)
    refine lwm_salt C S hi (s := z) (z := z) (am := nm) (ac := nc) (ar := nr) ⟨a, La, s0, rfl, hL, ⟨rfl, rfl, rfl⟩, T0, T1, T2⟩ hI (by omega) hk (by rw [hT, hQ]; exact su_a) (fun q => absurd q hne) (fun w' hw' => kk w' ?_)
    rw [hT] at hw'
    exact wi_of hw' (j_err hI hg _)
  · obtain ⟨hT, h45, hRR⟩ := hN (hQ.symm.trans h0)
    refine lwm_salt C S hi (s := su (saltUC z nc (xs (i + 1)) (xs (i + 2)) (xs (i + 3))) 60 0 (grF (saltUC z nc (xs (i + 1)) (xs (i + 2)) (xs (i + 3))) (xs (i + 2)))) (z := z) (hP) hI (by omega) hk (by rw [hT, h45, h0]) (fun _ => (su_a.trans hRR)) (fun w' hw' => kk w' ?_)
    rw [hT] at hw'
    exact wi_of hw' ((hJ (hQ.symm.trans h0)).out _)

theorem lwc_brass {X : XS} {G : GG} {nme : String} {tb : List ExceptionTableEntry} {w : va_W} {k n : Nat} {Q : State → Prop} {b L i x m o : Nat} {xs : Nat → Int32} {c : Nat} (C : Cx X G cL_law 7 RL (some .boolean) room_1 nme tb) (S : Scr X G b L xs) (hi : i + 5 ≤ L) (hMi : MiOK G) (hW : WI G x m o c w) (hc : c < 512) (hk : k + 10 ≤ 601024 ∧ n + 200 ≤ 7293034) (kk : ∀ w', WI G x m o (c + 1) w' → V X G 7 w' (k + 10) (n + 200) Q 2124 [(4, .int (nI i)), (3, .ref o), (2, .ref m), (1, .ref x), (0, .ref b)] []) : V X G 7 w k n Q 895 [(4, .int (nI i)), (3, .ref o), (2, .ref m), (1, .ref x), (0, .ref b)] [] := by
  have hst : X.2.1.stackTraces = false := C.2.2.2.2.2.1
  have hG : GOK G := C.2.2.2.2.2.2.2.2.2.1
  obtain ⟨z, nm, nc, nr, nf, ns, dd, ⟨a, La, s0, rfl, hL, ⟨rfl, rfl, rfl⟩, T0, T1, T2⟩, hI, hg⟩ := hW
  have hJ : brassE z (xs (i + 1)) (xs (i + 2)) = 0 → Jx (brassU z (xs (i + 1)) (xs (i + 2))) (brassU (su z 45 0 0) (xs (i + 1)) (xs (i + 2))) nm nc nr (c + 1) := fun he => j_brass hI hg he
  have hN : brassE z (xs (i + 1)) (xs (i + 2)) = 0 → (pU (brassE z (xs (i + 1)) (xs (i + 2))) (brassU (su z 45 0 0) (xs (i + 1)) (xs (i + 2))) z) = brassU (su z 45 0 0) (xs (i + 1)) (xs (i + 2)) ∧ (brassU (su z 45 0 0) (xs (i + 1)) (xs (i + 2))) 45 0 = 0 ∧ brassR z (xs (i + 1)) (xs (i + 2)) = pM (brassE z (xs (i + 1)) (xs (i + 2))) (brassR z (xs (i + 1)) (xs (i + 2))) := fun he => ⟨(pU_z he), (k_brass hI he).2, (rfl).trans (pM_0 he).symm⟩
  have hQ : brassE z (xs (i + 1)) (xs (i + 2)) = brassE z (xs (i + 1)) (xs (i + 2)) := rfl
  refine v_aload_n C dL_law_895 rfl 3 rfl ?_
  refine v_aload_n C dL_law_896 rfl 4 rfl ?_
  refine v_iload C dL_law_897 rfl 0 rfl ?_
  refine v_iconst C (v := 1) dL_law_899 rfl rfl ?_
  refine v_iaddN C i 1 rfl rfl dL_law_900 rfl ?_
  refine v_sld C S (i + 1) (by omega) dL_law_901 rfl ?_
  refine v_aload_n C dL_law_902 rfl 4 rfl ?_
  refine v_iload C dL_law_903 rfl 0 rfl ?_
  refine v_iconst C (v := 2) dL_law_905 rfl rfl ?_
  refine v_iaddN C i 2 rfl rfl dL_law_906 rfl ?_
  refine v_sld C S (i + 2) (by omega) dL_law_907 rfl ?_
  refine v_aload_n C dL_law_908 rfl 1 rfl ?_
  refine v_invSX C (np := 4) (As := [.ref (a 2 0), .int (xs (i + 1)), .int (xs (i + 2)), .ref (a 14 0)]) (q1 0 rfl rfl) (q3 176 rfl rfl) L_L_152 (q3 175 rfl rfl) ⟨by decide, by decide, by decide +kernel⟩ (c_L_brass (e := brassE z (xs (i + 1)) (xs (i + 2))) (P2 := Mid G (a 2 0) (a 0 0) (a 14 0) (su (brassU z (xs (i + 1)) (xs (i + 2))) 60 0 (brassR z (xs (i + 1)) (xs (i + 2)))) z nm nc nr) hst hG (m2 (s := z) (t := z) (g := G.2.2.1) hL) (c_X7_brass (s := z) (t := z) (nm := nm) hst hG hL (xs (i + 1)) (xs (i + 2)) T0.1 hI.1.1.2 (lv0 T0)) (fun v w0 hv => by obtain ⟨rfl, rfl, hE⟩ := hv; exact ⟨_, wl a (E G.2.2.1 a (su (brassU z (xs (i + 1)) (xs (i + 2))) 60 0 (brassR z (xs (i + 1)) (xs (i + 2)))) z) La, rfl, hE, put_out hL _ rfl, a, La, s0, rfl, hL, ⟨rfl, rfl, rfl⟩, T0.frame rfl rfl rfl (((congrFun (su_o (by decide)) 0).trans (hJ (hQ.symm.trans hE)).cnt.1).trans T0.1.1.symm) rfl, T1.frame rfl rfl rfl (((congrFun (su_o (by decide)) 0).trans (hJ (hQ.symm.trans hE)).cnt.2.1).trans T1.1.1.symm) rfl, T2.frame rfl rfl rfl (((congrFun (su_o (by decide)) 0).trans (hJ (hQ.symm.trans hE)).cnt.2.2).trans T2.1.1.symm) rfl⟩)) rfl rfl (by decide) ⟨Nat.le_trans (Nat.add_le_add_left (show 3 ≤ 10 by decide) k) hk.1, Nat.le_trans (Nat.add_le_add_left (show 18 ≤ 200 by decide) n) hk.2⟩ (by decide) dL_law_909 rfl kx_no (fun v w1 hv => ?_)
  obtain ⟨rfl, hv⟩ := hv
  refine xx_mono (k' := k + 10) (n' := n + 200) (Nat.add_le_add_left (show 3 ≤ 10 by decide) k) (Nat.add_le_add_left (show 18 ≤ 200 by decide) n) ?_
  show V X G 7 _ _ _ _ _ _ [.int (brassE z (xs (i + 1)) (xs (i + 2)))]
  refine v_istore C (lv1 := (5, .int (brassE z (xs (i + 1)) (xs (i + 2)))) :: [(4, .int (nI i)), (3, .ref (a 14 0)), (2, .ref (a 0 0)), (1, .ref (a 2 0)), (0, .ref b)]) dL_law_912 rfl (by decide) rfl ?_
  rcases hv with ⟨hne, rfl⟩ | ⟨h0, hP⟩
  · have he : ¬ brassE z (xs (i + 1)) (xs (i + 2)) = 0 := fun q => hne (hQ.trans q)
    have hT : (pU (brassE z (xs (i + 1)) (xs (i + 2))) (brassU (su z 45 0 0) (xs (i + 1)) (xs (i + 2))) z) = su z 45 0 (brassE z (xs (i + 1)) (xs (i + 2))) := (pU_n he)
    refine lwm_brass C S hi (s := z) (z := z) (am := nm) (ac := nc) (ar := nr) ⟨a, La, s0, rfl, hL, ⟨rfl, rfl, rfl⟩, T0, T1, T2⟩ hI (by omega) hk (by rw [hT, hQ]; exact su_a) (fun q => absurd q hne) (fun w' hw' => kk w' ?_)
    rw [hT] at hw'
    exact wi_of hw' (j_err hI hg _)
  · obtain ⟨hT, h45, hRR⟩ := hN (hQ.symm.trans h0)
    refine lwm_brass C S hi (s := su (brassU z (xs (i + 1)) (xs (i + 2))) 60 0 (brassR z (xs (i + 1)) (xs (i + 2)))) (z := z) (hP) hI (by omega) hk (by rw [hT, h45, h0]) (fun _ => (su_a.trans hRR)) (fun w' hw' => kk w' ?_)
    rw [hT] at hw'
    exact wi_of hw' ((hJ (hQ.symm.trans h0)).out _)

theorem lwc_sell {X : XS} {G : GG} {nme : String} {tb : List ExceptionTableEntry} {w : va_W} {k n : Nat} {Q : State → Prop} {b L i x m o : Nat} {xs : Nat → Int32} {c : Nat} (C : Cx X G cL_law 7 RL (some .boolean) room_1 nme tb) (S : Scr X G b L xs) (hi : i + 5 ≤ L) (hMi : MiOK G) (hW : WI G x m o c w) (hc : c < 512) (hk : k + 10 ≤ 601024 ∧ n + 200 ≤ 7293034) (kk : ∀ w', WI G x m o (c + 1) w' → V X G 7 w' (k + 10) (n + 200) Q 2124 [(4, .int (nI i)), (3, .ref o), (2, .ref m), (1, .ref x), (0, .ref b)] []) : V X G 7 w k n Q 963 [(4, .int (nI i)), (3, .ref o), (2, .ref m), (1, .ref x), (0, .ref b)] [] := by
  have hst : X.2.1.stackTraces = false := C.2.2.2.2.2.1
  have hG : GOK G := C.2.2.2.2.2.2.2.2.2.1
  obtain ⟨z, nm, nc, nr, nf, ns, dd, ⟨a, La, s0, rfl, hL, ⟨rfl, rfl, rfl⟩, T0, T1, T2⟩, hI, hg⟩ := hW
  have hJ : sellE z (xs (i + 1)) (xs (i + 2)) = 0 → Jx (sellUC z (xs (i + 1)) (xs (i + 2))) (sellU (su z 45 0 0) (xs (i + 1)) (xs (i + 2))) nm nc nr (c + 1) := fun he => j_sell hI hg he
  have hN : sellE z (xs (i + 1)) (xs (i + 2)) = 0 → (pU (sellE z (xs (i + 1)) (xs (i + 2))) (sellU (su z 45 0 0) (xs (i + 1)) (xs (i + 2))) z) = sellU (su z 45 0 0) (xs (i + 1)) (xs (i + 2)) ∧ (sellU (su z 45 0 0) (xs (i + 1)) (xs (i + 2))) 45 0 = 0 ∧ sellRC z (xs (i + 1)) (xs (i + 2)) = pM (sellE z (xs (i + 1)) (xs (i + 2))) (sellR z (xs (i + 1)) (xs (i + 2))) := fun he => ⟨(pU_z he), (k_sell hI he).2.1, ((k_sell hI he).2.2).trans (pM_0 he).symm⟩
  have hQ : sellE z (xs (i + 1)) (xs (i + 2)) = sellE z (xs (i + 1)) (xs (i + 2)) := rfl
  refine v_aload_n C dL_law_963 rfl 3 rfl ?_
  refine v_aload_n C dL_law_964 rfl 4 rfl ?_
  refine v_iload C dL_law_965 rfl 0 rfl ?_
  refine v_iconst C (v := 1) dL_law_967 rfl rfl ?_
  refine v_iaddN C i 1 rfl rfl dL_law_968 rfl ?_
  refine v_sld C S (i + 1) (by omega) dL_law_969 rfl ?_
  refine v_aload_n C dL_law_970 rfl 4 rfl ?_
  refine v_iload C dL_law_971 rfl 0 rfl ?_
  refine v_iconst C (v := 2) dL_law_973 rfl rfl ?_
  refine v_iaddN C i 2 rfl rfl dL_law_974 rfl ?_
  refine v_sld C S (i + 2) (by omega) dL_law_975 rfl ?_
  refine v_aload_n C dL_law_976 rfl 1 rfl ?_
  refine v_invSX C (np := 4) (As := [.ref (a 2 0), .int (xs (i + 1)), .int (xs (i + 2)), .ref (a 14 0)]) (q1 0 rfl rfl) (q3 183 rfl rfl) L_L_155 (q3 182 rfl rfl) ⟨by decide, by decide, by decide +kernel⟩ (c_L_sell (e := sellE z (xs (i + 1)) (xs (i + 2))) (P2 := Mid G (a 2 0) (a 0 0) (a 14 0) (su (sellUC z (xs (i + 1)) (xs (i + 2))) 60 0 (sellRC z (xs (i + 1)) (xs (i + 2)))) z nm nc nr) hst hG (m2 (s := z) (t := z) (g := G.2.2.1) hL) (c_X7_sell (s := z) (t := z) (nm := nm) hst hG hL (xs (i + 1)) (xs (i + 2)) T0.1 hI.1.1.2 (lv0 T0)) (fun v w0 hv => by obtain ⟨rfl, rfl, hE⟩ := hv; exact ⟨_, wl a (E G.2.2.1 a (su (sellUC z (xs (i + 1)) (xs (i + 2))) 60 0 (sellRC z (xs (i + 1)) (xs (i + 2)))) z) La, rfl, hE, put_out hL _ rfl, a, La, s0, rfl, hL, ⟨rfl, rfl, rfl⟩, T0.frame rfl rfl rfl (((congrFun (su_o (by decide)) 0).trans (hJ (hQ.symm.trans hE)).cnt.1).trans T0.1.1.symm) rfl, T1.frame rfl rfl rfl (((congrFun (su_o (by decide)) 0).trans (hJ (hQ.symm.trans hE)).cnt.2.1).trans T1.1.1.symm) rfl, T2.frame rfl rfl rfl (((congrFun (su_o (by decide)) 0).trans (hJ (hQ.symm.trans hE)).cnt.2.2).trans T2.1.1.symm) rfl⟩)) rfl rfl (by decide) ⟨Nat.le_trans (Nat.add_le_add_left (show 3 ≤ 10 by decide) k) hk.1, Nat.le_trans (Nat.add_le_add_left (show 18 ≤ 200 by decide) n) hk.2⟩ (by decide) dL_law_977 rfl kx_no (fun v w1 hv => ?_)
  obtain ⟨rfl, hv⟩ := hv
  refine xx_mono (k' := k + 10) (n' := n + 200) (Nat.add_le_add_left (show 3 ≤ 10 by decide) k) (Nat.add_le_add_left (show 18 ≤ 200 by decide) n) ?_
  show V X G 7 _ _ _ _ _ _ [.int (sellE z (xs (i + 1)) (xs (i + 2)))]
  refine v_istore C (lv1 := (5, .int (sellE z (xs (i + 1)) (xs (i + 2)))) :: [(4, .int (nI i)), (3, .ref (a 14 0)), (2, .ref (a 0 0)), (1, .ref (a 2 0)), (0, .ref b)]) dL_law_980 rfl (by decide) rfl ?_
  rcases hv with ⟨hne, rfl⟩ | ⟨h0, hP⟩
  · have he : ¬ sellE z (xs (i + 1)) (xs (i + 2)) = 0 := fun q => hne (hQ.trans q)
    have hT : (pU (sellE z (xs (i + 1)) (xs (i + 2))) (sellU (su z 45 0 0) (xs (i + 1)) (xs (i + 2))) z) = su z 45 0 (sellE z (xs (i + 1)) (xs (i + 2))) := (pU_n he)
    refine lwm_sell C S hi (s := z) (z := z) (am := nm) (ac := nc) (ar := nr) ⟨a, La, s0, rfl, hL, ⟨rfl, rfl, rfl⟩, T0, T1, T2⟩ hI (by omega) hk (by rw [hT, hQ]; exact su_a) (fun q => absurd q hne) (fun w' hw' => kk w' ?_)
    rw [hT] at hw'
    exact wi_of hw' (j_err hI hg _)
  · obtain ⟨hT, h45, hRR⟩ := hN (hQ.symm.trans h0)
    refine lwm_sell C S hi (s := su (sellUC z (xs (i + 1)) (xs (i + 2))) 60 0 (sellRC z (xs (i + 1)) (xs (i + 2)))) (z := z) (hP) hI (by omega) hk (by rw [hT, h45, h0]) (fun _ => (su_a.trans hRR)) (fun w' hw' => kk w' ?_)
    rw [hT] at hw'
    exact wi_of hw' ((hJ (hQ.symm.trans h0)).out _)

theorem lwc_rate {X : XS} {G : GG} {nme : String} {tb : List ExceptionTableEntry} {w : va_W} {k n : Nat} {Q : State → Prop} {b L i x m o : Nat} {xs : Nat → Int32} {c : Nat} (C : Cx X G cL_law 7 RL (some .boolean) room_1 nme tb) (S : Scr X G b L xs) (hi : i + 5 ≤ L) (hMi : MiOK G) (hW : WI G x m o c w) (hc : c < 512) (hk : k + 10 ≤ 601024 ∧ n + 200 ≤ 7293034) (kk : ∀ w', WI G x m o (c + 1) w' → V X G 7 w' (k + 10) (n + 200) Q 2124 [(4, .int (nI i)), (3, .ref o), (2, .ref m), (1, .ref x), (0, .ref b)] []) : V X G 7 w k n Q 1031 [(4, .int (nI i)), (3, .ref o), (2, .ref m), (1, .ref x), (0, .ref b)] [] := by
  have hst : X.2.1.stackTraces = false := C.2.2.2.2.2.1
  have hG : GOK G := C.2.2.2.2.2.2.2.2.2.1
  obtain ⟨z, nm, nc, nr, nf, ns, dd, ⟨a, La, s0, rfl, hL, ⟨rfl, rfl, rfl⟩, T0, T1, T2⟩, hI, hg⟩ := hW
  have hJ : rateE z (xs (i + 1)) = 0 → Jx (rateU z (xs (i + 1))) (rateU (su z 45 0 0) (xs (i + 1))) nm nc nr (c + 1) := fun he => j_rate hI hg he
  have hN : rateE z (xs (i + 1)) = 0 → (pU (rateE z (xs (i + 1))) (rateU (su z 45 0 0) (xs (i + 1))) z) = rateU (su z 45 0 0) (xs (i + 1)) ∧ (rateU (su z 45 0 0) (xs (i + 1))) 45 0 = 0 ∧ rateR z (xs (i + 1)) = pM (rateE z (xs (i + 1))) (rateR z (xs (i + 1))) := fun he => ⟨(pU_z he), (k_rate hI he).2, (rfl).trans (pM_0 he).symm⟩
  have hQ : rateE z (xs (i + 1)) = rateE z (xs (i + 1)) := rfl
  refine v_aload_n C dL_law_1031 rfl 3 rfl ?_
  refine v_aload_n C dL_law_1032 rfl 4 rfl ?_
  refine v_iload C dL_law_1033 rfl 0 rfl ?_
  refine v_iconst C (v := 1) dL_law_1035 rfl rfl ?_
  refine v_iaddN C i 1 rfl rfl dL_law_1036 rfl ?_
  refine v_sld C S (i + 1) (by omega) dL_law_1037 rfl ?_
  refine v_aload_n C dL_law_1038 rfl 1 rfl ?_
  refine v_invSX C (np := 3) (As := [.ref (a 2 0), .int (xs (i + 1)), .ref (a 14 0)]) (q1 0 rfl rfl) (q3 204 rfl rfl) L_L_158 (q3 203 rfl rfl) ⟨by decide, by decide, by decide +kernel⟩ (c_L_rate (e := rateE z (xs (i + 1))) (P2 := Mid G (a 2 0) (a 0 0) (a 14 0) (su (rateU z (xs (i + 1))) 60 0 (rateR z (xs (i + 1)))) z nm nc nr) hst hG (m2 (s := z) (t := z) (g := G.2.2.1) hL) (c_X7_rate (s := z) (t := z)  hst hG hL (xs (i + 1))) (fun v w0 hv => by obtain ⟨rfl, rfl, hE⟩ := hv; exact ⟨_, wl a (E G.2.2.1 a (su (rateU z (xs (i + 1))) 60 0 (rateR z (xs (i + 1)))) z) La, rfl, hE, put_out hL _ rfl, a, La, s0, rfl, hL, ⟨rfl, rfl, rfl⟩, T0.frame rfl rfl rfl (((congrFun (su_o (by decide)) 0).trans (hJ (hQ.symm.trans hE)).cnt.1).trans T0.1.1.symm) rfl, T1.frame rfl rfl rfl (((congrFun (su_o (by decide)) 0).trans (hJ (hQ.symm.trans hE)).cnt.2.1).trans T1.1.1.symm) rfl, T2.frame rfl rfl rfl (((congrFun (su_o (by decide)) 0).trans (hJ (hQ.symm.trans hE)).cnt.2.2).trans T2.1.1.symm) rfl⟩)) rfl rfl (by decide) ⟨Nat.le_trans (Nat.add_le_add_left (show 1 ≤ 10 by decide) k) hk.1, Nat.le_trans (Nat.add_le_add_left (show 6 ≤ 200 by decide) n) hk.2⟩ (by decide) dL_law_1039 rfl kx_no (fun v w1 hv => ?_)
  obtain ⟨rfl, hv⟩ := hv
  refine xx_mono (k' := k + 10) (n' := n + 200) (Nat.add_le_add_left (show 1 ≤ 10 by decide) k) (Nat.add_le_add_left (show 6 ≤ 200 by decide) n) ?_
  show V X G 7 _ _ _ _ _ _ [.int (rateE z (xs (i + 1)))]
  refine v_istore C (lv1 := (5, .int (rateE z (xs (i + 1)))) :: [(4, .int (nI i)), (3, .ref (a 14 0)), (2, .ref (a 0 0)), (1, .ref (a 2 0)), (0, .ref b)]) dL_law_1042 rfl (by decide) rfl ?_
  rcases hv with ⟨hne, rfl⟩ | ⟨h0, hP⟩
  · have he : ¬ rateE z (xs (i + 1)) = 0 := fun q => hne (hQ.trans q)
    have hT : (pU (rateE z (xs (i + 1))) (rateU (su z 45 0 0) (xs (i + 1))) z) = su z 45 0 (rateE z (xs (i + 1))) := (pU_n he)
    refine lwm_rate C S hi (s := z) (z := z) (am := nm) (ac := nc) (ar := nr) ⟨a, La, s0, rfl, hL, ⟨rfl, rfl, rfl⟩, T0, T1, T2⟩ hI (by omega) hk (by rw [hT, hQ]; exact su_a) (fun q => absurd q hne) (fun w' hw' => kk w' ?_)
    rw [hT] at hw'
    exact wi_of hw' (j_err hI hg _)
  · obtain ⟨hT, h45, hRR⟩ := hN (hQ.symm.trans h0)
    refine lwm_rate C S hi (s := su (rateU z (xs (i + 1))) 60 0 (rateR z (xs (i + 1)))) (z := z) (hP) hI (by omega) hk (by rw [hT, h45, h0]) (fun _ => (su_a.trans hRR)) (fun w' hw' => kk w' ?_)
    rw [hT] at hw'
    exact wi_of hw' ((hJ (hQ.symm.trans h0)).out _)

theorem lwc_freight {X : XS} {G : GG} {nme : String} {tb : List ExceptionTableEntry} {w : va_W} {k n : Nat} {Q : State → Prop} {b L i x m o : Nat} {xs : Nat → Int32} {c : Nat} (C : Cx X G cL_law 7 RL (some .boolean) room_1 nme tb) (S : Scr X G b L xs) (hi : i + 5 ≤ L) (hMi : MiOK G) (hW : WI G x m o c w) (hc : c < 512) (hk : k + 10 ≤ 601024 ∧ n + 200 ≤ 7293034) (kk : ∀ w', WI G x m o (c + 1) w' → V X G 7 w' (k + 10) (n + 200) Q 2124 [(4, .int (nI i)), (3, .ref o), (2, .ref m), (1, .ref x), (0, .ref b)] []) : V X G 7 w k n Q 1087 [(4, .int (nI i)), (3, .ref o), (2, .ref m), (1, .ref x), (0, .ref b)] [] := by
  have hst : X.2.1.stackTraces = false := C.2.2.2.2.2.1
  have hG : GOK G := C.2.2.2.2.2.2.2.2.2.1
  obtain ⟨z, nm, nc, nr, nf, ns, dd, ⟨a, La, s0, rfl, hL, ⟨rfl, rfl, rfl⟩, T0, T1, T2⟩, hI, hg⟩ := hW
  have hJ : freightE z nf (xs (i + 1)) (xs (i + 2)) = 0 → Jx (sndF z (xs (i + 1)) (xs (i + 2))) (freightU (su z 45 0 0) nf (xs (i + 1)) (xs (i + 2))) nm nc nr (c + 1) := fun he => j_freight hI hg he
  have hN : freightE z nf (xs (i + 1)) (xs (i + 2)) = 0 → (pU (freightE z nf (xs (i + 1)) (xs (i + 2))) (freightU (su z 45 0 0) nf (xs (i + 1)) (xs (i + 2))) z) = freightU (su z 45 0 0) nf (xs (i + 1)) (xs (i + 2)) ∧ (freightU (su z 45 0 0) nf (xs (i + 1)) (xs (i + 2))) 45 0 = 0 := fun he => ⟨(pU_z he), (k_freight hI he).2⟩
  have hQ : freightEC z (xs (i + 1)) (xs (i + 2)) = freightE z nf (xs (i + 1)) (xs (i + 2)) := k_freightE hI
  refine v_aload_n C dL_law_1087 rfl 3 rfl ?_
  refine v_aload_n C dL_law_1088 rfl 4 rfl ?_
  refine v_iload C dL_law_1089 rfl 0 rfl ?_
  refine v_iconst C (v := 1) dL_law_1091 rfl rfl ?_
  refine v_iaddN C i 1 rfl rfl dL_law_1092 rfl ?_
  refine v_sld C S (i + 1) (by omega) dL_law_1093 rfl ?_
  refine v_aload_n C dL_law_1094 rfl 4 rfl ?_
  refine v_iload C dL_law_1095 rfl 0 rfl ?_
  refine v_iconst C (v := 2) dL_law_1097 rfl rfl ?_
  refine v_iaddN C i 2 rfl rfl dL_law_1098 rfl ?_
  refine v_sld C S (i + 2) (by omega) dL_law_1099 rfl ?_
  refine v_invSX C (np := 3) (As := [.ref (a 2 0), .int (xs (i + 1)), .int (xs (i + 2))]) (q1 0 rfl rfl) (q3 211 rfl rfl) L_L_161 (q3 210 rfl rfl) ⟨by decide, by decide, by decide +kernel⟩ (c_L_freight (o := 0) (e := freightEC z (xs (i + 1)) (xs (i + 2))) (P2 := Mid G (a 2 0) (a 0 0) (a 14 0) (sndF z (xs (i + 1)) (xs (i + 2))) z nm nc nr) hst hG (m2 (s := z) (t := z) (g := G.2.2.1) hL) (c_X7_freight (s := z) (t := z)  hst hG hL (xs (i + 1)) (xs (i + 2))) (fun v w0 hv => by obtain ⟨rfl, rfl, hE⟩ := hv; exact ⟨rfl, hE, a, La, s0, rfl, hL, ⟨rfl, rfl, rfl⟩, T0.frame rfl rfl rfl ((hJ (hQ.symm.trans hE)).cnt.1.trans T0.1.1.symm) rfl, T1.frame rfl rfl rfl ((hJ (hQ.symm.trans hE)).cnt.2.1.trans T1.1.1.symm) rfl, T2.frame rfl rfl rfl ((hJ (hQ.symm.trans hE)).cnt.2.2.trans T2.1.1.symm) rfl⟩)) rfl rfl (by decide) ⟨Nat.le_trans (Nat.add_le_add_left (show 3 ≤ 10 by decide) k) hk.1, Nat.le_trans (Nat.add_le_add_left (show 18 ≤ 200 by decide) n) hk.2⟩ (by decide) dL_law_1100 rfl kx_no (fun v w1 hv => ?_)
  obtain ⟨rfl, hv⟩ := hv
  refine xx_mono (k' := k + 10) (n' := n + 200) (Nat.add_le_add_left (show 3 ≤ 10 by decide) k) (Nat.add_le_add_left (show 18 ≤ 200 by decide) n) ?_
  show V X G 7 _ _ _ _ _ _ [.int (freightEC z (xs (i + 1)) (xs (i + 2)))]
  refine v_istore C (lv1 := (5, .int (freightEC z (xs (i + 1)) (xs (i + 2)))) :: [(4, .int (nI i)), (3, .ref (a 14 0)), (2, .ref (a 0 0)), (1, .ref (a 2 0)), (0, .ref b)]) dL_law_1103 rfl (by decide) rfl ?_
  rcases hv with ⟨hne, rfl⟩ | ⟨h0, hP⟩
  · have he : ¬ freightE z nf (xs (i + 1)) (xs (i + 2)) = 0 := fun q => hne (hQ.trans q)
    have hT : (pU (freightE z nf (xs (i + 1)) (xs (i + 2))) (freightU (su z 45 0 0) nf (xs (i + 1)) (xs (i + 2))) z) = su z 45 0 (freightE z nf (xs (i + 1)) (xs (i + 2))) := (pU_n he)
    refine lwm_freight C S hi (s := z) (z := z) (am := nm) (ac := nc) (ar := nr) ⟨a, La, s0, rfl, hL, ⟨rfl, rfl, rfl⟩, T0, T1, T2⟩ hI (by omega) hk (by rw [hT, hQ]; exact su_a) (fun w' hw' => kk w' ?_)
    rw [hT] at hw'
    exact wi_of hw' (j_err hI hg _)
  · obtain ⟨hT, h45⟩ := hN (hQ.symm.trans h0)
    refine lwm_freight C S hi (s := sndF z (xs (i + 1)) (xs (i + 2))) (z := z) (hP) hI (by omega) hk (by rw [hT, h45, h0]) (fun w' hw' => kk w' ?_)
    rw [hT] at hw'
    exact wi_of hw' (hJ (hQ.symm.trans h0))

theorem lwc_buy {X : XS} {G : GG} {nme : String} {tb : List ExceptionTableEntry} {w : va_W} {k n : Nat} {Q : State → Prop} {b L i x m o : Nat} {xs : Nat → Int32} {c : Nat} (C : Cx X G cL_law 7 RL (some .boolean) room_1 nme tb) (S : Scr X G b L xs) (hi : i + 5 ≤ L) (hMi : MiOK G) (hW : WI G x m o c w) (hc : c < 512) (hk : k + 10 ≤ 601024 ∧ n + 200 ≤ 7293034) (kk : ∀ w', WI G x m o (c + 1) w' → V X G 7 w' (k + 10) (n + 200) Q 2124 [(4, .int (nI i)), (3, .ref o), (2, .ref m), (1, .ref x), (0, .ref b)] []) : V X G 7 w k n Q 1135 [(4, .int (nI i)), (3, .ref o), (2, .ref m), (1, .ref x), (0, .ref b)] [] := by
  have hst : X.2.1.stackTraces = false := C.2.2.2.2.2.1
  have hG : GOK G := C.2.2.2.2.2.2.2.2.2.1
  obtain ⟨z, nm, nc, nr, nf, ns, dd, ⟨a, La, s0, rfl, hL, ⟨rfl, rfl, rfl⟩, T0, T1, T2⟩, hI, hg⟩ := hW
  have hJ : buyE z (xs (i + 1)) (xs (i + 2)) = 0 → Jx (buyU z (xs (i + 1)) (xs (i + 2))) (buyU (su z 45 0 0) (xs (i + 1)) (xs (i + 2))) nm nc nr (c + 1) := fun he => j_buy hI hg
  have hN : buyE z (xs (i + 1)) (xs (i + 2)) = 0 → (pU (buyE z (xs (i + 1)) (xs (i + 2))) (buyU (su z 45 0 0) (xs (i + 1)) (xs (i + 2))) z) = buyU (su z 45 0 0) (xs (i + 1)) (xs (i + 2)) ∧ (buyU (su z 45 0 0) (xs (i + 1)) (xs (i + 2))) 45 0 = 0 ∧ buyR z (xs (i + 1)) (xs (i + 2)) = pM (buyE z (xs (i + 1)) (xs (i + 2))) (buyR z (xs (i + 1)) (xs (i + 2))) := fun he => ⟨(pU_z he), (k_buy hI).2, (rfl).trans (pM_0 he).symm⟩
  have hQ : buyE z (xs (i + 1)) (xs (i + 2)) = buyE z (xs (i + 1)) (xs (i + 2)) := rfl
  refine v_aload_n C dL_law_1135 rfl 3 rfl ?_
  refine v_aload_n C dL_law_1136 rfl 4 rfl ?_
  refine v_iload C dL_law_1137 rfl 0 rfl ?_
  refine v_iconst C (v := 1) dL_law_1139 rfl rfl ?_
  refine v_iaddN C i 1 rfl rfl dL_law_1140 rfl ?_
  refine v_sld C S (i + 1) (by omega) dL_law_1141 rfl ?_
  refine v_aload_n C dL_law_1142 rfl 4 rfl ?_
  refine v_iload C dL_law_1143 rfl 0 rfl ?_
  refine v_iconst C (v := 2) dL_law_1145 rfl rfl ?_
  refine v_iaddN C i 2 rfl rfl dL_law_1146 rfl ?_
  refine v_sld C S (i + 2) (by omega) dL_law_1147 rfl ?_
  refine v_aload_n C dL_law_1148 rfl 1 rfl ?_
  refine v_invSX C (np := 4) (As := [.ref (a 2 0), .int (xs (i + 1)), .int (xs (i + 2)), .ref (a 14 0)]) (q1 0 rfl rfl) (q3 226 rfl rfl) L_L_165 (q3 225 rfl rfl) ⟨by decide, by decide, by decide +kernel⟩ (c_L_buy (e := buyE z (xs (i + 1)) (xs (i + 2))) (P2 := Mid G (a 2 0) (a 0 0) (a 14 0) (su (buyU z (xs (i + 1)) (xs (i + 2))) 60 0 (buyR z (xs (i + 1)) (xs (i + 2)))) z nm nc nr) hst hG (m2 (s := z) (t := z) (g := G.2.2.1) hL) (c_X7_buy (s := z) (t := z) (nm := nm) hst hG hL (xs (i + 1)) (xs (i + 2)) T0.1 hI.1.1.2 (lv0 T0)) (fun v w0 hv => by obtain ⟨rfl, rfl, hE⟩ := hv; exact ⟨_, wl a (E G.2.2.1 a (su (buyU z (xs (i + 1)) (xs (i + 2))) 60 0 (buyR z (xs (i + 1)) (xs (i + 2)))) z) La, rfl, hE, put_out hL _ rfl, a, La, s0, rfl, hL, ⟨rfl, rfl, rfl⟩, T0.frame rfl rfl rfl (((congrFun (su_o (by decide)) 0).trans (hJ (hQ.symm.trans hE)).cnt.1).trans T0.1.1.symm) rfl, T1.frame rfl rfl rfl (((congrFun (su_o (by decide)) 0).trans (hJ (hQ.symm.trans hE)).cnt.2.1).trans T1.1.1.symm) rfl, T2.frame rfl rfl rfl (((congrFun (su_o (by decide)) 0).trans (hJ (hQ.symm.trans hE)).cnt.2.2).trans T2.1.1.symm) rfl⟩)) rfl rfl (by decide) ⟨Nat.le_trans (Nat.add_le_add_left (show 3 ≤ 10 by decide) k) hk.1, Nat.le_trans (Nat.add_le_add_left (show 18 ≤ 200 by decide) n) hk.2⟩ (by decide) dL_law_1149 rfl kx_no (fun v w1 hv => ?_)
  obtain ⟨rfl, hv⟩ := hv
  refine xx_mono (k' := k + 10) (n' := n + 200) (Nat.add_le_add_left (show 3 ≤ 10 by decide) k) (Nat.add_le_add_left (show 18 ≤ 200 by decide) n) ?_
  show V X G 7 _ _ _ _ _ _ [.int (buyE z (xs (i + 1)) (xs (i + 2)))]
  refine v_istore C (lv1 := (5, .int (buyE z (xs (i + 1)) (xs (i + 2)))) :: [(4, .int (nI i)), (3, .ref (a 14 0)), (2, .ref (a 0 0)), (1, .ref (a 2 0)), (0, .ref b)]) dL_law_1152 rfl (by decide) rfl ?_
  rcases hv with ⟨hne, rfl⟩ | ⟨h0, hP⟩
  · have he : ¬ buyE z (xs (i + 1)) (xs (i + 2)) = 0 := fun q => hne (hQ.trans q)
    have hT : (pU (buyE z (xs (i + 1)) (xs (i + 2))) (buyU (su z 45 0 0) (xs (i + 1)) (xs (i + 2))) z) = su z 45 0 (buyE z (xs (i + 1)) (xs (i + 2))) := (pU_n he)
    refine lwm_buy C S hi (s := z) (z := z) (am := nm) (ac := nc) (ar := nr) ⟨a, La, s0, rfl, hL, ⟨rfl, rfl, rfl⟩, T0, T1, T2⟩ hI (by omega) hk (by rw [hT, hQ]; exact su_a) (fun q => absurd q hne) (fun w' hw' => kk w' ?_)
    rw [hT] at hw'
    exact wi_of hw' (j_err hI hg _)
  · obtain ⟨hT, h45, hRR⟩ := hN (hQ.symm.trans h0)
    refine lwm_buy C S hi (s := su (buyU z (xs (i + 1)) (xs (i + 2))) 60 0 (buyR z (xs (i + 1)) (xs (i + 2)))) (z := z) (hP) hI (by omega) hk (by rw [hT, h45, h0]) (fun _ => (su_a.trans hRR)) (fun w' hw' => kk w' ?_)
    rw [hT] at hw'
    exact wi_of hw' ((hJ (hQ.symm.trans h0)).out _)

theorem lwc_back {X : XS} {G : GG} {nme : String} {tb : List ExceptionTableEntry} {w : va_W} {k n : Nat} {Q : State → Prop} {b L i x m o : Nat} {xs : Nat → Int32} {c : Nat} (C : Cx X G cL_law 7 RL (some .boolean) room_1 nme tb) (S : Scr X G b L xs) (hi : i + 5 ≤ L) (hMi : MiOK G) (hW : WI G x m o c w) (hc : c < 512) (hk : k + 10 ≤ 601024 ∧ n + 200 ≤ 7293034) (kk : ∀ w', WI G x m o (c + 1) w' → V X G 7 w' (k + 10) (n + 200) Q 2124 [(4, .int (nI i)), (3, .ref o), (2, .ref m), (1, .ref x), (0, .ref b)] []) : V X G 7 w k n Q 1203 [(4, .int (nI i)), (3, .ref o), (2, .ref m), (1, .ref x), (0, .ref b)] [] := by
  have hst : X.2.1.stackTraces = false := C.2.2.2.2.2.1
  have hG : GOK G := C.2.2.2.2.2.2.2.2.2.1
  obtain ⟨z, nm, nc, nr, nf, ns, dd, ⟨a, La, s0, rfl, hL, ⟨rfl, rfl, rfl⟩, T0, T1, T2⟩, hI, hg⟩ := hW
  have hJ : backE z nm (xs (i + 1)) (xs (i + 2)) (xs (i + 3)) (xs (i + 4)) = 0 → Jx (backUC z (xs (i + 1)) (xs (i + 2)) (xs (i + 3)) (xs (i + 4))) (backU (su z 45 0 0) nm (xs (i + 1)) (xs (i + 2)) (xs (i + 3)) (xs (i + 4))) nm nc nr (c + 1) := fun he => j_back hI hg he
  have hN : backE z nm (xs (i + 1)) (xs (i + 2)) (xs (i + 3)) (xs (i + 4)) = 0 → (pU (backE z nm (xs (i + 1)) (xs (i + 2)) (xs (i + 3)) (xs (i + 4))) (backU (su z 45 0 0) nm (xs (i + 1)) (xs (i + 2)) (xs (i + 3)) (xs (i + 4))) z) = backU (su z 45 0 0) nm (xs (i + 1)) (xs (i + 2)) (xs (i + 3)) (xs (i + 4)) ∧ (backU (su z 45 0 0) nm (xs (i + 1)) (xs (i + 2)) (xs (i + 3)) (xs (i + 4))) 45 0 = 0 := fun he => ⟨(pU_z he), (k_back hI he).2⟩
  have hQ : backEC z (xs (i + 1)) (xs (i + 2)) (xs (i + 3)) (xs (i + 4)) = backE z nm (xs (i + 1)) (xs (i + 2)) (xs (i + 3)) (xs (i + 4)) := k_backE hI
  refine v_aload_n C dL_law_1203 rfl 3 rfl ?_
  refine v_aload_n C dL_law_1204 rfl 4 rfl ?_
  refine v_iload C dL_law_1205 rfl 0 rfl ?_
  refine v_iconst C (v := 1) dL_law_1207 rfl rfl ?_
  refine v_iaddN C i 1 rfl rfl dL_law_1208 rfl ?_
  refine v_sld C S (i + 1) (by omega) dL_law_1209 rfl ?_
  refine v_aload_n C dL_law_1210 rfl 4 rfl ?_
  refine v_iload C dL_law_1211 rfl 0 rfl ?_
  refine v_iconst C (v := 2) dL_law_1213 rfl rfl ?_
  refine v_iaddN C i 2 rfl rfl dL_law_1214 rfl ?_
  refine v_sld C S (i + 2) (by omega) dL_law_1215 rfl ?_
  refine v_aload_n C dL_law_1216 rfl 4 rfl ?_
  refine v_iload C dL_law_1217 rfl 0 rfl ?_
  refine v_iconst C (v := 3) dL_law_1219 rfl rfl ?_
  refine v_iaddN C i 3 rfl rfl dL_law_1220 rfl ?_
  refine v_sld C S (i + 3) (by omega) dL_law_1221 rfl ?_
  refine v_aload_n C dL_law_1222 rfl 4 rfl ?_
  refine v_iload C dL_law_1223 rfl 0 rfl ?_
  refine v_iconst C (v := 4) dL_law_1225 rfl rfl ?_
  refine v_iaddN C i 4 rfl rfl dL_law_1226 rfl ?_
  refine v_sld C S (i + 4) (by omega) dL_law_1227 rfl ?_
  refine v_invSX C (np := 5) (As := [.ref (a 2 0), .int (xs (i + 1)), .int (xs (i + 2)), .int (xs (i + 3)), .int (xs (i + 4))]) (q1 0 rfl rfl) (q3 237 rfl rfl) L_L_168 (q3 236 rfl rfl) ⟨by decide, by decide, by decide +kernel⟩ (c_L_back (o := 0) (e := backEC z (xs (i + 1)) (xs (i + 2)) (xs (i + 3)) (xs (i + 4))) (P2 := Mid G (a 2 0) (a 0 0) (a 14 0) (backUC z (xs (i + 1)) (xs (i + 2)) (xs (i + 3)) (xs (i + 4))) z nm nc nr) hst hG (m2 (s := z) (t := z) (g := G.2.2.1) hL) (c_X7_back (s := z) (t := z) (nm := nm) hst hG hL (xs (i + 1)) (xs (i + 2)) (xs (i + 3)) (xs (i + 4)) T0.1 hI.1.1.2 (lv0 T0)) (fun v w0 hv => by obtain ⟨rfl, rfl, hE⟩ := hv; exact ⟨rfl, hE, a, La, s0, rfl, hL, ⟨rfl, rfl, rfl⟩, T0.frame rfl rfl rfl ((hJ (hQ.symm.trans hE)).cnt.1.trans T0.1.1.symm) rfl, T1.frame rfl rfl rfl ((hJ (hQ.symm.trans hE)).cnt.2.1.trans T1.1.1.symm) rfl, T2.frame rfl rfl rfl ((hJ (hQ.symm.trans hE)).cnt.2.2.trans T2.1.1.symm) rfl⟩)) rfl rfl (by decide) ⟨Nat.le_trans (Nat.add_le_add_left (show 6 ≤ 10 by decide) k) hk.1, Nat.le_trans (Nat.add_le_add_left (show 36 ≤ 200 by decide) n) hk.2⟩ (by decide) dL_law_1228 rfl kx_no (fun v w1 hv => ?_)
  obtain ⟨rfl, hv⟩ := hv
  refine xx_mono (k' := k + 10) (n' := n + 200) (Nat.add_le_add_left (show 6 ≤ 10 by decide) k) (Nat.add_le_add_left (show 36 ≤ 200 by decide) n) ?_
  show V X G 7 _ _ _ _ _ _ [.int (backEC z (xs (i + 1)) (xs (i + 2)) (xs (i + 3)) (xs (i + 4)))]
  refine v_istore C (lv1 := (5, .int (backEC z (xs (i + 1)) (xs (i + 2)) (xs (i + 3)) (xs (i + 4)))) :: [(4, .int (nI i)), (3, .ref (a 14 0)), (2, .ref (a 0 0)), (1, .ref (a 2 0)), (0, .ref b)]) dL_law_1231 rfl (by decide) rfl ?_
  rcases hv with ⟨hne, rfl⟩ | ⟨h0, hP⟩
  · have he : ¬ backE z nm (xs (i + 1)) (xs (i + 2)) (xs (i + 3)) (xs (i + 4)) = 0 := fun q => hne (hQ.trans q)
    have hT : (pU (backE z nm (xs (i + 1)) (xs (i + 2)) (xs (i + 3)) (xs (i + 4))) (backU (su z 45 0 0) nm (xs (i + 1)) (xs (i + 2)) (xs (i + 3)) (xs (i + 4))) z) = su z 45 0 (backE z nm (xs (i + 1)) (xs (i + 2)) (xs (i + 3)) (xs (i + 4))) := (pU_n he)
    refine lwm_back C S hi (s := z) (z := z) (am := nm) (ac := nc) (ar := nr) ⟨a, La, s0, rfl, hL, ⟨rfl, rfl, rfl⟩, T0, T1, T2⟩ hI (by omega) hk (by rw [hT, hQ]; exact su_a) (fun w' hw' => kk w' ?_)
    rw [hT] at hw'
    exact wi_of hw' (j_err hI hg _)
  · obtain ⟨hT, h45⟩ := hN (hQ.symm.trans h0)
    refine lwm_back C S hi (s := backUC z (xs (i + 1)) (xs (i + 2)) (xs (i + 3)) (xs (i + 4))) (z := z) (hP) hI (by omega) hk (by rw [hT, h45, h0]) (fun w' hw' => kk w' ?_)
    rw [hT] at hw'
    exact wi_of hw' (hJ (hQ.symm.trans h0))

theorem lwc_end {X : XS} {G : GG} {nme : String} {tb : List ExceptionTableEntry} {w : va_W} {k n : Nat} {Q : State → Prop} {b L i x m o : Nat} {xs : Nat → Int32} {c : Nat} (C : Cx X G cL_law 7 RL (some .boolean) room_1 nme tb) (S : Scr X G b L xs) (hi : i + 5 ≤ L) (hMi : MiOK G) (hW : WI G x m o c w) (hc : c < 512) (hk : k + 10 ≤ 601024 ∧ n + 200 ≤ 7293034) (kk : ∀ w', WI G x m o (c + 1) w' → V X G 7 w' (k + 10) (n + 200) Q 2124 [(4, .int (nI i)), (3, .ref o), (2, .ref m), (1, .ref x), (0, .ref b)] []) : V X G 7 w k n Q 1275 [(4, .int (nI i)), (3, .ref o), (2, .ref m), (1, .ref x), (0, .ref b)] [] := by
  have hst : X.2.1.stackTraces = false := C.2.2.2.2.2.1
  have hG : GOK G := C.2.2.2.2.2.2.2.2.2.1
  obtain ⟨z, nm, nc, nr, nf, ns, dd, ⟨a, La, s0, rfl, hL, ⟨rfl, rfl, rfl⟩, T0, T1, T2⟩, hI, hg⟩ := hW
  have hJ : endE z (xs (i + 1)) (xs (i + 2)) = 0 → Jx (endU z (xs (i + 1)) (xs (i + 2))) (endU (su z 45 0 0) (xs (i + 1)) (xs (i + 2))) nm nc nr (c + 1) := fun he => j_end hI hg
  have hN : endE z (xs (i + 1)) (xs (i + 2)) = 0 → (pU (endE z (xs (i + 1)) (xs (i + 2))) (endU (su z 45 0 0) (xs (i + 1)) (xs (i + 2))) z) = endU (su z 45 0 0) (xs (i + 1)) (xs (i + 2)) ∧ (endU (su z 45 0 0) (xs (i + 1)) (xs (i + 2))) 45 0 = 0 ∧ endR z (xs (i + 1)) (xs (i + 2)) = pM (endE z (xs (i + 1)) (xs (i + 2))) (endR z (xs (i + 1)) (xs (i + 2))) := fun he => ⟨(pU_z he), (k_end hI).2, (rfl).trans (pM_0 he).symm⟩
  have hQ : endE z (xs (i + 1)) (xs (i + 2)) = endE z (xs (i + 1)) (xs (i + 2)) := rfl
  refine v_aload_n C dL_law_1275 rfl 3 rfl ?_
  refine v_aload_n C dL_law_1276 rfl 4 rfl ?_
  refine v_iload C dL_law_1277 rfl 0 rfl ?_
  refine v_iconst C (v := 1) dL_law_1279 rfl rfl ?_
  refine v_iaddN C i 1 rfl rfl dL_law_1280 rfl ?_
  refine v_sld C S (i + 1) (by omega) dL_law_1281 rfl ?_
  refine v_aload_n C dL_law_1282 rfl 4 rfl ?_
  refine v_iload C dL_law_1283 rfl 0 rfl ?_
  refine v_iconst C (v := 2) dL_law_1285 rfl rfl ?_
  refine v_iaddN C i 2 rfl rfl dL_law_1286 rfl ?_
  refine v_sld C S (i + 2) (by omega) dL_law_1287 rfl ?_
  refine v_aload_n C dL_law_1288 rfl 1 rfl ?_
  refine v_invSX C (np := 4) (As := [.ref (a 2 0), .int (xs (i + 1)), .int (xs (i + 2)), .ref (a 14 0)]) (q1 0 rfl rfl) (q4 12 rfl rfl) L_L_172 (q4 11 rfl rfl) ⟨by decide, by decide, by decide +kernel⟩ (c_L_end (e := endE z (xs (i + 1)) (xs (i + 2))) (P2 := Mid G (a 2 0) (a 0 0) (a 14 0) (su (endU z (xs (i + 1)) (xs (i + 2))) 60 0 (endR z (xs (i + 1)) (xs (i + 2)))) z nm nc nr) hst hG (m2 (s := z) (t := z) (g := G.2.2.1) hL) (c_X7_end (s := z) (t := z) (nm := nm) hst hG hL (xs (i + 1)) (xs (i + 2)) T0.1 hI.1.1.2 (lv0 T0)) (fun v w0 hv => by obtain ⟨rfl, rfl, hE⟩ := hv; exact ⟨_, wl a (E G.2.2.1 a (su (endU z (xs (i + 1)) (xs (i + 2))) 60 0 (endR z (xs (i + 1)) (xs (i + 2)))) z) La, rfl, hE, put_out hL _ rfl, a, La, s0, rfl, hL, ⟨rfl, rfl, rfl⟩, T0.frame rfl rfl rfl (((congrFun (su_o (by decide)) 0).trans (hJ (hQ.symm.trans hE)).cnt.1).trans T0.1.1.symm) rfl, T1.frame rfl rfl rfl (((congrFun (su_o (by decide)) 0).trans (hJ (hQ.symm.trans hE)).cnt.2.1).trans T1.1.1.symm) rfl, T2.frame rfl rfl rfl (((congrFun (su_o (by decide)) 0).trans (hJ (hQ.symm.trans hE)).cnt.2.2).trans T2.1.1.symm) rfl⟩)) rfl rfl (by decide) ⟨Nat.le_trans (Nat.add_le_add_left (show 3 ≤ 10 by decide) k) hk.1, Nat.le_trans (Nat.add_le_add_left (show 18 ≤ 200 by decide) n) hk.2⟩ (by decide) dL_law_1289 rfl kx_no (fun v w1 hv => ?_)
  obtain ⟨rfl, hv⟩ := hv
  refine xx_mono (k' := k + 10) (n' := n + 200) (Nat.add_le_add_left (show 3 ≤ 10 by decide) k) (Nat.add_le_add_left (show 18 ≤ 200 by decide) n) ?_
  show V X G 7 _ _ _ _ _ _ [.int (endE z (xs (i + 1)) (xs (i + 2)))]
  refine v_istore C (lv1 := (5, .int (endE z (xs (i + 1)) (xs (i + 2)))) :: [(4, .int (nI i)), (3, .ref (a 14 0)), (2, .ref (a 0 0)), (1, .ref (a 2 0)), (0, .ref b)]) dL_law_1292 rfl (by decide) rfl ?_
  rcases hv with ⟨hne, rfl⟩ | ⟨h0, hP⟩
  · have he : ¬ endE z (xs (i + 1)) (xs (i + 2)) = 0 := fun q => hne (hQ.trans q)
    have hT : (pU (endE z (xs (i + 1)) (xs (i + 2))) (endU (su z 45 0 0) (xs (i + 1)) (xs (i + 2))) z) = su z 45 0 (endE z (xs (i + 1)) (xs (i + 2))) := (pU_n he)
    refine lwm_end C S hi (s := z) (z := z) (am := nm) (ac := nc) (ar := nr) ⟨a, La, s0, rfl, hL, ⟨rfl, rfl, rfl⟩, T0, T1, T2⟩ hI (by omega) hk (by rw [hT, hQ]; exact su_a) (fun q => absurd q hne) (fun w' hw' => kk w' ?_)
    rw [hT] at hw'
    exact wi_of hw' (j_err hI hg _)
  · obtain ⟨hT, h45, hRR⟩ := hN (hQ.symm.trans h0)
    refine lwm_end C S hi (s := su (endU z (xs (i + 1)) (xs (i + 2))) 60 0 (endR z (xs (i + 1)) (xs (i + 2)))) (z := z) (hP) hI (by omega) hk (by rw [hT, h45, h0]) (fun _ => (su_a.trans hRR)) (fun w' hw' => kk w' ?_)
    rw [hT] at hw'
    exact wi_of hw' ((hJ (hQ.symm.trans h0)).out _)

theorem lwc_trade {X : XS} {G : GG} {nme : String} {tb : List ExceptionTableEntry} {w : va_W} {k n : Nat} {Q : State → Prop} {b L i x m o : Nat} {xs : Nat → Int32} {c : Nat} (C : Cx X G cL_law 7 RL (some .boolean) room_1 nme tb) (S : Scr X G b L xs) (hi : i + 5 ≤ L) (hMi : MiOK G) (hW : WI G x m o c w) (hc : c < 512) (hk : k + 10 ≤ 601024 ∧ n + 200 ≤ 7293034) (kk : ∀ w', WI G x m o (c + 1) w' → V X G 7 w' (k + 10) (n + 200) Q 2124 [(4, .int (nI i)), (3, .ref o), (2, .ref m), (1, .ref x), (0, .ref b)] []) : V X G 7 w k n Q 1343 [(4, .int (nI i)), (3, .ref o), (2, .ref m), (1, .ref x), (0, .ref b)] [] := by
  have hst : X.2.1.stackTraces = false := C.2.2.2.2.2.1
  have hG : GOK G := C.2.2.2.2.2.2.2.2.2.1
  obtain ⟨z, nm, nc, nr, nf, ns, dd, ⟨a, La, s0, rfl, hL, ⟨rfl, rfl, rfl⟩, T0, T1, T2⟩, hI, hg⟩ := hW
  have hJ : tradeE z (xs (i + 1)) (xs (i + 2)) (xs (i + 3)) = 0 → Jx (tradeUC z (xs (i + 1)) (xs (i + 2)) (xs (i + 3))) (tradeU (su z 45 0 0) (xs (i + 1)) (xs (i + 2)) (xs (i + 3))) nm nc nr (c + 1) := fun he => j_trade hI hg he
  have hN : tradeE z (xs (i + 1)) (xs (i + 2)) (xs (i + 3)) = 0 → (pU (tradeE z (xs (i + 1)) (xs (i + 2)) (xs (i + 3))) (tradeU (su z 45 0 0) (xs (i + 1)) (xs (i + 2)) (xs (i + 3))) z) = tradeU (su z 45 0 0) (xs (i + 1)) (xs (i + 2)) (xs (i + 3)) ∧ (tradeU (su z 45 0 0) (xs (i + 1)) (xs (i + 2)) (xs (i + 3))) 45 0 = 0 ∧ tradeR z (xs (i + 1)) (xs (i + 2)) (xs (i + 3)) = pM (tradeE z (xs (i + 1)) (xs (i + 2)) (xs (i + 3))) (tradeR z (xs (i + 1)) (xs (i + 2)) (xs (i + 3))) := fun he => ⟨(pU_z he), (k_trade hI he).2, (rfl).trans (pM_0 he).symm⟩
  have hQ : tradeE z (xs (i + 1)) (xs (i + 2)) (xs (i + 3)) = tradeE z (xs (i + 1)) (xs (i + 2)) (xs (i + 3)) := rfl
  refine v_aload_n C dL_law_1343 rfl 3 rfl ?_
  refine v_aload_n C dL_law_1344 rfl 4 rfl ?_
  refine v_iload C dL_law_1345 rfl 0 rfl ?_
  refine v_iconst C (v := 1) dL_law_1347 rfl rfl ?_
  refine v_iaddN C i 1 rfl rfl dL_law_1348 rfl ?_
  refine v_sld C S (i + 1) (by omega) dL_law_1349 rfl ?_
  refine v_aload_n C dL_law_1350 rfl 4 rfl ?_
  refine v_iload C dL_law_1351 rfl 0 rfl ?_
  refine v_iconst C (v := 2) dL_law_1353 rfl rfl ?_
  refine v_iaddN C i 2 rfl rfl dL_law_1354 rfl ?_
  refine v_sld C S (i + 2) (by omega) dL_law_1355 rfl ?_
  refine v_aload_n C dL_law_1356 rfl 4 rfl ?_
  refine v_iload C dL_law_1357 rfl 0 rfl ?_
  refine v_iconst C (v := 3) dL_law_1359 rfl rfl ?_
  refine v_iaddN C i 3 rfl rfl dL_law_1360 rfl ?_
  refine v_sld C S (i + 3) (by omega) dL_law_1361 rfl ?_
  refine v_aload_n C dL_law_1362 rfl 1 rfl ?_
  refine v_invSX C (np := 5) (As := [.ref (a 2 0), .int (xs (i + 1)), .int (xs (i + 2)), .int (xs (i + 3)), .ref (a 14 0)]) (q1 0 rfl rfl) (q4 19 rfl rfl) L_L_175 (q4 18 rfl rfl) ⟨by decide, by decide, by decide +kernel⟩ (c_L_trade (e := tradeE z (xs (i + 1)) (xs (i + 2)) (xs (i + 3))) (P2 := Mid G (a 2 0) (a 0 0) (a 14 0) (su (tradeUC z (xs (i + 1)) (xs (i + 2)) (xs (i + 3))) 60 0 (tradeR z (xs (i + 1)) (xs (i + 2)) (xs (i + 3)))) z nm nc nr) hst hG (m2 (s := z) (t := z) (g := G.2.2.1) hL) (c_X7_trade (s := z) (t := z) (nm := nm) (nc := nc) hst hG hL (xs (i + 1)) (xs (i + 2)) (xs (i + 3)) T0.1 hI.1.1.2 (lv0 T0) T1.1 (lv1 T1) hI.2.2.2.2.1.1 (hcf_of hI.2.2.2.1.1)) (fun v w0 hv => by obtain ⟨rfl, rfl, hE⟩ := hv; exact ⟨_, wl a (E G.2.2.1 a (su (tradeUC z (xs (i + 1)) (xs (i + 2)) (xs (i + 3))) 60 0 (tradeR z (xs (i + 1)) (xs (i + 2)) (xs (i + 3)))) z) La, rfl, hE, put_out hL _ rfl, a, La, s0, rfl, hL, ⟨rfl, rfl, rfl⟩, T0.frame rfl rfl rfl (((congrFun (su_o (by decide)) 0).trans (hJ (hQ.symm.trans hE)).cnt.1).trans T0.1.1.symm) rfl, T1.frame rfl rfl rfl (((congrFun (su_o (by decide)) 0).trans (hJ (hQ.symm.trans hE)).cnt.2.1).trans T1.1.1.symm) rfl, T2.frame rfl rfl rfl (((congrFun (su_o (by decide)) 0).trans (hJ (hQ.symm.trans hE)).cnt.2.2).trans T2.1.1.symm) rfl⟩)) rfl rfl (by decide) ⟨Nat.le_trans (Nat.add_le_add_left (show 6 ≤ 10 by decide) k) hk.1, Nat.le_trans (Nat.add_le_add_left (show 36 ≤ 200 by decide) n) hk.2⟩ (by decide) dL_law_1363 rfl kx_no (fun v w1 hv => ?_)
  obtain ⟨rfl, hv⟩ := hv
  refine xx_mono (k' := k + 10) (n' := n + 200) (Nat.add_le_add_left (show 6 ≤ 10 by decide) k) (Nat.add_le_add_left (show 36 ≤ 200 by decide) n) ?_
  show V X G 7 _ _ _ _ _ _ [.int (tradeE z (xs (i + 1)) (xs (i + 2)) (xs (i + 3)))]
  refine v_istore C (lv1 := (5, .int (tradeE z (xs (i + 1)) (xs (i + 2)) (xs (i + 3)))) :: [(4, .int (nI i)), (3, .ref (a 14 0)), (2, .ref (a 0 0)), (1, .ref (a 2 0)), (0, .ref b)]) dL_law_1366 rfl (by decide) rfl ?_
  rcases hv with ⟨hne, rfl⟩ | ⟨h0, hP⟩
  · have he : ¬ tradeE z (xs (i + 1)) (xs (i + 2)) (xs (i + 3)) = 0 := fun q => hne (hQ.trans q)
    have hT : (pU (tradeE z (xs (i + 1)) (xs (i + 2)) (xs (i + 3))) (tradeU (su z 45 0 0) (xs (i + 1)) (xs (i + 2)) (xs (i + 3))) z) = su z 45 0 (tradeE z (xs (i + 1)) (xs (i + 2)) (xs (i + 3))) := (pU_n he)
    refine lwm_trade C S hi (s := z) (z := z) (am := nm) (ac := nc) (ar := nr) ⟨a, La, s0, rfl, hL, ⟨rfl, rfl, rfl⟩, T0, T1, T2⟩ hI (by omega) hk (by rw [hT, hQ]; exact su_a) (fun q => absurd q hne) (fun w' hw' => kk w' ?_)
    rw [hT] at hw'
    exact wi_of hw' (j_err hI hg _)
  · obtain ⟨hT, h45, hRR⟩ := hN (hQ.symm.trans h0)
    refine lwm_trade C S hi (s := su (tradeUC z (xs (i + 1)) (xs (i + 2)) (xs (i + 3))) 60 0 (tradeR z (xs (i + 1)) (xs (i + 2)) (xs (i + 3)))) (z := z) (hP) hI (by omega) hk (by rw [hT, h45, h0]) (fun _ => (su_a.trans hRR)) (fun w' hw' => kk w' ?_)
    rw [hT] at hw'
    exact wi_of hw' ((hJ (hQ.symm.trans h0)).out _)

theorem lwc_suit {X : XS} {G : GG} {nme : String} {tb : List ExceptionTableEntry} {w : va_W} {k n : Nat} {Q : State → Prop} {b L i x m o : Nat} {xs : Nat → Int32} {c : Nat} (C : Cx X G cL_law 7 RL (some .boolean) room_1 nme tb) (S : Scr X G b L xs) (hi : i + 5 ≤ L) (hMi : MiOK G) (hW : WI G x m o c w) (hc : c < 512) (hk : k + 10 ≤ 601024 ∧ n + 200 ≤ 7293034) (kk : ∀ w', WI G x m o (c + 1) w' → V X G 7 w' (k + 10) (n + 200) Q 2124 [(4, .int (nI i)), (3, .ref o), (2, .ref m), (1, .ref x), (0, .ref b)] []) : V X G 7 w k n Q 1423 [(4, .int (nI i)), (3, .ref o), (2, .ref m), (1, .ref x), (0, .ref b)] [] := by
  have hst : X.2.1.stackTraces = false := C.2.2.2.2.2.1
  have hG : GOK G := C.2.2.2.2.2.2.2.2.2.1
  obtain ⟨z, nm, nc, nr, nf, ns, dd, ⟨a, La, s0, rfl, hL, ⟨rfl, rfl, rfl⟩, T0, T1, T2⟩, hI, hg⟩ := hW
  have hJ : suitE z ns (xs (i + 1)) = 0 → Jx (suitUC z (xs (i + 1))) (suitU (su z 45 0 0) ns (xs (i + 1))) nm nc nr (c + 1) := fun he => j_suit hI hg he
  have hN : suitE z ns (xs (i + 1)) = 0 → (pU (suitE z ns (xs (i + 1))) (suitU (su z 45 0 0) ns (xs (i + 1))) z) = suitU (su z 45 0 0) ns (xs (i + 1)) ∧ (suitU (su z 45 0 0) ns (xs (i + 1))) 45 0 = 0 ∧ suitRC z (xs (i + 1)) = pM (suitE z ns (xs (i + 1))) (suitR z ns (xs (i + 1))) := fun he => ⟨(pU_z he), (k_suit hI he).2, ((k_suitU hI he).2).trans (pM_0 he).symm⟩
  have hQ : suitEC z (xs (i + 1)) = suitE z ns (xs (i + 1)) := k_suitE hI
  refine v_aload_n C dL_law_1423 rfl 3 rfl ?_
  refine v_aload_n C dL_law_1424 rfl 4 rfl ?_
  refine v_iload C dL_law_1425 rfl 0 rfl ?_
  refine v_iconst C (v := 1) dL_law_1427 rfl rfl ?_
  refine v_iaddN C i 1 rfl rfl dL_law_1428 rfl ?_
  refine v_sld C S (i + 1) (by omega) dL_law_1429 rfl ?_
  refine v_aload_n C dL_law_1430 rfl 1 rfl ?_
  refine v_invSX C (np := 3) (As := [.ref (a 2 0), .int (xs (i + 1)), .ref (a 14 0)]) (q1 0 rfl rfl) (q4 34 rfl rfl) L_L_178 (q4 33 rfl rfl) ⟨by decide, by decide, by decide +kernel⟩ (c_L_suit (e := suitEC z (xs (i + 1))) (P2 := Mid G (a 2 0) (a 0 0) (a 14 0) (su (suitUC z (xs (i + 1))) 60 0 (suitRC z (xs (i + 1)))) z nm nc nr) hst hG (m2 (s := z) (t := z) (g := G.2.2.1) hL) (c_X7_suit (s := z) (t := z) (nm := nm) (nc := nc) hst hG hL (xs (i + 1)) T0.1 hI.1.1.2 (lv0 T0) T1.1 (lv1 T1) hI.2.2.2.2.1.1 (hsl_of hI.2.2.2.2.2.1)) (fun v w0 hv => by obtain ⟨rfl, rfl, hE⟩ := hv; exact ⟨_, wl a (E G.2.2.1 a (su (suitUC z (xs (i + 1))) 60 0 (suitRC z (xs (i + 1)))) z) La, rfl, hE, put_out hL _ rfl, a, La, s0, rfl, hL, ⟨rfl, rfl, rfl⟩, T0.frame rfl rfl rfl (((congrFun (su_o (by decide)) 0).trans (hJ (hQ.symm.trans hE)).cnt.1).trans T0.1.1.symm) rfl, T1.frame rfl rfl rfl (((congrFun (su_o (by decide)) 0).trans (hJ (hQ.symm.trans hE)).cnt.2.1).trans T1.1.1.symm) rfl, T2.frame rfl rfl rfl (((congrFun (su_o (by decide)) 0).trans (hJ (hQ.symm.trans hE)).cnt.2.2).trans T2.1.1.symm) rfl⟩)) rfl rfl (by decide) ⟨Nat.le_trans (Nat.add_le_add_left (show 4 ≤ 10 by decide) k) hk.1, Nat.le_trans (Nat.add_le_add_left (show 24 ≤ 200 by decide) n) hk.2⟩ (by decide) dL_law_1431 rfl kx_no (fun v w1 hv => ?_)
  obtain ⟨rfl, hv⟩ := hv
  refine xx_mono (k' := k + 10) (n' := n + 200) (Nat.add_le_add_left (show 4 ≤ 10 by decide) k) (Nat.add_le_add_left (show 24 ≤ 200 by decide) n) ?_
  show V X G 7 _ _ _ _ _ _ [.int (suitEC z (xs (i + 1)))]
  refine v_istore C (lv1 := (5, .int (suitEC z (xs (i + 1)))) :: [(4, .int (nI i)), (3, .ref (a 14 0)), (2, .ref (a 0 0)), (1, .ref (a 2 0)), (0, .ref b)]) dL_law_1434 rfl (by decide) rfl ?_
  rcases hv with ⟨hne, rfl⟩ | ⟨h0, hP⟩
  · have he : ¬ suitE z ns (xs (i + 1)) = 0 := fun q => hne (hQ.trans q)
    have hT : (pU (suitE z ns (xs (i + 1))) (suitU (su z 45 0 0) ns (xs (i + 1))) z) = su z 45 0 (suitE z ns (xs (i + 1))) := (pU_n he)
    refine lwm_suit C S hi (s := z) (z := z) (am := nm) (ac := nc) (ar := nr) ⟨a, La, s0, rfl, hL, ⟨rfl, rfl, rfl⟩, T0, T1, T2⟩ hI (by omega) hk (by rw [hT, hQ]; exact su_a) (fun q => absurd q hne) (fun w' hw' => kk w' ?_)
    rw [hT] at hw'
    exact wi_of hw' (j_err hI hg _)
  · obtain ⟨hT, h45, hRR⟩ := hN (hQ.symm.trans h0)
    refine lwm_suit C S hi (s := su (suitUC z (xs (i + 1))) 60 0 (suitRC z (xs (i + 1)))) (z := z) (hP) hI (by omega) hk (by rw [hT, h45, h0]) (fun _ => (su_a.trans hRR)) (fun w' hw' => kk w' ?_)
    rw [hT] at hw'
    exact wi_of hw' ((hJ (hQ.symm.trans h0)).out _)

theorem lwc_rumour {X : XS} {G : GG} {nme : String} {tb : List ExceptionTableEntry} {w : va_W} {k n : Nat} {Q : State → Prop} {b L i x m o : Nat} {xs : Nat → Int32} {c : Nat} (C : Cx X G cL_law 7 RL (some .boolean) room_1 nme tb) (S : Scr X G b L xs) (hi : i + 5 ≤ L) (hMi : MiOK G) (hW : WI G x m o c w) (hc : c < 512) (hk : k + 10 ≤ 601024 ∧ n + 200 ≤ 7293034) (kk : ∀ w', WI G x m o (c + 1) w' → V X G 7 w' (k + 10) (n + 200) Q 2124 [(4, .int (nI i)), (3, .ref o), (2, .ref m), (1, .ref x), (0, .ref b)] []) : V X G 7 w k n Q 1479 [(4, .int (nI i)), (3, .ref o), (2, .ref m), (1, .ref x), (0, .ref b)] [] := by
  have hst : X.2.1.stackTraces = false := C.2.2.2.2.2.1
  have hG : GOK G := C.2.2.2.2.2.2.2.2.2.1
  obtain ⟨z, nm, nc, nr, nf, ns, dd, ⟨a, La, s0, rfl, hL, ⟨rfl, rfl, rfl⟩, T0, T1, T2⟩, hI, hg⟩ := hW
  have hJ : rumourE z (xs (i + 1)) (xs (i + 2)) = 0 → Jx (rumourU z (xs (i + 1)) (xs (i + 2))) (rumourU (su z 45 0 0) (xs (i + 1)) (xs (i + 2))) nm nc nr (c + 1) := fun he => j_rumour hI hg he
  have hN : rumourE z (xs (i + 1)) (xs (i + 2)) = 0 → (pU (rumourE z (xs (i + 1)) (xs (i + 2))) (rumourU (su z 45 0 0) (xs (i + 1)) (xs (i + 2))) z) = rumourU (su z 45 0 0) (xs (i + 1)) (xs (i + 2)) ∧ (rumourU (su z 45 0 0) (xs (i + 1)) (xs (i + 2))) 45 0 = 0 ∧ rumourR z (xs (i + 1)) (xs (i + 2)) = pM (rumourE z (xs (i + 1)) (xs (i + 2))) (rumourR z (xs (i + 1)) (xs (i + 2))) := fun he => ⟨(pU_z he), (k_rumour hI he).2, (rfl).trans (pM_0 he).symm⟩
  have hQ : rumourE z (xs (i + 1)) (xs (i + 2)) = rumourE z (xs (i + 1)) (xs (i + 2)) := rfl
  refine v_aload_n C dL_law_1479 rfl 3 rfl ?_
  refine v_aload_n C dL_law_1480 rfl 4 rfl ?_
  refine v_iload C dL_law_1481 rfl 0 rfl ?_
  refine v_iconst C (v := 1) dL_law_1483 rfl rfl ?_
  refine v_iaddN C i 1 rfl rfl dL_law_1484 rfl ?_
  refine v_sld C S (i + 1) (by omega) dL_law_1485 rfl ?_
  refine v_aload_n C dL_law_1486 rfl 4 rfl ?_
  refine v_iload C dL_law_1487 rfl 0 rfl ?_
  refine v_iconst C (v := 2) dL_law_1489 rfl rfl ?_
  refine v_iaddN C i 2 rfl rfl dL_law_1490 rfl ?_
  refine v_sld C S (i + 2) (by omega) dL_law_1491 rfl ?_
  refine v_aload_n C dL_law_1492 rfl 1 rfl ?_
  refine v_invSX C (np := 4) (As := [.ref (a 2 0), .int (xs (i + 1)), .int (xs (i + 2)), .ref (a 14 0)]) (q1 0 rfl rfl) (q4 41 rfl rfl) L_L_181 (q4 40 rfl rfl) ⟨by decide, by decide, by decide +kernel⟩ (c_L_rumour (e := rumourE z (xs (i + 1)) (xs (i + 2))) (P2 := Mid G (a 2 0) (a 0 0) (a 14 0) (su (rumourU z (xs (i + 1)) (xs (i + 2))) 60 0 (rumourR z (xs (i + 1)) (xs (i + 2)))) z nm nc nr) hst hG (m2 (s := z) (t := z) (g := G.2.2.1) hL) (c_X7_rumour (s := z) (t := z)  hst hG hL (xs (i + 1)) (xs (i + 2))) (fun v w0 hv => by obtain ⟨rfl, rfl, hE⟩ := hv; exact ⟨_, wl a (E G.2.2.1 a (su (rumourU z (xs (i + 1)) (xs (i + 2))) 60 0 (rumourR z (xs (i + 1)) (xs (i + 2)))) z) La, rfl, hE, put_out hL _ rfl, a, La, s0, rfl, hL, ⟨rfl, rfl, rfl⟩, T0.frame rfl rfl rfl (((congrFun (su_o (by decide)) 0).trans (hJ (hQ.symm.trans hE)).cnt.1).trans T0.1.1.symm) rfl, T1.frame rfl rfl rfl (((congrFun (su_o (by decide)) 0).trans (hJ (hQ.symm.trans hE)).cnt.2.1).trans T1.1.1.symm) rfl, T2.frame rfl rfl rfl (((congrFun (su_o (by decide)) 0).trans (hJ (hQ.symm.trans hE)).cnt.2.2).trans T2.1.1.symm) rfl⟩)) rfl rfl (by decide) ⟨Nat.le_trans (Nat.add_le_add_left (show 2 ≤ 10 by decide) k) hk.1, Nat.le_trans (Nat.add_le_add_left (show 12 ≤ 200 by decide) n) hk.2⟩ (by decide) dL_law_1493 rfl kx_no (fun v w1 hv => ?_)
  obtain ⟨rfl, hv⟩ := hv
  refine xx_mono (k' := k + 10) (n' := n + 200) (Nat.add_le_add_left (show 2 ≤ 10 by decide) k) (Nat.add_le_add_left (show 12 ≤ 200 by decide) n) ?_
  show V X G 7 _ _ _ _ _ _ [.int (rumourE z (xs (i + 1)) (xs (i + 2)))]
  refine v_istore C (lv1 := (5, .int (rumourE z (xs (i + 1)) (xs (i + 2)))) :: [(4, .int (nI i)), (3, .ref (a 14 0)), (2, .ref (a 0 0)), (1, .ref (a 2 0)), (0, .ref b)]) dL_law_1496 rfl (by decide) rfl ?_
  rcases hv with ⟨hne, rfl⟩ | ⟨h0, hP⟩
  · have he : ¬ rumourE z (xs (i + 1)) (xs (i + 2)) = 0 := fun q => hne (hQ.trans q)
    have hT : (pU (rumourE z (xs (i + 1)) (xs (i + 2))) (rumourU (su z 45 0 0) (xs (i + 1)) (xs (i + 2))) z) = su z 45 0 (rumourE z (xs (i + 1)) (xs (i + 2))) := (pU_n he)
    refine lwm_rumour C S hi (s := z) (z := z) (am := nm) (ac := nc) (ar := nr) ⟨a, La, s0, rfl, hL, ⟨rfl, rfl, rfl⟩, T0, T1, T2⟩ hI (by omega) hk (by rw [hT, hQ]; exact su_a) (fun q => absurd q hne) (fun w' hw' => kk w' ?_)
    rw [hT] at hw'
    exact wi_of hw' (j_err hI hg _)
  · obtain ⟨hT, h45, hRR⟩ := hN (hQ.symm.trans h0)
    refine lwm_rumour C S hi (s := su (rumourU z (xs (i + 1)) (xs (i + 2))) 60 0 (rumourR z (xs (i + 1)) (xs (i + 2)))) (z := z) (hP) hI (by omega) hk (by rw [hT, h45, h0]) (fun _ => (su_a.trans hRR)) (fun w' hw' => kk w' ?_)
    rw [hT] at hw'
    exact wi_of hw' ((hJ (hQ.symm.trans h0)).out _)

theorem lwc_day {X : XS} {G : GG} {nme : String} {tb : List ExceptionTableEntry} {w : va_W} {k n : Nat} {Q : State → Prop} {b L i x m o : Nat} {xs : Nat → Int32} {c : Nat} (C : Cx X G cL_law 7 RL (some .boolean) room_1 nme tb) (S : Scr X G b L xs) (hi : i + 5 ≤ L) (hMi : MiOK G) (hW : WI G x m o c w) (hc : c < 512) (hk : k + 10 ≤ 601024 ∧ n + 200 ≤ 7293034) (kk : ∀ w', WI G x m o (c + 1) w' → V X G 7 w' (k + 10) (n + 200) Q 2124 [(4, .int (nI i)), (3, .ref o), (2, .ref m), (1, .ref x), (0, .ref b)] []) : V X G 7 w k n Q 1547 [(4, .int (nI i)), (3, .ref o), (2, .ref m), (1, .ref x), (0, .ref b)] [] := by
  have hst : X.2.1.stackTraces = false := C.2.2.2.2.2.1
  have hG : GOK G := C.2.2.2.2.2.2.2.2.2.1
  obtain ⟨z, nm, nc, nr, nf, ns, dd, ⟨a, La, s0, rfl, hL, ⟨rfl, rfl, rfl⟩, T0, T1, T2⟩, hI, hg⟩ := hW
  refine xx_mono (k' := k + 10) (n' := n + 200) (by omega) (by omega) ?_
  refine v_aload_n C dL_law_1547 rfl 3 rfl ?_
  refine v_invV C (As := []) L_L_184 (c_X7_day (s := z) (t := z) hst hG hL) (m2 (s := z) (t := z) (g := G.2.2.1) hL) rfl rfl rfl (by decide) ⟨hk.1, hk.2⟩ (Nat.le_of_ble_eq_true rfl) dL_law_1548 rfl kx_no (fun v w1 hv => ?_)
  obtain ⟨rfl, rfl, -⟩ := hv
  refine xx_mono (k' := k + 10) (n' := n + 200) (Nat.le_refl _) (Nat.le_refl _) ?_
  show V X G 7 _ _ _ _ _ _ [.int (z 0 0)]
  refine v_aload_n C dL_law_1551 rfl 2 rfl ?_
  refine v_invV C (As := []) L_L_187 (c_X8_day (s := z) (t := z) hst hG hL) (m0 (s := z) (t := z) (g := G.2.2.1) hL) rfl rfl rfl (by decide) ⟨hk.1, hk.2⟩ (Nat.le_of_ble_eq_true rfl) dL_law_1552 rfl kx_no (fun v w1 hv => ?_)
  obtain ⟨rfl, rfl, -⟩ := hv
  refine xx_mono (k' := k + 10) (n' := n + 200) (Nat.le_refl _) (Nat.le_refl _) ?_
  show V X G 7 _ _ _ _ _ _ [.int (z 0 0), .int (z 0 0)]
  refine v_icmp_eq C (t := 2124) dL_law_1555 rfl rfl (fun _ => ?_) (fun h => absurd rfl h)
  exact kk _ (wi_of ⟨a, La, s0, rfl, hL, ⟨rfl, rfl, rfl⟩, T0, T1, T2⟩ (j_err hI hg 0))

theorem lwc_holds {X : XS} {G : GG} {nme : String} {tb : List ExceptionTableEntry} {w : va_W} {k n : Nat} {Q : State → Prop} {b L i x m o : Nat} {xs : Nat → Int32} {c : Nat} (C : Cx X G cL_law 7 RL (some .boolean) room_1 nme tb) (S : Scr X G b L xs) (hi : i + 5 ≤ L) (hMi : MiOK G) (hW : WI G x m o c w) (hc : c < 512) (hk : k + 10 ≤ 601024 ∧ n + 200 ≤ 7293034) (kk : ∀ w', WI G x m o (c + 1) w' → V X G 7 w' (k + 10) (n + 200) Q 2124 [(4, .int (nI i)), (3, .ref o), (2, .ref m), (1, .ref x), (0, .ref b)] []) : V X G 7 w k n Q 1560 [(4, .int (nI i)), (3, .ref o), (2, .ref m), (1, .ref x), (0, .ref b)] [] := by
  have hst : X.2.1.stackTraces = false := C.2.2.2.2.2.1
  have hG : GOK G := C.2.2.2.2.2.2.2.2.2.1
  obtain ⟨z, nm, nc, nr, nf, ns, dd, ⟨a, La, s0, rfl, hL, ⟨rfl, rfl, rfl⟩, T0, T1, T2⟩, hI, hg⟩ := hW
  have hJ : holdsE z nc (xs (i + 1)) = 0 → Jx (z) (su z 45 0 0) nm nc nr (c + 1) := fun he => j_err hI hg 0
  have hN : holdsE z nc (xs (i + 1)) = 0 → (pU (holdsE z nc (xs (i + 1))) (su z 45 0 0) z) = su z 45 0 0 ∧ (su z 45 0 0) 45 0 = 0 ∧ heldC z (xs (i + 1)) nc = pM (holdsE z nc (xs (i + 1))) (holdsR z nc (xs (i + 1))) := fun he => ⟨(pU_z he), su_a, (hd_eq hI.2.2.2.1 _).trans (pM_0 he).symm⟩
  have hQ : holdsE z nc (xs (i + 1)) = holdsE z nc (xs (i + 1)) := rfl
  refine v_aload_n C dL_law_1560 rfl 3 rfl ?_
  refine v_aload_n C dL_law_1561 rfl 4 rfl ?_
  refine v_iload C dL_law_1562 rfl 0 rfl ?_
  refine v_iconst C (v := 1) dL_law_1564 rfl rfl ?_
  refine v_iaddN C i 1 rfl rfl dL_law_1565 rfl ?_
  refine v_sld C S (i + 1) (by omega) dL_law_1566 rfl ?_
  refine v_aload_n C dL_law_1567 rfl 1 rfl ?_
  refine v_invSX C (np := 3) (As := [.ref (a 2 0), .int (xs (i + 1)), .ref (a 14 0)]) (q1 0 rfl rfl) (q4 57 rfl rfl) L_L_188 (q4 56 rfl rfl) ⟨by decide, by decide, by decide +kernel⟩ (c_L_holds (e := holdsE z nc (xs (i + 1))) (P2 := Mid G (a 2 0) (a 0 0) (a 14 0) (su (z) 60 0 (heldC z (xs (i + 1)) nc)) z nm nc nr) hst hG (m2 (s := z) (t := z) (g := G.2.2.1) hL) (c_X7_holds (s := z) (t := z) (nc := nc) hst hG hL (xs (i + 1)) T1.1 (lv1 T1)) (fun v w0 hv => by obtain ⟨rfl, rfl, hE⟩ := hv; exact ⟨_, wl a (E G.2.2.1 a (su (z) 60 0 (heldC z (xs (i + 1)) nc)) z) La, rfl, hE, put_out hL _ rfl, a, La, s0, rfl, hL, ⟨rfl, rfl, rfl⟩, T0.frame rfl rfl rfl (((congrFun (su_o (by decide)) 0).trans (hJ (hQ.symm.trans hE)).cnt.1).trans T0.1.1.symm) rfl, T1.frame rfl rfl rfl (((congrFun (su_o (by decide)) 0).trans (hJ (hQ.symm.trans hE)).cnt.2.1).trans T1.1.1.symm) rfl, T2.frame rfl rfl rfl (((congrFun (su_o (by decide)) 0).trans (hJ (hQ.symm.trans hE)).cnt.2.2).trans T2.1.1.symm) rfl⟩)) rfl rfl (by decide) ⟨Nat.le_trans (Nat.add_le_add_left (show 1 ≤ 10 by decide) k) hk.1, Nat.le_trans (Nat.add_le_add_left (show 6 ≤ 200 by decide) n) hk.2⟩ (by decide) dL_law_1568 rfl kx_no (fun v w1 hv => ?_)
  obtain ⟨rfl, hv⟩ := hv
  refine xx_mono (k' := k + 10) (n' := n + 200) (Nat.add_le_add_left (show 1 ≤ 10 by decide) k) (Nat.add_le_add_left (show 6 ≤ 200 by decide) n) ?_
  show V X G 7 _ _ _ _ _ _ [.int (holdsE z nc (xs (i + 1)))]
  refine v_istore C (lv1 := (5, .int (holdsE z nc (xs (i + 1)))) :: [(4, .int (nI i)), (3, .ref (a 14 0)), (2, .ref (a 0 0)), (1, .ref (a 2 0)), (0, .ref b)]) dL_law_1571 rfl (by decide) rfl ?_
  rcases hv with ⟨hne, rfl⟩ | ⟨h0, hP⟩
  · have he : ¬ holdsE z nc (xs (i + 1)) = 0 := fun q => hne (hQ.trans q)
    have hT : (pU (holdsE z nc (xs (i + 1))) (su z 45 0 0) z) = su z 45 0 (holdsE z nc (xs (i + 1))) := (pU_n he)
    refine lwm_holds C S hi (s := z) (z := z) (am := nm) (ac := nc) (ar := nr) ⟨a, La, s0, rfl, hL, ⟨rfl, rfl, rfl⟩, T0, T1, T2⟩ hI (by omega) hk (by rw [hT, hQ]; exact su_a) (fun q => absurd q hne) (fun w' hw' => kk w' ?_)
    rw [hT] at hw'
    exact wi_of hw' (j_err hI hg _)
  · obtain ⟨hT, h45, hRR⟩ := hN (hQ.symm.trans h0)
    refine lwm_holds C S hi (s := su (z) 60 0 (heldC z (xs (i + 1)) nc)) (z := z) (hP) hI (by omega) hk (by rw [hT, h45, h0]) (fun _ => (su_a.trans hRR)) (fun w' hw' => kk w' ?_)
    rw [hT] at hw'
    exact wi_of hw' ((hJ (hQ.symm.trans h0)).out _)

theorem lwc_ofClaim {X : XS} {G : GG} {nme : String} {tb : List ExceptionTableEntry} {w : va_W} {k n : Nat} {Q : State → Prop} {b L i x m o : Nat} {xs : Nat → Int32} {c : Nat} (C : Cx X G cL_law 7 RL (some .boolean) room_1 nme tb) (S : Scr X G b L xs) (hi : i + 5 ≤ L) (hMi : MiOK G) (hW : WI G x m o c w) (hc : c < 512) (hk : k + 10 ≤ 601024 ∧ n + 200 ≤ 7293034) (kk : ∀ w', WI G x m o (c + 1) w' → V X G 7 w' (k + 10) (n + 200) Q 2124 [(4, .int (nI i)), (3, .ref o), (2, .ref m), (1, .ref x), (0, .ref b)] []) : V X G 7 w k n Q 1616 [(4, .int (nI i)), (3, .ref o), (2, .ref m), (1, .ref x), (0, .ref b)] [] := by
  have hst : X.2.1.stackTraces = false := C.2.2.2.2.2.1
  have hG : GOK G := C.2.2.2.2.2.2.2.2.2.1
  obtain ⟨z, nm, nc, nr, nf, ns, dd, ⟨a, La, s0, rfl, hL, ⟨rfl, rfl, rfl⟩, T0, T1, T2⟩, hI, hg⟩ := hW
  have hJ : ofClaimE z (xs (i + 1)) (xs (i + 2)) = 0 → Jx (z) (su z 45 0 0) nm nc nr (c + 1) := fun he => j_err hI hg 0
  have hN : ofClaimE z (xs (i + 1)) (xs (i + 2)) = 0 → (pU (ofClaimE z (xs (i + 1)) (xs (i + 2))) (su z 45 0 0) z) = su z 45 0 0 ∧ (su z 45 0 0) 45 0 = 0 ∧ ofClaimR z (xs (i + 1)) (xs (i + 2)) = pM (ofClaimE z (xs (i + 1)) (xs (i + 2))) (ofClaimR z (xs (i + 1)) (xs (i + 2))) := fun he => ⟨(pU_z he), su_a, (rfl).trans (pM_0 he).symm⟩
  have hQ : ofClaimE z (xs (i + 1)) (xs (i + 2)) = ofClaimE z (xs (i + 1)) (xs (i + 2)) := rfl
  refine v_aload_n C dL_law_1616 rfl 3 rfl ?_
  refine v_aload_n C dL_law_1617 rfl 4 rfl ?_
  refine v_iload C dL_law_1618 rfl 0 rfl ?_
  refine v_iconst C (v := 1) dL_law_1620 rfl rfl ?_
  refine v_iaddN C i 1 rfl rfl dL_law_1621 rfl ?_
  refine v_sld C S (i + 1) (by omega) dL_law_1622 rfl ?_
  refine v_aload_n C dL_law_1623 rfl 4 rfl ?_
  refine v_iload C dL_law_1624 rfl 0 rfl ?_
  refine v_iconst C (v := 2) dL_law_1626 rfl rfl ?_
  refine v_iaddN C i 2 rfl rfl dL_law_1627 rfl ?_
  refine v_sld C S (i + 2) (by omega) dL_law_1628 rfl ?_
  refine v_aload_n C dL_law_1629 rfl 1 rfl ?_
  refine v_invSX C (np := 4) (As := [.ref (a 2 0), .int (xs (i + 1)), .int (xs (i + 2)), .ref (a 14 0)]) (q1 0 rfl rfl) (q4 64 rfl rfl) L_L_191 (q4 63 rfl rfl) ⟨by decide, by decide, by decide +kernel⟩ (c_L_ofClaim (e := ofClaimE z (xs (i + 1)) (xs (i + 2))) (P2 := Mid G (a 2 0) (a 0 0) (a 14 0) (su (z) 60 0 (ofClaimR z (xs (i + 1)) (xs (i + 2)))) z nm nc nr) hst hG (m2 (s := z) (t := z) (g := G.2.2.1) hL) (c_X7_ofClaim (s := z) (t := z) (nc := nc) hst hG hL (xs (i + 1)) (xs (i + 2)) T1.1 (lv1 T1)) (fun v w0 hv => by obtain ⟨rfl, rfl, hE⟩ := hv; exact ⟨_, wl a (E G.2.2.1 a (su (z) 60 0 (ofClaimR z (xs (i + 1)) (xs (i + 2)))) z) La, rfl, hE, put_out hL _ rfl, a, La, s0, rfl, hL, ⟨rfl, rfl, rfl⟩, T0.frame rfl rfl rfl (((congrFun (su_o (by decide)) 0).trans (hJ (hQ.symm.trans hE)).cnt.1).trans T0.1.1.symm) rfl, T1.frame rfl rfl rfl (((congrFun (su_o (by decide)) 0).trans (hJ (hQ.symm.trans hE)).cnt.2.1).trans T1.1.1.symm) rfl, T2.frame rfl rfl rfl (((congrFun (su_o (by decide)) 0).trans (hJ (hQ.symm.trans hE)).cnt.2.2).trans T2.1.1.symm) rfl⟩)) rfl rfl (by decide) ⟨Nat.le_trans (Nat.add_le_add_left (show 2 ≤ 10 by decide) k) hk.1, Nat.le_trans (Nat.add_le_add_left (show 12 ≤ 200 by decide) n) hk.2⟩ (by decide) dL_law_1630 rfl kx_no (fun v w1 hv => ?_)
  obtain ⟨rfl, hv⟩ := hv
  refine xx_mono (k' := k + 10) (n' := n + 200) (Nat.add_le_add_left (show 2 ≤ 10 by decide) k) (Nat.add_le_add_left (show 12 ≤ 200 by decide) n) ?_
  show V X G 7 _ _ _ _ _ _ [.int (ofClaimE z (xs (i + 1)) (xs (i + 2)))]
  refine v_istore C (lv1 := (5, .int (ofClaimE z (xs (i + 1)) (xs (i + 2)))) :: [(4, .int (nI i)), (3, .ref (a 14 0)), (2, .ref (a 0 0)), (1, .ref (a 2 0)), (0, .ref b)]) dL_law_1633 rfl (by decide) rfl ?_
  rcases hv with ⟨hne, rfl⟩ | ⟨h0, hP⟩
  · have he : ¬ ofClaimE z (xs (i + 1)) (xs (i + 2)) = 0 := fun q => hne (hQ.trans q)
    have hT : (pU (ofClaimE z (xs (i + 1)) (xs (i + 2))) (su z 45 0 0) z) = su z 45 0 (ofClaimE z (xs (i + 1)) (xs (i + 2))) := (pU_n he)
    refine lwm_ofClaim C S hi (s := z) (z := z) (am := nm) (ac := nc) (ar := nr) ⟨a, La, s0, rfl, hL, ⟨rfl, rfl, rfl⟩, T0, T1, T2⟩ hI (by omega) hk (by rw [hT, hQ]; exact su_a) (fun q => absurd q hne) (fun w' hw' => kk w' ?_)
    rw [hT] at hw'
    exact wi_of hw' (j_err hI hg _)
  · obtain ⟨hT, h45, hRR⟩ := hN (hQ.symm.trans h0)
    refine lwm_ofClaim C S hi (s := su (z) 60 0 (ofClaimR z (xs (i + 1)) (xs (i + 2)))) (z := z) (hP) hI (by omega) hk (by rw [hT, h45, h0]) (fun _ => (su_a.trans hRR)) (fun w' hw' => kk w' ?_)
    rw [hT] at hw'
    exact wi_of hw' ((hJ (hQ.symm.trans h0)).out _)

theorem lwc_ofMiner {X : XS} {G : GG} {nme : String} {tb : List ExceptionTableEntry} {w : va_W} {k n : Nat} {Q : State → Prop} {b L i x m o : Nat} {xs : Nat → Int32} {c : Nat} (C : Cx X G cL_law 7 RL (some .boolean) room_1 nme tb) (S : Scr X G b L xs) (hi : i + 5 ≤ L) (hMi : MiOK G) (hW : WI G x m o c w) (hc : c < 512) (hk : k + 10 ≤ 601024 ∧ n + 200 ≤ 7293034) (kk : ∀ w', WI G x m o (c + 1) w' → V X G 7 w' (k + 10) (n + 200) Q 2124 [(4, .int (nI i)), (3, .ref o), (2, .ref m), (1, .ref x), (0, .ref b)] []) : V X G 7 w k n Q 1684 [(4, .int (nI i)), (3, .ref o), (2, .ref m), (1, .ref x), (0, .ref b)] [] := by
  have hst : X.2.1.stackTraces = false := C.2.2.2.2.2.1
  have hG : GOK G := C.2.2.2.2.2.2.2.2.2.1
  obtain ⟨z, nm, nc, nr, nf, ns, dd, ⟨a, La, s0, rfl, hL, ⟨rfl, rfl, rfl⟩, T0, T1, T2⟩, hI, hg⟩ := hW
  have hJ : ofMinerE z nm nr (xs (i + 1)) (xs (i + 2)) = 0 → Jx (z) (su z 45 0 0) nm nc nr (c + 1) := fun he => j_err hI hg 0
  have hN : ofMinerE z nm nr (xs (i + 1)) (xs (i + 2)) = 0 → (pU (ofMinerE z nm nr (xs (i + 1)) (xs (i + 2))) (su z 45 0 0) z) = su z 45 0 0 ∧ (su z 45 0 0) 45 0 = 0 ∧ ofMinerRC z nm nr (xs (i + 1)) (xs (i + 2)) = pM (ofMinerE z nm nr (xs (i + 1)) (xs (i + 2))) (ofMinerR z nm nr (xs (i + 1)) (xs (i + 2))) := fun he => ⟨(pU_z he), su_a, (j_ofM hI).trans (pM_0 he).symm⟩
  have hQ : ofMinerE z nm nr (xs (i + 1)) (xs (i + 2)) = ofMinerE z nm nr (xs (i + 1)) (xs (i + 2)) := rfl
  refine v_aload_n C dL_law_1684 rfl 3 rfl ?_
  refine v_aload_n C dL_law_1685 rfl 4 rfl ?_
  refine v_iload C dL_law_1686 rfl 0 rfl ?_
  refine v_iconst C (v := 1) dL_law_1688 rfl rfl ?_
  refine v_iaddN C i 1 rfl rfl dL_law_1689 rfl ?_
  refine v_sld C S (i + 1) (by omega) dL_law_1690 rfl ?_
  refine v_aload_n C dL_law_1691 rfl 4 rfl ?_
  refine v_iload C dL_law_1692 rfl 0 rfl ?_
  refine v_iconst C (v := 2) dL_law_1694 rfl rfl ?_
  refine v_iaddN C i 2 rfl rfl dL_law_1695 rfl ?_
  refine v_sld C S (i + 2) (by omega) dL_law_1696 rfl ?_
  refine v_aload_n C dL_law_1697 rfl 1 rfl ?_
  refine v_invSX C (np := 4) (As := [.ref (a 2 0), .int (xs (i + 1)), .int (xs (i + 2)), .ref (a 14 0)]) (q1 0 rfl rfl) (q4 71 rfl rfl) L_L_194 (q4 70 rfl rfl) ⟨by decide, by decide, by decide +kernel⟩ (c_L_ofMiner (e := ofMinerE z nm nr (xs (i + 1)) (xs (i + 2))) (P2 := Mid G (a 2 0) (a 0 0) (a 14 0) (su (z) 60 0 (ofMinerRC z nm nr (xs (i + 1)) (xs (i + 2)))) z nm nc nr) hst hG (m2 (s := z) (t := z) (g := G.2.2.1) hL) (c_X7_ofMiner (s := z) (t := z) (nm := nm) (nr := nr) hst hG hL (xs (i + 1)) (xs (i + 2)) T0.1 hI.1.1.2 (lv0 T0) T2.1 hI.1.2.2.1.2 (lv2 T2) hI.2.2.2.2.1.2) (fun v w0 hv => by obtain ⟨rfl, rfl, hE⟩ := hv; exact ⟨_, wl a (E G.2.2.1 a (su (z) 60 0 (ofMinerRC z nm nr (xs (i + 1)) (xs (i + 2)))) z) La, rfl, hE, put_out hL _ rfl, a, La, s0, rfl, hL, ⟨rfl, rfl, rfl⟩, T0.frame rfl rfl rfl (((congrFun (su_o (by decide)) 0).trans (hJ (hQ.symm.trans hE)).cnt.1).trans T0.1.1.symm) rfl, T1.frame rfl rfl rfl (((congrFun (su_o (by decide)) 0).trans (hJ (hQ.symm.trans hE)).cnt.2.1).trans T1.1.1.symm) rfl, T2.frame rfl rfl rfl (((congrFun (su_o (by decide)) 0).trans (hJ (hQ.symm.trans hE)).cnt.2.2).trans T2.1.1.symm) rfl⟩)) rfl rfl (by decide) ⟨Nat.le_trans (Nat.add_le_add_left (show 2 ≤ 10 by decide) k) hk.1, Nat.le_trans (Nat.add_le_add_left (show 12 ≤ 200 by decide) n) hk.2⟩ (by decide) dL_law_1698 rfl kx_no (fun v w1 hv => ?_)
  obtain ⟨rfl, hv⟩ := hv
  refine xx_mono (k' := k + 10) (n' := n + 200) (Nat.add_le_add_left (show 2 ≤ 10 by decide) k) (Nat.add_le_add_left (show 12 ≤ 200 by decide) n) ?_
  show V X G 7 _ _ _ _ _ _ [.int (ofMinerE z nm nr (xs (i + 1)) (xs (i + 2)))]
  refine v_istore C (lv1 := (5, .int (ofMinerE z nm nr (xs (i + 1)) (xs (i + 2)))) :: [(4, .int (nI i)), (3, .ref (a 14 0)), (2, .ref (a 0 0)), (1, .ref (a 2 0)), (0, .ref b)]) dL_law_1701 rfl (by decide) rfl ?_
  rcases hv with ⟨hne, rfl⟩ | ⟨h0, hP⟩
  · have he : ¬ ofMinerE z nm nr (xs (i + 1)) (xs (i + 2)) = 0 := fun q => hne (hQ.trans q)
    have hT : (pU (ofMinerE z nm nr (xs (i + 1)) (xs (i + 2))) (su z 45 0 0) z) = su z 45 0 (ofMinerE z nm nr (xs (i + 1)) (xs (i + 2))) := (pU_n he)
    refine lwm_ofMiner C S hi (s := z) (z := z) (am := nm) (ac := nc) (ar := nr) ⟨a, La, s0, rfl, hL, ⟨rfl, rfl, rfl⟩, T0, T1, T2⟩ hI (by omega) hk (by rw [hT, hQ]; exact su_a) (fun q => absurd q hne) (fun w' hw' => kk w' ?_)
    rw [hT] at hw'
    exact wi_of hw' (j_err hI hg _)
  · obtain ⟨hT, h45, hRR⟩ := hN (hQ.symm.trans h0)
    refine lwm_ofMiner C S hi (s := su (z) 60 0 (ofMinerRC z nm nr (xs (i + 1)) (xs (i + 2)))) (z := z) (hP) hI (by omega) hk (by rw [hT, h45, h0]) (fun _ => (su_a.trans hRR)) (fun w' hw' => kk w' ?_)
    rw [hT] at hw'
    exact wi_of hw' ((hJ (hQ.symm.trans h0)).out _)

theorem lwc_gets {X : XS} {G : GG} {nme : String} {tb : List ExceptionTableEntry} {w : va_W} {k n : Nat} {Q : State → Prop} {b L i x m o : Nat} {xs : Nat → Int32} {c : Nat} (C : Cx X G cL_law 7 RL (some .boolean) room_1 nme tb) (S : Scr X G b L xs) (hi : i + 5 ≤ L) (hMi : MiOK G) (hW : WI G x m o c w) (hc : c < 512) (hk : k + 10 ≤ 601024 ∧ n + 200 ≤ 7293034) (kk : ∀ w', WI G x m o (c + 1) w' → V X G 7 w' (k + 10) (n + 200) Q 2124 [(4, .int (nI i)), (3, .ref o), (2, .ref m), (1, .ref x), (0, .ref b)] []) : V X G 7 w k n Q 1752 [(4, .int (nI i)), (3, .ref o), (2, .ref m), (1, .ref x), (0, .ref b)] [] := by
  have hst : X.2.1.stackTraces = false := C.2.2.2.2.2.1
  have hG : GOK G := C.2.2.2.2.2.2.2.2.2.1
  obtain ⟨z, nm, nc, nr, nf, ns, dd, ⟨a, La, s0, rfl, hL, ⟨rfl, rfl, rfl⟩, T0, T1, T2⟩, hI, hg⟩ := hW
  have hJ : getsE z (xs (i + 1)) = 0 → Jx (z) (su z 45 0 0) nm nc nr (c + 1) := fun he => j_err hI hg 0
  have hN : getsE z (xs (i + 1)) = 0 → (pU (getsE z (xs (i + 1))) (su z 45 0 0) z) = su z 45 0 0 ∧ (su z 45 0 0) 45 0 = 0 ∧ getsR z (xs (i + 1)) = pM (getsE z (xs (i + 1))) (getsR z (xs (i + 1))) := fun he => ⟨(pU_z he), su_a, (rfl).trans (pM_0 he).symm⟩
  have hQ : getsE z (xs (i + 1)) = getsE z (xs (i + 1)) := rfl
  refine v_aload_n C dL_law_1752 rfl 3 rfl ?_
  refine v_aload_n C dL_law_1753 rfl 4 rfl ?_
  refine v_iload C dL_law_1754 rfl 0 rfl ?_
  refine v_iconst C (v := 1) dL_law_1756 rfl rfl ?_
  refine v_iaddN C i 1 rfl rfl dL_law_1757 rfl ?_
  refine v_sld C S (i + 1) (by omega) dL_law_1758 rfl ?_
  refine v_aload_n C dL_law_1759 rfl 1 rfl ?_
  refine v_invSX C (np := 3) (As := [.ref (a 2 0), .int (xs (i + 1)), .ref (a 14 0)]) (q1 0 rfl rfl) (q4 78 rfl rfl) L_L_197 (q4 77 rfl rfl) ⟨by decide, by decide, by decide +kernel⟩ (c_L_gets (e := getsE z (xs (i + 1))) (P2 := Mid G (a 2 0) (a 0 0) (a 14 0) (su (z) 60 0 (getsR z (xs (i + 1)))) z nm nc nr) hst hG (m2 (s := z) (t := z) (g := G.2.2.1) hL) (c_X7_gets (s := z) (t := z) (nm := nm) (nr := nr) hst hG hL (xs (i + 1)) T0.1 hI.1.1.2 (lv0 T0) T2.1 hI.1.2.2.1.2 (lv2 T2) hI.2.2.2.2.1.2) (fun v w0 hv => by obtain ⟨rfl, rfl, hE⟩ := hv; exact ⟨_, wl a (E G.2.2.1 a (su (z) 60 0 (getsR z (xs (i + 1)))) z) La, rfl, hE, put_out hL _ rfl, a, La, s0, rfl, hL, ⟨rfl, rfl, rfl⟩, T0.frame rfl rfl rfl (((congrFun (su_o (by decide)) 0).trans (hJ (hQ.symm.trans hE)).cnt.1).trans T0.1.1.symm) rfl, T1.frame rfl rfl rfl (((congrFun (su_o (by decide)) 0).trans (hJ (hQ.symm.trans hE)).cnt.2.1).trans T1.1.1.symm) rfl, T2.frame rfl rfl rfl (((congrFun (su_o (by decide)) 0).trans (hJ (hQ.symm.trans hE)).cnt.2.2).trans T2.1.1.symm) rfl⟩)) rfl rfl (by decide) ⟨Nat.le_trans (Nat.add_le_add_left (show 1 ≤ 10 by decide) k) hk.1, Nat.le_trans (Nat.add_le_add_left (show 6 ≤ 200 by decide) n) hk.2⟩ (by decide) dL_law_1760 rfl kx_no (fun v w1 hv => ?_)
  obtain ⟨rfl, hv⟩ := hv
  refine xx_mono (k' := k + 10) (n' := n + 200) (Nat.add_le_add_left (show 1 ≤ 10 by decide) k) (Nat.add_le_add_left (show 6 ≤ 200 by decide) n) ?_
  show V X G 7 _ _ _ _ _ _ [.int (getsE z (xs (i + 1)))]
  refine v_istore C (lv1 := (5, .int (getsE z (xs (i + 1)))) :: [(4, .int (nI i)), (3, .ref (a 14 0)), (2, .ref (a 0 0)), (1, .ref (a 2 0)), (0, .ref b)]) dL_law_1763 rfl (by decide) rfl ?_
  rcases hv with ⟨hne, rfl⟩ | ⟨h0, hP⟩
  · have he : ¬ getsE z (xs (i + 1)) = 0 := fun q => hne (hQ.trans q)
    have hT : (pU (getsE z (xs (i + 1))) (su z 45 0 0) z) = su z 45 0 (getsE z (xs (i + 1))) := (pU_n he)
    refine lwm_gets C S hi (s := z) (z := z) (am := nm) (ac := nc) (ar := nr) ⟨a, La, s0, rfl, hL, ⟨rfl, rfl, rfl⟩, T0, T1, T2⟩ hI (by omega) hk (by rw [hT, hQ]; exact su_a) (fun q => absurd q hne) (fun w' hw' => kk w' ?_)
    rw [hT] at hw'
    exact wi_of hw' (j_err hI hg _)
  · obtain ⟨hT, h45, hRR⟩ := hN (hQ.symm.trans h0)
    refine lwm_gets C S hi (s := su (z) 60 0 (getsR z (xs (i + 1)))) (z := z) (hP) hI (by omega) hk (by rw [hT, h45, h0]) (fun _ => (su_a.trans hRR)) (fun w' hw' => kk w' ?_)
    rw [hT] at hw'
    exact wi_of hw' ((hJ (hQ.symm.trans h0)).out _)

theorem lwc_gold {X : XS} {G : GG} {nme : String} {tb : List ExceptionTableEntry} {w : va_W} {k n : Nat} {Q : State → Prop} {b L i x m o : Nat} {xs : Nat → Int32} {c : Nat} (C : Cx X G cL_law 7 RL (some .boolean) room_1 nme tb) (S : Scr X G b L xs) (hi : i + 5 ≤ L) (hMi : MiOK G) (hW : WI G x m o c w) (hc : c < 512) (hk : k + 10 ≤ 601024 ∧ n + 200 ≤ 7293034) (kk : ∀ w', WI G x m o (c + 1) w' → V X G 7 w' (k + 10) (n + 200) Q 2124 [(4, .int (nI i)), (3, .ref o), (2, .ref m), (1, .ref x), (0, .ref b)] []) : V X G 7 w k n Q 1808 [(4, .int (nI i)), (3, .ref o), (2, .ref m), (1, .ref x), (0, .ref b)] [] := by
  have hst : X.2.1.stackTraces = false := C.2.2.2.2.2.1
  have hG : GOK G := C.2.2.2.2.2.2.2.2.2.1
  obtain ⟨z, nm, nc, nr, nf, ns, dd, ⟨a, La, s0, rfl, hL, ⟨rfl, rfl, rfl⟩, T0, T1, T2⟩, hI, hg⟩ := hW
  have hJ : goldE z nm (xs (i + 1)) = 0 → Jx (z) (su z 45 0 0) nm nc nr (c + 1) := fun he => j_err hI hg 0
  have hN : goldE z nm (xs (i + 1)) = 0 → (pU (goldE z nm (xs (i + 1))) (su z 45 0 0) z) = su z 45 0 0 ∧ (su z 45 0 0) 45 0 = 0 ∧ goldR z nm (xs (i + 1)) = pM (goldE z nm (xs (i + 1))) (goldR z nm (xs (i + 1))) := fun he => ⟨(pU_z he), su_a, (rfl).trans (pM_0 he).symm⟩
  have hQ : goldE z nm (xs (i + 1)) = goldE z nm (xs (i + 1)) := rfl
  refine v_aload_n C dL_law_1808 rfl 3 rfl ?_
  refine v_aload_n C dL_law_1809 rfl 4 rfl ?_
  refine v_iload C dL_law_1810 rfl 0 rfl ?_
  refine v_iconst C (v := 1) dL_law_1812 rfl rfl ?_
  refine v_iaddN C i 1 rfl rfl dL_law_1813 rfl ?_
  refine v_sld C S (i + 1) (by omega) dL_law_1814 rfl ?_
  refine v_aload_n C dL_law_1815 rfl 1 rfl ?_
  refine v_invSX C (np := 3) (As := [.ref (a 2 0), .int (xs (i + 1)), .ref (a 14 0)]) (q1 0 rfl rfl) (q4 85 rfl rfl) L_L_200 (q4 84 rfl rfl) ⟨by decide, by decide, by decide +kernel⟩ (c_L_gold (e := goldE z nm (xs (i + 1))) (P2 := Mid G (a 2 0) (a 0 0) (a 14 0) (su (z) 60 0 (goldR z nm (xs (i + 1)))) z nm nc nr) hst hG (m2 (s := z) (t := z) (g := G.2.2.1) hL) (c_X7_gold (s := z) (t := z) (nm := nm) hst hG hL (xs (i + 1)) T0.1 hI.1.1.2 (lv0 T0)) (fun v w0 hv => by obtain ⟨rfl, rfl, hE⟩ := hv; exact ⟨_, wl a (E G.2.2.1 a (su (z) 60 0 (goldR z nm (xs (i + 1)))) z) La, rfl, hE, put_out hL _ rfl, a, La, s0, rfl, hL, ⟨rfl, rfl, rfl⟩, T0.frame rfl rfl rfl (((congrFun (su_o (by decide)) 0).trans (hJ (hQ.symm.trans hE)).cnt.1).trans T0.1.1.symm) rfl, T1.frame rfl rfl rfl (((congrFun (su_o (by decide)) 0).trans (hJ (hQ.symm.trans hE)).cnt.2.1).trans T1.1.1.symm) rfl, T2.frame rfl rfl rfl (((congrFun (su_o (by decide)) 0).trans (hJ (hQ.symm.trans hE)).cnt.2.2).trans T2.1.1.symm) rfl⟩)) rfl rfl (by decide) ⟨Nat.le_trans (Nat.add_le_add_left (show 1 ≤ 10 by decide) k) hk.1, Nat.le_trans (Nat.add_le_add_left (show 6 ≤ 200 by decide) n) hk.2⟩ (by decide) dL_law_1816 rfl kx_no (fun v w1 hv => ?_)
  obtain ⟨rfl, hv⟩ := hv
  refine xx_mono (k' := k + 10) (n' := n + 200) (Nat.add_le_add_left (show 1 ≤ 10 by decide) k) (Nat.add_le_add_left (show 6 ≤ 200 by decide) n) ?_
  show V X G 7 _ _ _ _ _ _ [.int (goldE z nm (xs (i + 1)))]
  refine v_istore C (lv1 := (5, .int (goldE z nm (xs (i + 1)))) :: [(4, .int (nI i)), (3, .ref (a 14 0)), (2, .ref (a 0 0)), (1, .ref (a 2 0)), (0, .ref b)]) dL_law_1819 rfl (by decide) rfl ?_
  rcases hv with ⟨hne, rfl⟩ | ⟨h0, hP⟩
  · have he : ¬ goldE z nm (xs (i + 1)) = 0 := fun q => hne (hQ.trans q)
    have hT : (pU (goldE z nm (xs (i + 1))) (su z 45 0 0) z) = su z 45 0 (goldE z nm (xs (i + 1))) := (pU_n he)
    refine lwm_gold C S hi (s := z) (z := z) (am := nm) (ac := nc) (ar := nr) ⟨a, La, s0, rfl, hL, ⟨rfl, rfl, rfl⟩, T0, T1, T2⟩ hI (by omega) hk (by rw [hT, hQ]; exact su_a) (fun q => absurd q hne) (fun w' hw' => kk w' ?_)
    rw [hT] at hw'
    exact wi_of hw' (j_err hI hg _)
  · obtain ⟨hT, h45, hRR⟩ := hN (hQ.symm.trans h0)
    refine lwm_gold C S hi (s := su (z) 60 0 (goldR z nm (xs (i + 1)))) (z := z) (hP) hI (by omega) hk (by rw [hT, h45, h0]) (fun _ => (su_a.trans hRR)) (fun w' hw' => kk w' ?_)
    rw [hT] at hw'
    exact wi_of hw' ((hJ (hQ.symm.trans h0)).out _)

theorem lwc_camp {X : XS} {G : GG} {nme : String} {tb : List ExceptionTableEntry} {w : va_W} {k n : Nat} {Q : State → Prop} {b L i x m o : Nat} {xs : Nat → Int32} {c : Nat} (C : Cx X G cL_law 7 RL (some .boolean) room_1 nme tb) (S : Scr X G b L xs) (hi : i + 5 ≤ L) (hMi : MiOK G) (hW : WI G x m o c w) (hc : c < 512) (hk : k + 10 ≤ 601024 ∧ n + 200 ≤ 7293034) (kk : ∀ w', WI G x m o (c + 1) w' → V X G 7 w' (k + 10) (n + 200) Q 2124 [(4, .int (nI i)), (3, .ref o), (2, .ref m), (1, .ref x), (0, .ref b)] []) : V X G 7 w k n Q 1864 [(4, .int (nI i)), (3, .ref o), (2, .ref m), (1, .ref x), (0, .ref b)] [] := by
  have hst : X.2.1.stackTraces = false := C.2.2.2.2.2.1
  have hG : GOK G := C.2.2.2.2.2.2.2.2.2.1
  obtain ⟨z, nm, nc, nr, nf, ns, dd, ⟨a, La, s0, rfl, hL, ⟨rfl, rfl, rfl⟩, T0, T1, T2⟩, hI, hg⟩ := hW
  have hJ : campE z nm (xs (i + 1)) = 0 → Jx (z) (su z 45 0 0) nm nc nr (c + 1) := fun he => j_err hI hg 0
  have hN : campE z nm (xs (i + 1)) = 0 → (pU (campE z nm (xs (i + 1))) (su z 45 0 0) z) = su z 45 0 0 ∧ (su z 45 0 0) 45 0 = 0 ∧ campRC z nm (xs (i + 1)) = pM (campE z nm (xs (i + 1))) (campR z nm (xs (i + 1))) := fun he => ⟨(pU_z he), su_a, (j_camp hI).trans (pM_0 he).symm⟩
  have hQ : campE z nm (xs (i + 1)) = campE z nm (xs (i + 1)) := rfl
  refine v_aload_n C dL_law_1864 rfl 3 rfl ?_
  refine v_aload_n C dL_law_1865 rfl 4 rfl ?_
  refine v_iload C dL_law_1866 rfl 0 rfl ?_
  refine v_iconst C (v := 1) dL_law_1868 rfl rfl ?_
  refine v_iaddN C i 1 rfl rfl dL_law_1869 rfl ?_
  refine v_sld C S (i + 1) (by omega) dL_law_1870 rfl ?_
  refine v_aload_n C dL_law_1871 rfl 1 rfl ?_
  refine v_invSX C (np := 3) (As := [.ref (a 2 0), .int (xs (i + 1)), .ref (a 14 0)]) (q1 0 rfl rfl) (q4 100 rfl rfl) L_L_203 (q4 99 rfl rfl) ⟨by decide, by decide, by decide +kernel⟩ (c_L_camp (e := campE z nm (xs (i + 1))) (P2 := Mid G (a 2 0) (a 0 0) (a 14 0) (su (z) 60 0 (campRC z nm (xs (i + 1)))) z nm nc nr) hst hG (m2 (s := z) (t := z) (g := G.2.2.1) hL) (c_X7_camp (s := z) (t := z) (nm := nm) hst hG hL (xs (i + 1)) T0.1 hI.1.1.2 (lv0 T0)) (fun v w0 hv => by obtain ⟨rfl, rfl, hE⟩ := hv; exact ⟨_, wl a (E G.2.2.1 a (su (z) 60 0 (campRC z nm (xs (i + 1)))) z) La, rfl, hE, put_out hL _ rfl, a, La, s0, rfl, hL, ⟨rfl, rfl, rfl⟩, T0.frame rfl rfl rfl (((congrFun (su_o (by decide)) 0).trans (hJ (hQ.symm.trans hE)).cnt.1).trans T0.1.1.symm) rfl, T1.frame rfl rfl rfl (((congrFun (su_o (by decide)) 0).trans (hJ (hQ.symm.trans hE)).cnt.2.1).trans T1.1.1.symm) rfl, T2.frame rfl rfl rfl (((congrFun (su_o (by decide)) 0).trans (hJ (hQ.symm.trans hE)).cnt.2.2).trans T2.1.1.symm) rfl⟩)) rfl rfl (by decide) ⟨Nat.le_trans (Nat.add_le_add_left (show 1 ≤ 10 by decide) k) hk.1, Nat.le_trans (Nat.add_le_add_left (show 6 ≤ 200 by decide) n) hk.2⟩ (by decide) dL_law_1872 rfl kx_no (fun v w1 hv => ?_)
  obtain ⟨rfl, hv⟩ := hv
  refine xx_mono (k' := k + 10) (n' := n + 200) (Nat.add_le_add_left (show 1 ≤ 10 by decide) k) (Nat.add_le_add_left (show 6 ≤ 200 by decide) n) ?_
  show V X G 7 _ _ _ _ _ _ [.int (campE z nm (xs (i + 1)))]
  refine v_istore C (lv1 := (5, .int (campE z nm (xs (i + 1)))) :: [(4, .int (nI i)), (3, .ref (a 14 0)), (2, .ref (a 0 0)), (1, .ref (a 2 0)), (0, .ref b)]) dL_law_1875 rfl (by decide) rfl ?_
  rcases hv with ⟨hne, rfl⟩ | ⟨h0, hP⟩
  · have he : ¬ campE z nm (xs (i + 1)) = 0 := fun q => hne (hQ.trans q)
    have hT : (pU (campE z nm (xs (i + 1))) (su z 45 0 0) z) = su z 45 0 (campE z nm (xs (i + 1))) := (pU_n he)
    refine lwm_camp C S hi (s := z) (z := z) (am := nm) (ac := nc) (ar := nr) ⟨a, La, s0, rfl, hL, ⟨rfl, rfl, rfl⟩, T0, T1, T2⟩ hI (by omega) hk (by rw [hT, hQ]; exact su_a) (fun q => absurd q hne) (fun w' hw' => kk w' ?_)
    rw [hT] at hw'
    exact wi_of hw' (j_err hI hg _)
  · obtain ⟨hT, h45, hRR⟩ := hN (hQ.symm.trans h0)
    refine lwm_camp C S hi (s := su (z) 60 0 (campRC z nm (xs (i + 1)))) (z := z) (hP) hI (by omega) hk (by rw [hT, h45, h0]) (fun _ => (su_a.trans hRR)) (fun w' hw' => kk w' ?_)
    rw [hT] at hw'
    exact wi_of hw' ((hJ (hQ.symm.trans h0)).out _)

theorem lwc_belief {X : XS} {G : GG} {nme : String} {tb : List ExceptionTableEntry} {w : va_W} {k n : Nat} {Q : State → Prop} {b L i x m o : Nat} {xs : Nat → Int32} {c : Nat} (C : Cx X G cL_law 7 RL (some .boolean) room_1 nme tb) (S : Scr X G b L xs) (hi : i + 5 ≤ L) (hMi : MiOK G) (hW : WI G x m o c w) (hc : c < 512) (hk : k + 10 ≤ 601024 ∧ n + 200 ≤ 7293034) (kk : ∀ w', WI G x m o (c + 1) w' → V X G 7 w' (k + 10) (n + 200) Q 2124 [(4, .int (nI i)), (3, .ref o), (2, .ref m), (1, .ref x), (0, .ref b)] []) : V X G 7 w k n Q 1920 [(4, .int (nI i)), (3, .ref o), (2, .ref m), (1, .ref x), (0, .ref b)] [] := by
  have hst : X.2.1.stackTraces = false := C.2.2.2.2.2.1
  have hG : GOK G := C.2.2.2.2.2.2.2.2.2.1
  obtain ⟨z, nm, nc, nr, nf, ns, dd, ⟨a, La, s0, rfl, hL, ⟨rfl, rfl, rfl⟩, T0, T1, T2⟩, hI, hg⟩ := hW
  have hJ : beliefE z (xs (i + 1)) = 0 → Jx (z) (su z 45 0 0) nm nc nr (c + 1) := fun he => j_err hI hg 0
  have hN : beliefE z (xs (i + 1)) = 0 → (pU (beliefE z (xs (i + 1))) (su z 45 0 0) z) = su z 45 0 0 ∧ (su z 45 0 0) 45 0 = 0 ∧ beliefR z (xs (i + 1)) = pM (beliefE z (xs (i + 1))) (beliefR z (xs (i + 1))) := fun he => ⟨(pU_z he), su_a, (rfl).trans (pM_0 he).symm⟩
  have hQ : beliefE z (xs (i + 1)) = beliefE z (xs (i + 1)) := rfl
  refine v_aload_n C dL_law_1920 rfl 3 rfl ?_
  refine v_aload_n C dL_law_1921 rfl 4 rfl ?_
  refine v_iload C dL_law_1922 rfl 0 rfl ?_
  refine v_iconst C (v := 1) dL_law_1924 rfl rfl ?_
  refine v_iaddN C i 1 rfl rfl dL_law_1925 rfl ?_
  refine v_sld C S (i + 1) (by omega) dL_law_1926 rfl ?_
  refine v_aload_n C dL_law_1927 rfl 1 rfl ?_
  refine v_invSX C (np := 3) (As := [.ref (a 2 0), .int (xs (i + 1)), .ref (a 14 0)]) (q1 0 rfl rfl) (q4 107 rfl rfl) L_L_206 (q4 106 rfl rfl) ⟨by decide, by decide, by decide +kernel⟩ (c_L_belief (e := beliefE z (xs (i + 1))) (P2 := Mid G (a 2 0) (a 0 0) (a 14 0) (su (z) 60 0 (beliefR z (xs (i + 1)))) z nm nc nr) hst hG (m2 (s := z) (t := z) (g := G.2.2.1) hL) (c_X7_belief (s := z) (t := z)  hst hG hL (xs (i + 1))) (fun v w0 hv => by obtain ⟨rfl, rfl, hE⟩ := hv; exact ⟨_, wl a (E G.2.2.1 a (su (z) 60 0 (beliefR z (xs (i + 1)))) z) La, rfl, hE, put_out hL _ rfl, a, La, s0, rfl, hL, ⟨rfl, rfl, rfl⟩, T0.frame rfl rfl rfl (((congrFun (su_o (by decide)) 0).trans (hJ (hQ.symm.trans hE)).cnt.1).trans T0.1.1.symm) rfl, T1.frame rfl rfl rfl (((congrFun (su_o (by decide)) 0).trans (hJ (hQ.symm.trans hE)).cnt.2.1).trans T1.1.1.symm) rfl, T2.frame rfl rfl rfl (((congrFun (su_o (by decide)) 0).trans (hJ (hQ.symm.trans hE)).cnt.2.2).trans T2.1.1.symm) rfl⟩)) rfl rfl (by decide) ⟨Nat.le_trans (Nat.add_le_add_left (show 1 ≤ 10 by decide) k) hk.1, Nat.le_trans (Nat.add_le_add_left (show 6 ≤ 200 by decide) n) hk.2⟩ (by decide) dL_law_1928 rfl kx_no (fun v w1 hv => ?_)
  obtain ⟨rfl, hv⟩ := hv
  refine xx_mono (k' := k + 10) (n' := n + 200) (Nat.add_le_add_left (show 1 ≤ 10 by decide) k) (Nat.add_le_add_left (show 6 ≤ 200 by decide) n) ?_
  show V X G 7 _ _ _ _ _ _ [.int (beliefE z (xs (i + 1)))]
  refine v_istore C (lv1 := (5, .int (beliefE z (xs (i + 1)))) :: [(4, .int (nI i)), (3, .ref (a 14 0)), (2, .ref (a 0 0)), (1, .ref (a 2 0)), (0, .ref b)]) dL_law_1931 rfl (by decide) rfl ?_
  rcases hv with ⟨hne, rfl⟩ | ⟨h0, hP⟩
  · have he : ¬ beliefE z (xs (i + 1)) = 0 := fun q => hne (hQ.trans q)
    have hT : (pU (beliefE z (xs (i + 1))) (su z 45 0 0) z) = su z 45 0 (beliefE z (xs (i + 1))) := (pU_n he)
    refine lwm_belief C S hi (s := z) (z := z) (am := nm) (ac := nc) (ar := nr) ⟨a, La, s0, rfl, hL, ⟨rfl, rfl, rfl⟩, T0, T1, T2⟩ hI (by omega) hk (by rw [hT, hQ]; exact su_a) (fun q => absurd q hne) (fun w' hw' => kk w' ?_)
    rw [hT] at hw'
    exact wi_of hw' (j_err hI hg _)
  · obtain ⟨hT, h45, hRR⟩ := hN (hQ.symm.trans h0)
    refine lwm_belief C S hi (s := su (z) 60 0 (beliefR z (xs (i + 1)))) (z := z) (hP) hI (by omega) hk (by rw [hT, h45, h0]) (fun _ => (su_a.trans hRR)) (fun w' hw' => kk w' ?_)
    rw [hT] at hw'
    exact wi_of hw' ((hJ (hQ.symm.trans h0)).out _)

theorem lwc_plan {X : XS} {G : GG} {nme : String} {tb : List ExceptionTableEntry} {w : va_W} {k n : Nat} {Q : State → Prop} {b L i x m o : Nat} {xs : Nat → Int32} {c : Nat} (C : Cx X G cL_law 7 RL (some .boolean) room_1 nme tb) (S : Scr X G b L xs) (hi : i + 5 ≤ L) (hMi : MiOK G) (hW : WI G x m o c w) (hc : c < 512) (hk : k + 10 ≤ 601024 ∧ n + 200 ≤ 7293034) (kk : ∀ w', WI G x m o (c + 1) w' → V X G 7 w' (k + 10) (n + 200) Q 2124 [(4, .int (nI i)), (3, .ref o), (2, .ref m), (1, .ref x), (0, .ref b)] []) : V X G 7 w k n Q 1976 [(4, .int (nI i)), (3, .ref o), (2, .ref m), (1, .ref x), (0, .ref b)] [] := by
  have hst : X.2.1.stackTraces = false := C.2.2.2.2.2.1
  have hG : GOK G := C.2.2.2.2.2.2.2.2.2.1
  obtain ⟨z, nm, nc, nr, nf, ns, dd, ⟨a, La, s0, rfl, hL, ⟨rfl, rfl, rfl⟩, T0, T1, T2⟩, hI, hg⟩ := hW
  have hJ : apE z (xs (i + 1)) (xs (i + 2)) 1 = 0 → Jx (z) ((plnW (su z 45 0 0) (tn (z 23 (tn (xs (i + 1))))) (tn (z 24 (tn (xs (i + 1))))) (xs (i + 2))).1) nm nc nr (c + 1) := fun he => (j_plan hI hg (by omega) he).2.1
  have hN : apE z (xs (i + 1)) (xs (i + 2)) 1 = 0 → (if apE z (xs (i + 1)) (xs (i + 2)) 1 = 0 then (plnW (su z 45 0 (apE z (xs (i + 1)) (xs (i + 2)) 1)) (tn (z 23 (tn (xs (i + 1))))) (tn (z 24 (tn (xs (i + 1))))) (xs (i + 2))).1 else (su z 45 0 (apE z (xs (i + 1)) (xs (i + 2)) 1))) = (plnW (su z 45 0 0) (tn (z 23 (tn (xs (i + 1))))) (tn (z 24 (tn (xs (i + 1))))) (xs (i + 2))).1 ∧ ((plnW (su z 45 0 0) (tn (z 23 (tn (xs (i + 1))))) (tn (z 24 (tn (xs (i + 1))))) (xs (i + 2))).1) 45 0 = 0 ∧ ydS z (tn (z 23 (tn (xs (i + 1))))) (tn (xs (i + 2))) (tn (z 24 (tn (xs (i + 1))))) = pM (apE z (xs (i + 1)) (xs (i + 2)) 1) (plnW (su z 45 0 (apE z (xs (i + 1)) (xs (i + 2)) 1)) (tn (z 23 (tn (xs (i + 1))))) (tn (z 24 (tn (xs (i + 1))))) (xs (i + 2))).2 := fun he => ⟨(by rw [if_pos he, he]), (j_plan hI hg (by omega) he).2.2, ((j_plan hI hg (by omega) he).1).trans (by rw [pM_0 he, he])⟩
  have hQ : planEC z (xs (i + 1)) (xs (i + 2)) = apE z (xs (i + 1)) (xs (i + 2)) 1 := ap_1
  refine v_aload_n C dL_law_1976 rfl 3 rfl ?_
  refine v_aload_n C dL_law_1977 rfl 4 rfl ?_
  refine v_iload C dL_law_1978 rfl 0 rfl ?_
  refine v_iconst C (v := 1) dL_law_1980 rfl rfl ?_
  refine v_iaddN C i 1 rfl rfl dL_law_1981 rfl ?_
  refine v_sld C S (i + 1) (by omega) dL_law_1982 rfl ?_
  refine v_aload_n C dL_law_1983 rfl 4 rfl ?_
  refine v_iload C dL_law_1984 rfl 0 rfl ?_
  refine v_iconst C (v := 2) dL_law_1986 rfl rfl ?_
  refine v_iaddN C i 2 rfl rfl dL_law_1987 rfl ?_
  refine v_sld C S (i + 2) (by omega) dL_law_1988 rfl ?_
  refine v_aload_n C dL_law_1989 rfl 1 rfl ?_
  refine v_invSX C (np := 4) (As := [.ref (a 2 0), .int (xs (i + 1)), .int (xs (i + 2)), .ref (a 14 0)]) (q1 0 rfl rfl) (q4 114 rfl rfl) L_L_209 (q4 113 rfl rfl) ⟨by decide, by decide, by decide +kernel⟩ (c_L_plan (e := planEC z (xs (i + 1)) (xs (i + 2))) (P2 := Mid G (a 2 0) (a 0 0) (a 14 0) (su (z) 60 0 (ydS z (tn (z 23 (tn (xs (i + 1))))) (tn (xs (i + 2))) (tn (z 24 (tn (xs (i + 1))))))) z nm nc nr) hst hG (m2 (s := z) (t := z) (g := G.2.2.1) hL) (c_X7_plan (s := z) (t := z) (nc := nc) hst hG hL (xs (i + 1)) (xs (i + 2)) T1.1 (lv1 T1) (hcf_of hI.2.2.2.1.1)) (fun v w0 hv => by obtain ⟨rfl, rfl, hE⟩ := hv; exact ⟨_, wl a (E G.2.2.1 a (su (z) 60 0 (ydS z (tn (z 23 (tn (xs (i + 1))))) (tn (xs (i + 2))) (tn (z 24 (tn (xs (i + 1))))))) z) La, rfl, hE, put_out hL _ rfl, a, La, s0, rfl, hL, ⟨rfl, rfl, rfl⟩, T0.frame rfl rfl rfl (((congrFun (su_o (by decide)) 0).trans (hJ (hQ.symm.trans hE)).cnt.1).trans T0.1.1.symm) rfl, T1.frame rfl rfl rfl (((congrFun (su_o (by decide)) 0).trans (hJ (hQ.symm.trans hE)).cnt.2.1).trans T1.1.1.symm) rfl, T2.frame rfl rfl rfl (((congrFun (su_o (by decide)) 0).trans (hJ (hQ.symm.trans hE)).cnt.2.2).trans T2.1.1.symm) rfl⟩)) rfl rfl (by decide) ⟨Nat.le_trans (Nat.add_le_add_left (show 3 ≤ 10 by decide) k) hk.1, Nat.le_trans (Nat.add_le_add_left (show 18 ≤ 200 by decide) n) hk.2⟩ (by decide) dL_law_1990 rfl kx_no (fun v w1 hv => ?_)
  obtain ⟨rfl, hv⟩ := hv
  refine xx_mono (k' := k + 10) (n' := n + 200) (Nat.add_le_add_left (show 3 ≤ 10 by decide) k) (Nat.add_le_add_left (show 18 ≤ 200 by decide) n) ?_
  show V X G 7 _ _ _ _ _ _ [.int (planEC z (xs (i + 1)) (xs (i + 2)))]
  refine v_istore C (lv1 := (5, .int (planEC z (xs (i + 1)) (xs (i + 2)))) :: [(4, .int (nI i)), (3, .ref (a 14 0)), (2, .ref (a 0 0)), (1, .ref (a 2 0)), (0, .ref b)]) dL_law_1993 rfl (by decide) rfl ?_
  rcases hv with ⟨hne, rfl⟩ | ⟨h0, hP⟩
  · have he : ¬ apE z (xs (i + 1)) (xs (i + 2)) 1 = 0 := fun q => hne (hQ.trans q)
    have hT : (if apE z (xs (i + 1)) (xs (i + 2)) 1 = 0 then (plnW (su z 45 0 (apE z (xs (i + 1)) (xs (i + 2)) 1)) (tn (z 23 (tn (xs (i + 1))))) (tn (z 24 (tn (xs (i + 1))))) (xs (i + 2))).1 else (su z 45 0 (apE z (xs (i + 1)) (xs (i + 2)) 1))) = su z 45 0 (apE z (xs (i + 1)) (xs (i + 2)) 1) := (if_neg he)
    refine lwm_plan C S hi (s := z) (z := z) (am := nm) (ac := nc) (ar := nr) ⟨a, La, s0, rfl, hL, ⟨rfl, rfl, rfl⟩, T0, T1, T2⟩ hI (by omega) hk (by rw [hT, hQ]; exact su_a) (fun q => absurd q hne) (fun w' hw' => kk w' ?_)
    rw [hT] at hw'
    exact wi_of hw' (j_err hI hg _)
  · obtain ⟨hT, h45, hRR⟩ := hN (hQ.symm.trans h0)
    refine lwm_plan C S hi (s := su (z) 60 0 (ydS z (tn (z 23 (tn (xs (i + 1))))) (tn (xs (i + 2))) (tn (z 24 (tn (xs (i + 1))))))) (z := z) (hP) hI (by omega) hk (by rw [hT, h45, h0]) (fun _ => (su_a.trans hRR)) (fun w' hw' => kk w' ?_)
    rw [hT] at hw'
    exact wi_of hw' ((hJ (hQ.symm.trans h0)).out _)

theorem lwc_planCell {X : XS} {G : GG} {nme : String} {tb : List ExceptionTableEntry} {w : va_W} {k n : Nat} {Q : State → Prop} {b L i x m o : Nat} {xs : Nat → Int32} {c : Nat} (C : Cx X G cL_law 7 RL (some .boolean) room_1 nme tb) (S : Scr X G b L xs) (hi : i + 5 ≤ L) (hMi : MiOK G) (hW : WI G x m o c w) (hc : c < 512) (hk : k + 10 ≤ 601024 ∧ n + 200 ≤ 7293034) (kk : ∀ w', WI G x m o (c + 1) w' → V X G 7 w' (k + 10) (n + 200) Q 2124 [(4, .int (nI i)), (3, .ref o), (2, .ref m), (1, .ref x), (0, .ref b)] []) : V X G 7 w k n Q 2044 [(4, .int (nI i)), (3, .ref o), (2, .ref m), (1, .ref x), (0, .ref b)] [] := by
  have hst : X.2.1.stackTraces = false := C.2.2.2.2.2.1
  have hG : GOK G := C.2.2.2.2.2.2.2.2.2.1
  obtain ⟨z, nm, nc, nr, nf, ns, dd, ⟨a, La, s0, rfl, hL, ⟨rfl, rfl, rfl⟩, T0, T1, T2⟩, hI, hg⟩ := hW
  have hN : apE z (xs (i + 1)) (xs (i + 2)) (prF (xs (i + 3))) = 0 → Jx (z) (if apE z (xs (i + 1)) (xs (i + 2)) (prF (xs (i + 3))) = 0 ∧ (xs (i + 3)) < z 24 (tn (xs (i + 1))) then plnL (su z 45 0 (apE z (xs (i + 1)) (xs (i + 2)) (prF (xs (i + 3))))) (tn (z 23 (tn (xs (i + 1))))) (tn (z 24 (tn (xs (i + 1))))) (xs (i + 2)) else (su z 45 0 (apE z (xs (i + 1)) (xs (i + 2)) (prF (xs (i + 3)))))) nm nc nr (c + 1) ∧ (if apE z (xs (i + 1)) (xs (i + 2)) (prF (xs (i + 3))) = 0 ∧ (xs (i + 3)) < z 24 (tn (xs (i + 1))) then plnL (su z 45 0 (apE z (xs (i + 1)) (xs (i + 2)) (prF (xs (i + 3))))) (tn (z 23 (tn (xs (i + 1))))) (tn (z 24 (tn (xs (i + 1))))) (xs (i + 2)) else (su z 45 0 (apE z (xs (i + 1)) (xs (i + 2)) (prF (xs (i + 3)))))) 45 0 = 0 ∧ planCellRC z (xs (i + 1)) (xs (i + 3)) = pM (apE z (xs (i + 1)) (xs (i + 2)) (prF (xs (i + 3)))) (if (xs (i + 3)) < z 24 (tn (xs (i + 1))) then z 23 (tn (xs (i + 1))) + plnL (su z 45 0 (apE z (xs (i + 1)) (xs (i + 2)) (prF (xs (i + 3))))) (tn (z 23 (tn (xs (i + 1))))) (tn (z 24 (tn (xs (i + 1))))) (xs (i + 2)) 43 (tn (xs (i + 3))) else -1) := fun he => by
    obtain ⟨g1, g2, g3⟩ := j_planCell hI hg (by omega) he
    rw [he, pM_0 rfl]
    refine ⟨?_, ?_, g1⟩
    · by_cases q : (xs (i + 3)) < z 24 (tn (xs (i + 1)))
      · rw [if_pos ⟨rfl, q⟩]; exact g2
      · rw [if_neg (fun p => q p.2)]; exact j_err hI hg 0
    · by_cases q : (xs (i + 3)) < z 24 (tn (xs (i + 1)))
      · rw [if_pos ⟨rfl, q⟩]; exact g3
      · rw [if_neg (fun p => q p.2)]; exact su_a
  have hQ : planCellEC z (xs (i + 1)) (xs (i + 2)) (xs (i + 3)) = apE z (xs (i + 1)) (xs (i + 2)) (prF (xs (i + 3))) := ap_p
  refine v_aload_n C dL_law_2044 rfl 3 rfl ?_
  refine v_aload_n C dL_law_2045 rfl 4 rfl ?_
  refine v_iload C dL_law_2046 rfl 0 rfl ?_
  refine v_iconst C (v := 1) dL_law_2048 rfl rfl ?_
  refine v_iaddN C i 1 rfl rfl dL_law_2049 rfl ?_
  refine v_sld C S (i + 1) (by omega) dL_law_2050 rfl ?_
  refine v_aload_n C dL_law_2051 rfl 4 rfl ?_
  refine v_iload C dL_law_2052 rfl 0 rfl ?_
  refine v_iconst C (v := 2) dL_law_2054 rfl rfl ?_
  refine v_iaddN C i 2 rfl rfl dL_law_2055 rfl ?_
  refine v_sld C S (i + 2) (by omega) dL_law_2056 rfl ?_
  refine v_aload_n C dL_law_2057 rfl 4 rfl ?_
  refine v_iload C dL_law_2058 rfl 0 rfl ?_
  refine v_iconst C (v := 3) dL_law_2060 rfl rfl ?_
  refine v_iaddN C i 3 rfl rfl dL_law_2061 rfl ?_
  refine v_sld C S (i + 3) (by omega) dL_law_2062 rfl ?_
  refine v_aload_n C dL_law_2063 rfl 1 rfl ?_
  refine v_invSX C (np := 5) (As := [.ref (a 2 0), .int (xs (i + 1)), .int (xs (i + 2)), .int (xs (i + 3)), .ref (a 14 0)]) (q1 0 rfl rfl) (q4 125 rfl rfl) L_L_212 (q4 124 rfl rfl) ⟨by decide, by decide, by decide +kernel⟩ (c_L_planCell (e := planCellEC z (xs (i + 1)) (xs (i + 2)) (xs (i + 3))) (P2 := Mid G (a 2 0) (a 0 0) (a 14 0) (su (z) 60 0 (planCellRC z (xs (i + 1)) (xs (i + 3)))) z nm nc nr) hst hG (m2 (s := z) (t := z) (g := G.2.2.1) hL) (c_X7_planCell (s := z) (t := z) (nc := nc) hst hG hL (xs (i + 1)) (xs (i + 2)) (xs (i + 3)) T1.1 (lv1 T1) (hcf_of hI.2.2.2.1.1)) (fun v w0 hv => by obtain ⟨rfl, rfl, hE⟩ := hv; exact ⟨_, wl a (E G.2.2.1 a (su (z) 60 0 (planCellRC z (xs (i + 1)) (xs (i + 3)))) z) La, rfl, hE, put_out hL _ rfl, a, La, s0, rfl, hL, ⟨rfl, rfl, rfl⟩, T0.frame rfl rfl rfl (((congrFun (su_o (by decide)) 0).trans (hN (hQ.symm.trans hE)).1.cnt.1).trans T0.1.1.symm) rfl, T1.frame rfl rfl rfl (((congrFun (su_o (by decide)) 0).trans (hN (hQ.symm.trans hE)).1.cnt.2.1).trans T1.1.1.symm) rfl, T2.frame rfl rfl rfl (((congrFun (su_o (by decide)) 0).trans (hN (hQ.symm.trans hE)).1.cnt.2.2).trans T2.1.1.symm) rfl⟩)) rfl rfl (by decide) ⟨Nat.le_trans (Nat.add_le_add_left (show 4 ≤ 10 by decide) k) hk.1, Nat.le_trans (Nat.add_le_add_left (show 24 ≤ 200 by decide) n) hk.2⟩ (by decide) dL_law_2064 rfl kx_no (fun v w1 hv => ?_)
  obtain ⟨rfl, hv⟩ := hv
  refine xx_mono (k' := k + 10) (n' := n + 200) (Nat.add_le_add_left (show 4 ≤ 10 by decide) k) (Nat.add_le_add_left (show 24 ≤ 200 by decide) n) ?_
  show V X G 7 _ _ _ _ _ _ [.int (planCellEC z (xs (i + 1)) (xs (i + 2)) (xs (i + 3)))]
  refine v_istore C (lv1 := (5, .int (planCellEC z (xs (i + 1)) (xs (i + 2)) (xs (i + 3)))) :: [(4, .int (nI i)), (3, .ref (a 14 0)), (2, .ref (a 0 0)), (1, .ref (a 2 0)), (0, .ref b)]) dL_law_2067 rfl (by decide) rfl ?_
  rcases hv with ⟨hne, rfl⟩ | ⟨h0, hP⟩
  · have he : ¬ apE z (xs (i + 1)) (xs (i + 2)) (prF (xs (i + 3))) = 0 := fun q => hne (hQ.trans q)
    have hT : (if apE z (xs (i + 1)) (xs (i + 2)) (prF (xs (i + 3))) = 0 ∧ (xs (i + 3)) < z 24 (tn (xs (i + 1))) then plnL (su z 45 0 (apE z (xs (i + 1)) (xs (i + 2)) (prF (xs (i + 3))))) (tn (z 23 (tn (xs (i + 1))))) (tn (z 24 (tn (xs (i + 1))))) (xs (i + 2)) else (su z 45 0 (apE z (xs (i + 1)) (xs (i + 2)) (prF (xs (i + 3)))))) = su z 45 0 (apE z (xs (i + 1)) (xs (i + 2)) (prF (xs (i + 3)))) := (if_neg (fun q => he q.1))
    refine lwm_planCell C S hi (s := z) (z := z) (am := nm) (ac := nc) (ar := nr) ⟨a, La, s0, rfl, hL, ⟨rfl, rfl, rfl⟩, T0, T1, T2⟩ hI (by omega) hk (by rw [hT, hQ]; exact su_a) (fun q => absurd q hne) (fun w' hw' => kk w' ?_)
    rw [hT] at hw'
    exact wi_of hw' (j_err hI hg _)
  · obtain ⟨hJ, h45, hRR⟩ := hN (hQ.symm.trans h0)
    exact lwm_planCell C S hi (s := su (z) 60 0 (planCellRC z (xs (i + 1)) (xs (i + 3)))) (z := z) hP hI (by omega) hk (by rw [h45, h0]) (fun _ => (su_a.trans hRR)) (fun w' hw' => kk w' (wi_of hw' (hJ.out _)))
