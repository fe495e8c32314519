/-- a row all of one value -/
def sr (s : SS) (K w n : Nat) (v : Int32) : SS := fun z i => if z = K ∧ w * n ≤ i ∧ i < w * n + w then v else s z i
theorem sr_in {s : SS} {K w n j : Nat} {v : Int32} (h : w * n ≤ j ∧ j < w * n + w) : sr s K w n v K j = v := if_pos ⟨rfl, h⟩
theorem sr_b {s : SS} {K w n z j : Nat} {v : Int32} (h : ¬ (z = K ∧ w * n ≤ j ∧ j < w * n + w)) : sr s K w n v z j = s z j := if_neg h
def minerS (s : SS) (nm : Nat) (f c : Int32) : SS := su (sr (sr (su (su (su (minerU s nm f c) 13 nm 0) 14 nm 0) 18 nm 0) 20 12 nm 0) 52 40 nm (-1)) 55 0 (s 55 0 + 1)
theorem eI_0 : ∀ i : Nat, i < 3 → i ≠ 0 → eI i = 12 ∨ eI i = 13 := by decide
theorem minerS_p {s : SS} {nm : Nat} {f c : Int32} : rw_ 12 (minerS s nm f c 20) nm = fun _ => 0 := funext fun b => by
  unfold rw_
  by_cases hb : b < 12
  · rw [if_pos hb]
    exact (su_b2 (by omega)).trans ((sr_b (by omega)).trans (sr_in ⟨by omega, by omega⟩))
  · exact if_neg hb
theorem minerS_o {s : SS} {nm : Nat} {f c : Int32} : rw_ 40 (minerS s nm f c 52) nm = fillM 40 := funext fun b => by
  unfold rw_ fillM
  by_cases hb : b < 40
  · rw [if_pos hb, if_pos hb]
    exact (su_b2 (by omega)).trans (sr_in ⟨by omega, by omega⟩)
  · rw [if_neg hb, if_neg hb]
abbrev r_X7_miner : Room := { frames := 8, cells := 7, slots := 119, locals := 149 }
set_option maxRecDepth 4000 in
theorem c_X7_miner {l : Launch} {G : GG} {a : AD} {s t s0 : SS} {L : List (Nat × Nat)} {nm : Nat} (hst : l.stackTraces = false) (hG : GOK G) (hL : Live L s0) (hMi : MiOK G) (hT : LsT G.2.2.1 a s s0 0 nm) (f : Int32) (c : Int32) (hlm : LsOK a s s0 0 nm) (hm12 : nm ≤ 12) (hv_nm : ∀ i, i < nm → i < tn (s0 12 0)) : Mth l yX7_miner cX7_miner 3 (Option.some Jvm.ClassFile.FieldType.int) r_X7_miner G (wl a (E G.2.2.1 a s t) L) [.ref (a 2 0), .int f, .int c] (fun v w1 => v = some (.int (nI nm)) ∧ minerE s nm f c = 0 ∧ GrW G a (minerS s nm f c) t s0 0 nm w1) (XW (fun E => pE LAS (minerE s nm f c) E) (wl a (E G.2.2.1 a s t) L)) := by
  refine mth_of rfl (Nat.le_of_ble_eq_true rfl) hst hG (fun X hX C0 => ?_)
  subst hX
  have C : Cx X G cX7_miner 3 RX7 (Option.some Jvm.ClassFile.FieldType.int) r_X7_miner "miner" [] := C0
  clear C0
  show V X G 3 _ 0 0 _ 0 [(0, .ref (a 2 0)), (1, .int (f)), (2, .int (c))] []
  refine v_iload_n C dX7_miner_0 rfl 1 rfl ?_
  refine v_iconst C (v := 0) dX7_miner_1 rfl rfl ?_
  refine v_sipush C (v := 1000) dX7_miner_2 rfl rfl ?_
  refine w_invSv C [.int (f), .int (0), .int (1000)] 1 6 L_X7_67 (c_X7_checkRange (s := s) (t := t)  hst hG hL f 0 1000) rfl rfl rfl dX7_miner_5 rfl (kx_out C (by decide) (fun E w1 hE => by obtain ⟨⟨rfl, h1⟩, rfl⟩ := hE; exact ⟨⟨1, List.Mem.head _, by first | rfl | (simp only [h1, minerE, (show (nm = 12) = ¬ nm < 12 from propext (by omega)), bI, pM, pU, n10, n20, n30, n0, if_true, if_false, ite_true, ite_false, not_true_eq_false, not_false_eq_true, and_true, true_and, and_false, false_and, or_true, true_or, or_false, false_or, reduceIte, and_self, or_self, ne_eq, eq_self_iff_true]; first | done | rfl) | (simp [bI, h1, minerE, (show (nm = 12) = ¬ nm < 12 from propext (by omega))]; done) | (simp only [minerE, (show (nm = 12) = ¬ nm < 12 from propext (by omega)), bI, ← Int32.not_le] at *; simp [h1]; done) | (simp_all [bI, h1, minerE, (show (nm = 12) = ¬ nm < 12 from propext (by omega))]; done) | (simp_all [bI, h1, minerE, (show (nm = 12) = ¬ nm < 12 from propext (by omega))]; rfl) | (exfalso; omega)⟩, rfl⟩)) (fun h2 => ?_)
  refine v_iload_n C dX7_miner_8 rfl 2 rfl ?_
  refine v_iconst C (v := 0) dX7_miner_9 rfl rfl ?_
  refine v_ldc C (v := 100000) dX7_miner_10 rfl N_X7_66 ?_
  refine w_invSv C [.int (c), .int (0), .int (100000)] 2 12 L_X7_67 (c_X7_checkRange (s := s) (t := t)  hst hG hL c 0 100000) rfl rfl rfl dX7_miner_12 rfl (kx_out C (by decide) (fun E w1 hE => by obtain ⟨⟨rfl, h3⟩, rfl⟩ := hE; exact ⟨⟨1, List.Mem.head _, by first | rfl | (simp only [h2, h3, minerE, (show (nm = 12) = ¬ nm < 12 from propext (by omega)), bI, pM, pU, n10, n20, n30, n0, if_true, if_false, ite_true, ite_false, not_true_eq_false, not_false_eq_true, and_true, true_and, and_false, false_and, or_true, true_or, or_false, false_or, reduceIte, and_self, or_self, ne_eq, eq_self_iff_true]; first | done | rfl) | (simp [bI, h2, h3, minerE, (show (nm = 12) = ¬ nm < 12 from propext (by omega))]; done) | (simp only [minerE, (show (nm = 12) = ¬ nm < 12 from propext (by omega)), bI, ← Int32.not_le] at *; simp [h2, h3]; done) | (simp_all [bI, h2, h3, minerE, (show (nm = 12) = ¬ nm < 12 from propext (by omega))]; done) | (simp_all [bI, h2, h3, minerE, (show (nm = 12) = ¬ nm < 12 from propext (by omega))]; rfl) | (exfalso; omega)⟩, rfl⟩)) (fun h4 => ?_)
  refine v_aload_n C dX7_miner_15 rfl 0 rfl ?_
  refine v_get C (v := .ref (a 6 0)) g_X7_33 (m2 (s := s) (t := t) (g := G.2.2.1) hL) (rg (by decide) rfl) dX7_miner_16 rfl ?_
  refine w_invVr C [] 2 12 L_X7_86 (c_Jx4a65c_size_8abf5 (s := s) (t := t)  hst hG hL 0 (by decide)) (m6 (s := s) (t := t) (g := G.2.2.1) hL 0 (by decide)) rfl rfl rfl rfl dX7_miner_19 rfl kx_no (fun h5 => ?_)
  refine xx_top (y := s 12 0) rfl ?_
  refine xx_top (y := nI nm) hlm.p0 ?_
  refine v_bipush C (v := 12) dX7_miner_22 rfl rfl ?_
  refine v_icN_ge C (t := 31) nm 12 rfl rfl (by omega) (by omega) dX7_miner_24 rfl rfl (fun h6 => ?_) (fun h6 => ?_)
  · skip
    refine v_iconst C (v := 0) dX7_miner_31 rfl rfl ?_
    refine w_invSv C [.int (0)] 3 18 L_X7_75 (c_X7_checkState (s := s) (t := t)  hst hG hL 0) rfl rfl rfl dX7_miner_32 rfl (kx_out C (by decide) (fun E w1 hE => by obtain ⟨⟨rfl, h7⟩, rfl⟩ := hE; exact ⟨⟨2, List.Mem.tail _ (List.Mem.head _), by first | rfl | (simp only [h2, h4, h6, Nat.not_lt.mpr h6, h7, minerE, (show (nm = 12) = ¬ nm < 12 from propext (by omega)), bI, pM, pU, n10, n20, n30, n0, if_true, if_false, ite_true, ite_false, not_true_eq_false, not_false_eq_true, and_true, true_and, and_false, false_and, or_true, true_or, or_false, false_or, reduceIte, and_self, or_self, ne_eq, eq_self_iff_true]; first | done | rfl) | (simp [bI, h2, h4, h6, Nat.not_lt.mpr h6, h7, minerE, (show (nm = 12) = ¬ nm < 12 from propext (by omega))]; done) | (simp only [minerE, (show (nm = 12) = ¬ nm < 12 from propext (by omega)), bI, ← Int32.not_le] at *; simp [h2, h4, h6, Nat.not_lt.mpr h6, h7]; done) | (simp_all [bI, h2, h4, h6, Nat.not_lt.mpr h6, h7, minerE, (show (nm = 12) = ¬ nm < 12 from propext (by omega))]; done) | (simp_all [bI, h2, h4, h6, Nat.not_lt.mpr h6, h7, minerE, (show (nm = 12) = ¬ nm < 12 from propext (by omega))]; rfl) | (exfalso; omega)⟩, rfl⟩)) (fun h8 => ?_)
    exact absurd rfl h8
  · skip
    refine v_iconst C (v := 1) dX7_miner_27 rfl rfl ?_
    refine v_goto C (q := 32) dX7_miner_28 rfl ?_
    refine w_invSv C [.int (1)] 3 18 L_X7_75 (c_X7_checkState (s := s) (t := t)  hst hG hL 1) rfl rfl rfl dX7_miner_32 rfl (fun E w1 hE => absurd hE.1.2 (by decide)) (fun h9 => ?_)
    have hE : minerE s nm f c = 0 := by first | rfl | (simp only [h2, h4, h6, Nat.not_le.mpr h6, minerE, (show (nm = 12) = ¬ nm < 12 from propext (by omega)), bI, pM, pU, n10, n20, n30, n0, if_true, if_false, ite_true, ite_false, not_true_eq_false, not_false_eq_true, and_true, true_and, and_false, false_and, or_true, true_or, or_false, false_or, reduceIte, and_self, or_self, ne_eq, eq_self_iff_true]; first | done | rfl) | (simp [bI, h2, h4, h6, Nat.not_le.mpr h6, minerE, (show (nm = 12) = ¬ nm < 12 from propext (by omega))]; done) | (simp only [minerE, (show (nm = 12) = ¬ nm < 12 from propext (by omega)), bI, ← Int32.not_le] at *; simp [h2, h4, h6, Nat.not_le.mpr h6]; done) | (simp_all [bI, h2, h4, h6, Nat.not_le.mpr h6, minerE, (show (nm = 12) = ¬ nm < 12 from propext (by omega))]; done) | (simp_all [bI, h2, h4, h6, Nat.not_le.mpr h6, minerE, (show (nm = 12) = ¬ nm < 12 from propext (by omega))]; rfl) | (exfalso; omega)
    refine v_aload_n C dX7_miner_35 rfl 0 rfl ?_
    refine v_get C (v := .ref (a 6 0)) g_X7_33 (m2 (s := s) (t := t) (g := G.2.2.1) hL) (rg (by decide) rfl) dX7_miner_36 rfl ?_
    refine v_new C (ci := 3) (N := 9) (fs := [.null, .null, .int 0, .int 0, .int 0, .int 0, .int 0, .int 0, .int 0]) rfl inA_RX3 tyX3_ok K_X7_90 in_X3 iz_X3 df_X3 (by decide) (by decide) dX7_miner_39 rfl (fun q9 => ?_)
    refine v_dup C dX7_miner_42 rfl rfl ?_
    refine v_iload_n C dX7_miner_43 rfl 1 rfl ?_
    refine v_iload_n C dX7_miner_44 rfl 2 rfl ?_
    refine w_invI C [.int f, .int c] 6 79 L_X7_92 (c_X3_init hst hG ap_new) rfl rfl rfl dX7_miner_45 rfl (fun v w1 hv => ?_)
    obtain ⟨rfl, b1, b2, rfl⟩ := hv
    refine xx_w (w' := wl a (E G.2.2.1 a s t) L ++ wl (au (au (au a 9 nm q9) 10 nm b1) 11 nm b2) (E G.2.2.1 (au (au (au a 9 nm q9) 10 nm b1) 11 nm b2) (minerS s nm f c) t) (nM 0 nm)) (by rw [ap_sn]; refine congrArg _ ?_; show [(q9, _), (b1, _), (b2, _)] = [((au (au (au a 9 nm q9) 10 nm b1) 11 nm b2) 9 nm, (Sum.inr (3, [.ref ((au (au (au a 9 nm q9) 10 nm b1) 11 nm b2) 10 nm), .ref ((au (au (au a 9 nm q9) 10 nm b1) 11 nm b2) 11 nm), .int ((minerS s nm f c) 13 nm), .int ((minerS s nm f c) 14 nm), .int ((minerS s nm f c) 15 nm), .int ((minerS s nm f c) 16 nm), .int ((minerS s nm f c) 17 nm), .int ((minerS s nm f c) 18 nm), .int ((minerS s nm f c) 19 nm)]) : va_E)), ((au (au (au a 9 nm q9) 10 nm b1) 11 nm b2) 10 nm, Sum.inl (G.2.2.1 0, 12, Sum.inl (rw_ 12 ((minerS s nm f c) 20) nm))), ((au (au (au a 9 nm q9) 10 nm b1) 11 nm b2) 11 nm, Sum.inl (G.2.2.1 0, 40, Sum.inl (rw_ 40 ((minerS s nm f c) 52) nm)))]; rw [show (au (au (au a 9 nm q9) 10 nm b1) 11 nm b2) 9 nm = q9 from (au_k (by decide)).trans ((au_k (by decide)).trans au_a), show (au (au (au a 9 nm q9) 10 nm b1) 11 nm b2) 10 nm = b1 from (au_k (by decide)).trans au_a, show (au (au (au a 9 nm q9) 10 nm b1) 11 nm b2) 11 nm = b2 from au_a, minerS_p, minerS_o, show (minerS s nm f c) 13 nm = 0 from by simp [minerS, minerU, sr, su, upd], show (minerS s nm f c) 14 nm = 0 from by simp [minerS, minerU, sr, su, upd], show (minerS s nm f c) 15 nm = f from by simp [minerS, minerU, sr, su, upd], show (minerS s nm f c) 16 nm = c from by simp [minerS, minerU, sr, su, upd], show (minerS s nm f c) 17 nm = 10 from by simp [minerS, minerU, sr, su, upd], show (minerS s nm f c) 18 nm = 0 from by simp [minerS, minerU, sr, su, upd], show (minerS s nm f c) 19 nm = (-1) from by simp [minerS, minerU, sr, su, upd]]) ?_
    refine xx_topR (y := (au (au (au a 9 nm q9) 10 nm b1) 11 nm b2) (eI 0) nm) ((au_k (by decide)).trans ((au_k (by decide)).trans au_a)).symm ?_
    refine xx_add (k1 := 7) (n1 := 119) C hMi hL 0 nm (by decide) hT (by omega) (au (au (au a 9 nm q9) 10 nm b1) 11 nm b2) (minerS s nm f c) L_X7_95 (by simp [minerS, su, upd]) (by show (minerS s nm f c) 12 0 = _; simp [minerS, minerU, sr, su, upd]) (fun κ i hv c6 c7 z j hd => by have h2 := Lv_c hv; have h3 := lI_v i; have h4 : tn (s0 12 0) = nm := hT.2.2.2; exact (su_b2 (nd_55 hd c6)).trans ((sr_b (fun e => by have := dq_52 hd e.1; omega)).trans ((sr_b (fun e => by have := dq_20 hd e.1; omega)).trans ((su_b2 (fun e => by have := dq_13 hd (by omega); omega)).trans ((su_b2 (fun e => by have := dq_13 hd (by omega); omega)).trans ((su_b2 (fun e => by have := dq_13 hd (by omega); omega)).trans ((su_b2 (nd_c hd hv c6 c7 (by decide) (by decide))).trans ((su_b2 (fun e => by have := dq_13 hd (by omega); omega)).trans ((su_b2 (fun e => by have := dq_13 hd (by omega); omega)).trans ((su_b2 (fun e => by have := dq_13 hd (by omega); omega)).trans ((su_b2 (fun e => by have := dq_13 hd (by omega); omega)).trans (rfl)))))))))))) (fun κ i hv => by have h2 := Lv_c hv; have h4 : tn (s0 12 0) = nm := hT.2.2.2; exact (au_o (fun c => by omega)).trans ((au_o (fun c => by omega)).trans (au_o (fun c => by omega)))) (fun κ i h => (au_k (by omega)).trans ((au_k (by omega)).trans (au_k (by omega)))) (fun i hi hne j => by have h9 := eI_0 i hi hne; exact (au_k (by omega)).trans ((au_k (by omega)).trans (au_k (by omega)))) (fun j hj => (au_k (by decide)).trans ((au_k (by decide)).trans (au_o (fun c => by omega)))) (⟨3, _, _, List.mem_append_right _ (List.mem_cons_self), by decide, rfl, qn4 107 rfl rfl⟩) (fun j hj => ⟨3, _, _, m9 hL j (hv_nm j hj), by decide, rfl, qn4 107 rfl rfl⟩) rfl dX7_miner_48 rfl (fun a1 L1 hL1 hT1 hA1 hB1 => ?_)
    refine v_pop C dX7_miner_51 rfl rfl ?_
    refine v_aload_n C dX7_miner_52 rfl 0 rfl ?_
    refine v_get C (v := .ref (a1 6 0)) g_X7_33 (xx_m2 (m2 (s := (minerS s nm f c)) (t := t) (g := G.2.2.1) hL1) (hA1 2 0 (by omega))) (rg (by decide) rfl) dX7_miner_53 rfl ?_
    refine w_invVr C [] 7 119 L_X7_86 (c_Jx4a65c_size_8abf5 (s := (minerS s nm f c)) (t := t) hst hG hL1 0 (by decide)) (m6 (s := (minerS s nm f c)) (t := t) (g := G.2.2.1) hL1 0 (by decide)) rfl rfl rfl rfl dX7_miner_56 rfl kx_no (fun _ => ?_)
    refine xx_top (y := nI (nm + 1)) hT1.1.1 ?_
    refine v_iconst C (v := 1) dX7_miner_59 rfl rfl ?_
    refine v_isubN C (nm + 1) 1 (by omega) rfl rfl dX7_miner_60 rfl ?_
    exact v_iret C (by decide) (by decide) dX7_miner_61 ⟨rfl, hE, a1, L1, rfl, hL1, hT1, hA1, hB1⟩
