theorem l_act {X : XS} {G : GG} {cc : ByteArray} {nL : Nat} {ret : Option FieldType} {rm : Room} {nme : String} {tb : List ExceptionTableEntry} {w : va_W} {k n : Nat} {Q : State → Prop} {pc q : Nat} {lv : List (Nat × Value)} {st : List Value} (C : Cx X G cc nL RL ret rm nme tb) {a0 a1 a2 a3 a4 a5 : Value} {R : Option Value → va_W → Prop} (hA : ActM X.2.1 G w [a0, a1, a2, a3, a4, a5] R) (hf : (Nat.ble 11 rm.frames && (Nat.ble 200 rm.locals && Nat.ble ((st.map fun v => v.category).sum) 8)) = true) (hk : k + 7 ≤ rm.cells) (hn : n + 119 ≤ rm.slots) (d : decode cc pc = .ok (.invokestatic 123, 3)) (hq : pc + 3 = q) (kk : ∀ (v : Option Value) (w1 : va_W), R v w1 → V X G nL w1 (k + 7) (n + 119) Q q lv (v.toList ++ st)) : V X G nL w k n Q pc lv (a5 :: a4 :: a3 :: a2 :: a1 :: a0 :: st) := by
  simp only [Bool.and_eq_true, Nat.ble_eq] at hf
  exact v_invSX C (np := 6) (As := [a0, a1, a2, a3, a4, a5]) (q1 0 rfl rfl) (q2 151 rfl rfl) L_L_123 (q2 150 rfl rfl) ⟨by decide, by decide, by decide +kernel⟩ hA rfl rfl ⟨hf.1, hf.2.1⟩ ⟨hk, hn⟩ hf.2.2 d hq kx_no kk
theorem l_actK {X : XS} {G : GG} {cc : ByteArray} {nL : Nat} {ret : Option FieldType} {rm : Room} {nme : String} {tb : List ExceptionTableEntry} {w : va_W} {k n : Nat} {Q : State → Prop} {pc q : Nat} {lv : List (Nat × Value)} {st : List Value} (C : Cx X G cc nL RL ret rm nme tb) {a0 a1 a2 a3 a4 a5 : Value} {R : Option Value → va_W → Prop} (hA : ActM X.2.1 G w [a0, a1, a2, a3, a4, a5] R) (k1 n1 : Nat) (hk : (k + 7 ≤ k1 ∧ k1 ≤ rm.cells) ∧ n + 119 ≤ n1 ∧ n1 ≤ rm.slots) (hf : (Nat.ble 11 rm.frames && (Nat.ble 200 rm.locals && Nat.ble ((st.map fun v => v.category).sum) 8)) = true) (d : decode cc pc = .ok (.invokestatic 123, 3)) (hq : pc + 3 = q) (kk : ∀ (v : Option Value) (w1 : va_W), R v w1 → V X G nL w1 k1 n1 Q q lv (v.toList ++ st)) : V X G nL w k n Q pc lv (a5 :: a4 :: a3 :: a2 :: a1 :: a0 :: st) :=
  l_act C hA hf (Nat.le_trans hk.1.1 hk.1.2) (Nat.le_trans hk.2.1 hk.2.2) d hq (fun v w1 h => xx_mono hk.1.1 hk.2.1 (kk v w1 h))
theorem ax_ground {l : Launch} {G : GG} {r : Nat → Nat} {s t : SS} {nm nc nr : Nat} {w : va_W} {c m g u0 : Int32} (hst : l.stackTraces = false) (hG : GOK G) (hW : Wd G r s t nm nc nr w) (hB : Bs s nm nc nr) {e cd : Int32} (he : groundE s c m g = e) (hne : ¬ e = 0) (hc : ∀ q ∈ L3, q.2 = e → xc q.1 = cd) : ActM l G w [.ref (r 4), .int 0, .int c, .int m, .int g, .int u0] (RI (.int cd) w True) := by
  obtain ⟨a, L, s0, rfl, hL, ⟨ho, hm⟩, T0, T1, T2⟩ := hW
  obtain ⟨⟨hm12, hc30, hr20⟩, ⟨dd, hday, hdd⟩, hco, hcf, hro, hsl⟩ := hB
  rw [← ho]
  refine vx_wk (ac_ground hst hG (m2 (s := s) (t := t) (g := G.2.2.1) hL) (c_X7_ground (s := s) (t := t) (dd := dd) hst hG hL  c m g hday hdd) (fun E w1 h => pE_cls h.1 (by decide)) (fun v w1 h => ⟨_, h.1⟩)) (fun v w1 h => ?_)
  rcases h with h | ⟨E, ⟨⟨v0, hv0, h1⟩, hw⟩, rfl⟩
  · exact absurd (he.symm.trans h.2.2) hne
  · exact ⟨by rw [hc _ hv0 (h1.symm.trans he)], hw, trivial⟩

theorem ao_ground {l : Launch} {G : GG} {r : Nat → Nat} {s t : SS} {nm nc nr : Nat} {w : va_W} {c m g u0 : Int32} (hst : l.stackTraces = false) (hG : GOK G) (hW : Wd G r s t nm nc nr w) (hB : Bs s nm nc nr) (he : groundE s c m g = 0) : ActM l G w [.ref (r 4), .int 0, .int c, .int m, .int g, .int u0] (fun v w1 => v = some (.int (groundR s c m g)) ∧ Wd G r (groundU s c m g) t nm nc nr w1) := by
  obtain ⟨a, L, s0, rfl, hL, ⟨ho, hm⟩, T0, T1, T2⟩ := hW
  obtain ⟨⟨hm12, hc30, hr20⟩, ⟨dd, hday, hdd⟩, hco, hcf, hro, hsl⟩ := hB
  rw [← ho]
  refine vx_wk (ac_ground hst hG (m2 (s := s) (t := t) (g := G.2.2.1) hL) (c_X7_ground (s := s) (t := t) (dd := dd) hst hG hL  c m g hday hdd) (fun E w1 h => pE_cls h.1 (by decide)) (fun v w1 h => ⟨_, h.1⟩)) (fun v w1 h => ?_)
  rcases h with h | ⟨E, hx, -⟩
  rotate_left
  · exact (pE_no hx.1 he (by decide)).elim
  · obtain ⟨rfl, rfl, -⟩ := h
    refine ⟨rfl, a, L, s0, rfl, hL, ⟨ho, hm⟩, ?_⟩
    exact ⟨T0.frame rfl rfl rfl (ct_ground 12 (by decide) _) rfl, T1.frame rfl rfl rfl (ct_ground 21 (by decide) _) rfl, T2.frame rfl rfl rfl (ct_ground 33 (by decide) _) rfl⟩

theorem ax_flow {l : Launch} {G : GG} {r : Nat → Nat} {s t : SS} {nm nc nr : Nat} {w : va_W} {x u0 u1 u2 : Int32} (hst : l.stackTraces = false) (hG : GOK G) (hW : Wd G r s t nm nc nr w) (hB : Bs s nm nc nr) {e cd : Int32} (he : flowE s x = e) (hne : ¬ e = 0) (hc : ∀ q ∈ LA, q.2 = e → xc q.1 = cd) : ActM l G w [.ref (r 4), .int 1, .int x, .int u0, .int u1, .int u2] (RI (.int cd) w True) := by
  obtain ⟨a, L, s0, rfl, hL, ⟨ho, hm⟩, T0, T1, T2⟩ := hW
  obtain ⟨⟨hm12, hc30, hr20⟩, ⟨dd, hday, hdd⟩, hco, hcf, hro, hsl⟩ := hB
  rw [← ho]
  refine vx_wk (ac_flow hst hG (m2 (s := s) (t := t) (g := G.2.2.1) hL) (c_X7_flow (s := s) (t := t)  hst hG hL  x ) (fun E w1 h => pE_cls h.1 (by decide)) (fun v w1 h => ⟨_, h.1⟩)) (fun v w1 h => ?_)
  rcases h with h | ⟨E, ⟨⟨v0, hv0, h1⟩, hw⟩, rfl⟩
  · exact absurd (he.symm.trans h.2.2) hne
  · exact ⟨by rw [hc _ hv0 (h1.symm.trans he)], hw, trivial⟩

theorem ao_flow {l : Launch} {G : GG} {r : Nat → Nat} {s t : SS} {nm nc nr : Nat} {w : va_W} {x u0 u1 u2 : Int32} (hst : l.stackTraces = false) (hG : GOK G) (hW : Wd G r s t nm nc nr w) (hB : Bs s nm nc nr) (he : flowE s x = 0) : ActM l G w [.ref (r 4), .int 1, .int x, .int u0, .int u1, .int u2] (fun v w1 => v = some (.int (flowR s x)) ∧ Wd G r (flowU s x) t nm nc nr w1) := by
  obtain ⟨a, L, s0, rfl, hL, ⟨ho, hm⟩, T0, T1, T2⟩ := hW
  obtain ⟨⟨hm12, hc30, hr20⟩, ⟨dd, hday, hdd⟩, hco, hcf, hro, hsl⟩ := hB
  rw [← ho]
  refine vx_wk (ac_flow hst hG (m2 (s := s) (t := t) (g := G.2.2.1) hL) (c_X7_flow (s := s) (t := t)  hst hG hL  x ) (fun E w1 h => pE_cls h.1 (by decide)) (fun v w1 h => ⟨_, h.1⟩)) (fun v w1 h => ?_)
  rcases h with h | ⟨E, hx, -⟩
  rotate_left
  · exact (pE_no hx.1 he (by decide)).elim
  · obtain ⟨rfl, rfl, -⟩ := h
    refine ⟨rfl, a, L, s0, rfl, hL, ⟨ho, hm⟩, ?_⟩
    exact ⟨T0.frame rfl rfl rfl (ct_flow 12 (by decide) _) rfl, T1.frame rfl rfl rfl (ct_flow 21 (by decide) _) rfl, T2.frame rfl rfl rfl (ct_flow 33 (by decide) _) rfl⟩

theorem ax_miner {l : Launch} {G : GG} {r : Nat → Nat} {s t : SS} {nm nc nr : Nat} {w : va_W} {f c u0 u1 : Int32} (hst : l.stackTraces = false) (hG : GOK G) (hMi : MiOK G) (hW : Wd G r s t nm nc nr w) (hB : Bs s nm nc nr) {e cd : Int32} (he : minerE s nm f c = e) (hne : ¬ e = 0) (hc : ∀ q ∈ LAS, q.2 = e → xc q.1 = cd) : ActM l G w [.ref (r 4), .int 2, .int f, .int c, .int u0, .int u1] (RI (.int cd) w True) := by
  obtain ⟨a, L, s0, rfl, hL, ⟨ho, hm⟩, T0, T1, T2⟩ := hW
  obtain ⟨⟨hm12, hc30, hr20⟩, ⟨dd, hday, hdd⟩, hco, hcf, hro, hsl⟩ := hB
  rw [← ho]
  refine vx_wk (ac_miner hst hG (m2 (s := s) (t := t) (g := G.2.2.1) hL) (c_X7_miner (s := s) (t := t) (nm := nm) hst hG hL hMi T0 f c T0.1 hm12 (lv0 T0)) (fun E w1 h => pE_cls h.1 (by decide)) (fun v w1 h => ⟨_, h.1⟩)) (fun v w1 h => ?_)
  rcases h with h | ⟨E, ⟨⟨v0, hv0, h1⟩, hw⟩, rfl⟩
  · exact absurd (he.symm.trans h.2.1) hne
  · exact ⟨by rw [hc _ hv0 (h1.symm.trans he)], hw, trivial⟩

theorem ao_miner {l : Launch} {G : GG} {r : Nat → Nat} {s t : SS} {nm nc nr : Nat} {w : va_W} {f c u0 u1 : Int32} (hst : l.stackTraces = false) (hG : GOK G) (hMi : MiOK G) (hW : Wd G r s t nm nc nr w) (hB : Bs s nm nc nr) (he : minerE s nm f c = 0) : ActM l G w [.ref (r 4), .int 2, .int f, .int c, .int u0, .int u1] (fun v w1 => v = some (.int (nI nm)) ∧ Wd G r (minerS s nm f c) t (nm + 1) nc nr w1) := by
  obtain ⟨a, L, s0, rfl, hL, ⟨ho, hm⟩, T0, T1, T2⟩ := hW
  obtain ⟨⟨hm12, hc30, hr20⟩, ⟨dd, hday, hdd⟩, hco, hcf, hro, hsl⟩ := hB
  rw [← ho]
  refine vx_wk (ac_miner hst hG (m2 (s := s) (t := t) (g := G.2.2.1) hL) (c_X7_miner (s := s) (t := t) (nm := nm) hst hG hL hMi T0 f c T0.1 hm12 (lv0 T0)) (fun E w1 h => pE_cls h.1 (by decide)) (fun v w1 h => ⟨_, h.1⟩)) (fun v w1 h => ?_)
  rcases h with h | ⟨E, hx, -⟩
  rotate_left
  · exact (pE_no hx.1 he (by decide)).elim
  · obtain ⟨rfl, -, a1, L1, rfl, h2, h3, h4, h5⟩ := h
    exact ⟨rfl, a1, L1, _, rfl, h2, ⟨(h4 2 0 (by omega)).trans ho, fun j hj => (h4 1 j (by omega)).trans (hm j hj)⟩, h3.frame rfl rfl rfl rfl rfl, T1.frame (h5 7 1 (Or.inl rfl) (by decide)) (h5 15 1 (Or.inr (Or.inl rfl)) (by decide)) (h5 16 1 (Or.inr (Or.inr rfl)) (by decide)) (by first | rfl | (simp [minerS, minerU, sr, su, upd]; done)) (congrFun (su_o (by decide)) 0), T2.frame (h5 7 2 (Or.inl rfl) (by decide)) (h5 15 2 (Or.inr (Or.inl rfl)) (by decide)) (h5 16 2 (Or.inr (Or.inr rfl)) (by decide)) (by first | rfl | (simp [minerS, minerU, sr, su, upd]; done)) (congrFun (su_o (by decide)) 0)⟩

theorem ax_pass {l : Launch} {G : GG} {r : Nat → Nat} {s t : SS} {nm nc nr : Nat} {w : va_W} {x u0 u1 u2 : Int32} (hst : l.stackTraces = false) (hG : GOK G) (hW : Wd G r s t nm nc nr w) (hB : Bs s nm nc nr) {e cd : Int32} (he : passE s nm nc 0 x = e) (hne : ¬ e = 0) (hc : ∀ q ∈ LAS, q.2 = e → xc q.1 = cd) : ActM l G w [.ref (r 4), .int 3, .int x, .int u0, .int u1, .int u2] (RI (.int cd) w True) := by
  obtain ⟨a, L, s0, rfl, hL, ⟨ho, hm⟩, T0, T1, T2⟩ := hW
  obtain ⟨⟨hm12, hc30, hr20⟩, ⟨dd, hday, hdd⟩, hco, hcf, hro, hsl⟩ := hB
  rw [← ho]
  refine vx_wk (ac_pass hst hG (m2 (s := s) (t := t) (g := G.2.2.1) hL) (c_X7_pass (s := s) (t := t) (nm := nm) (nc := nc) hst hG hL  x T0.1 hm12 (lv0 T0) T1.1 (lv1 T1) hco) (fun E w1 h => pE_cls h.1 (by decide)) (fun v w1 h => ⟨_, h.1⟩)) (fun v w1 h => ?_)
  rcases h with h | ⟨E, ⟨⟨v0, hv0, h1⟩, hw⟩, rfl⟩
  · exact absurd (he.symm.trans h.2.2) hne
  · exact ⟨by rw [hc _ hv0 (h1.symm.trans he)], hw, trivial⟩

theorem ao_pass {l : Launch} {G : GG} {r : Nat → Nat} {s t : SS} {nm nc nr : Nat} {w : va_W} {x u0 u1 u2 : Int32} (hst : l.stackTraces = false) (hG : GOK G) (hW : Wd G r s t nm nc nr w) (hB : Bs s nm nc nr) (he : passE s nm nc 0 x = 0) : ActM l G w [.ref (r 4), .int 3, .int x, .int u0, .int u1, .int u2] (fun v w1 => v = some (.int (passR s nm nc 0 x)) ∧ Wd G r (psC s nm nc (tn x)) t nm nc nr w1) := by
  obtain ⟨a, L, s0, rfl, hL, ⟨ho, hm⟩, T0, T1, T2⟩ := hW
  obtain ⟨⟨hm12, hc30, hr20⟩, ⟨dd, hday, hdd⟩, hco, hcf, hro, hsl⟩ := hB
  rw [← ho]
  refine vx_wk (ac_pass hst hG (m2 (s := s) (t := t) (g := G.2.2.1) hL) (c_X7_pass (s := s) (t := t) (nm := nm) (nc := nc) hst hG hL  x T0.1 hm12 (lv0 T0) T1.1 (lv1 T1) hco) (fun E w1 h => pE_cls h.1 (by decide)) (fun v w1 h => ⟨_, h.1⟩)) (fun v w1 h => ?_)
  rcases h with h | ⟨E, hx, -⟩
  rotate_left
  · exact (pE_no hx.1 he (by decide)).elim
  · obtain ⟨rfl, rfl, -⟩ := h
    refine ⟨rfl, a, L, s0, rfl, hL, ⟨ho, hm⟩, ?_⟩
    exact ⟨T0.frame rfl rfl rfl (ct_pass 12 (by decide) _) rfl, T1.frame rfl rfl rfl (ct_pass 21 (by decide) _) rfl, T2.frame rfl rfl rfl (ct_pass 33 (by decide) _) rfl⟩

theorem ax_meet {l : Launch} {G : GG} {r : Nat → Nat} {s t : SS} {nm nc nr : Nat} {w : va_W} {m d y n_ : Int32} (hst : l.stackTraces = false) (hG : GOK G) (hW : Wd G r s t nm nc nr w) (hB : Bs s nm nc nr) {e cd : Int32} (he : meetE s nm m d y n_ = e) (hne : ¬ e = 0) (hc : ∀ q ∈ LA, q.2 = e → xc q.1 = cd) : ActM l G w [.ref (r 4), .int 4, .int m, .int d, .int y, .int n_] (RI (.int cd) w True) := by
  obtain ⟨a, L, s0, rfl, hL, ⟨ho, hm⟩, T0, T1, T2⟩ := hW
  obtain ⟨⟨hm12, hc30, hr20⟩, ⟨dd, hday, hdd⟩, hco, hcf, hro, hsl⟩ := hB
  rw [← ho]
  refine vx_wk (ac_meet hst hG (m2 (s := s) (t := t) (g := G.2.2.1) hL) (c_X7_meet (s := s) (t := t) (nm := nm) hst hG hL  m d y n_ T0.1 hm12 (lv0 T0)) (fun E w1 h => pE_cls h.1 (by decide)) (fun v w1 h => ⟨_, h.1⟩)) (fun v w1 h => ?_)
  rcases h with h | ⟨E, ⟨⟨v0, hv0, h1⟩, hw⟩, rfl⟩
  · obtain ⟨b, h, -⟩ := h
    exact absurd (he.symm.trans h.2.2) hne
  · exact ⟨by rw [hc _ hv0 (h1.symm.trans he)], hw, trivial⟩

theorem ao_meet {l : Launch} {G : GG} {r : Nat → Nat} {s t : SS} {nm nc nr : Nat} {w : va_W} {m d y n_ : Int32} (hst : l.stackTraces = false) (hG : GOK G) (hW : Wd G r s t nm nc nr w) (hB : Bs s nm nc nr) (he : meetE s nm m d y n_ = 0) : ActM l G w [.ref (r 4), .int 4, .int m, .int d, .int y, .int n_] (fun v w1 => v = some (.int ((if meetR s nm m d y n_ = 0 then 0 else 1))) ∧ Wd G r (meetU s nm m d y n_) t nm nc nr w1) := by
  obtain ⟨a, L, s0, rfl, hL, ⟨ho, hm⟩, T0, T1, T2⟩ := hW
  obtain ⟨⟨hm12, hc30, hr20⟩, ⟨dd, hday, hdd⟩, hco, hcf, hro, hsl⟩ := hB
  rw [← ho]
  refine vx_wk (ac_meet hst hG (m2 (s := s) (t := t) (g := G.2.2.1) hL) (c_X7_meet (s := s) (t := t) (nm := nm) hst hG hL  m d y n_ T0.1 hm12 (lv0 T0)) (fun E w1 h => pE_cls h.1 (by decide)) (fun v w1 h => ⟨_, h.1⟩)) (fun v w1 h => ?_)
  rcases h with h | ⟨E, hx, -⟩
  rotate_left
  · exact (pE_no hx.1 he (by decide)).elim
  · obtain ⟨b, ⟨hb, rfl, -⟩, rfl⟩ := h
    cases hb
    refine ⟨rfl, a, L, s0, rfl, hL, ⟨ho, hm⟩, ?_⟩
    exact ⟨T0.frame rfl rfl rfl (ct_meet 12 (by decide) _) rfl, T1.frame rfl rfl rfl (ct_meet 21 (by decide) _) rfl, T2.frame rfl rfl rfl (ct_meet 33 (by decide) _) rfl⟩

theorem ax_peg {l : Launch} {G : GG} {r : Nat → Nat} {s t : SS} {nm nc nr : Nat} {w : va_W} {x c m u0 : Int32} (hst : l.stackTraces = false) (hG : GOK G) (hMi : MiOK G) (hW : Wd G r s t nm nc nr w) (hB : Bs s nm nc nr) {e cd : Int32} (he : pegEC s nc x c m = e) (hne : ¬ e = 0) (hc : ∀ q ∈ L3, q.2 = e → xc q.1 = cd) : ActM l G w [.ref (r 4), .int 5, .int x, .int c, .int m, .int u0] (RI (.int cd) w True) := by
  obtain ⟨a, L, s0, rfl, hL, ⟨ho, hm⟩, T0, T1, T2⟩ := hW
  obtain ⟨⟨hm12, hc30, hr20⟩, ⟨dd, hday, hdd⟩, hco, hcf, hro, hsl⟩ := hB
  rw [← ho]
  refine vx_wk (ac_peg hst hG (m2 (s := s) (t := t) (g := G.2.2.1) hL) (c_X7_peg (s := s) (t := t) (nm := nm) (nc := nc) hst hG hL hMi T1 x c m T0.1 hm12 (lv0 T0) T1.1 (lv1 T1)) (fun E w1 h => pE_cls h.1 (by decide)) (fun v w1 h => ⟨_, h.1⟩)) (fun v w1 h => ?_)
  rcases h with h | ⟨E, ⟨⟨v0, hv0, h1⟩, hw⟩, rfl⟩
  · exact absurd (he.symm.trans h.2.1) hne
  · exact ⟨by rw [hc _ hv0 (h1.symm.trans he)], hw, trivial⟩

theorem ao_peg {l : Launch} {G : GG} {r : Nat → Nat} {s t : SS} {nm nc nr : Nat} {w : va_W} {x c m u0 : Int32} (hst : l.stackTraces = false) (hG : GOK G) (hMi : MiOK G) (hW : Wd G r s t nm nc nr w) (hB : Bs s nm nc nr) (he : pegEC s nc x c m = 0) : ActM l G w [.ref (r 4), .int 5, .int x, .int c, .int m, .int u0] (fun v w1 => v = some (.int (nI nc)) ∧ Wd G r (pegS s nc x c m) t nm (nc + 1) nr w1) := by
  obtain ⟨a, L, s0, rfl, hL, ⟨ho, hm⟩, T0, T1, T2⟩ := hW
  obtain ⟨⟨hm12, hc30, hr20⟩, ⟨dd, hday, hdd⟩, hco, hcf, hro, hsl⟩ := hB
  rw [← ho]
  refine vx_wk (ac_peg hst hG (m2 (s := s) (t := t) (g := G.2.2.1) hL) (c_X7_peg (s := s) (t := t) (nm := nm) (nc := nc) hst hG hL hMi T1 x c m T0.1 hm12 (lv0 T0) T1.1 (lv1 T1)) (fun E w1 h => pE_cls h.1 (by decide)) (fun v w1 h => ⟨_, h.1⟩)) (fun v w1 h => ?_)
  rcases h with h | ⟨E, hx, -⟩
  rotate_left
  · exact (pE_no hx.1 he (by decide)).elim
  · obtain ⟨rfl, -, a1, L1, rfl, h2, h3, h4, h5⟩ := h
    exact ⟨rfl, a1, L1, _, rfl, h2, ⟨(h4 2 0 (by omega)).trans ho, fun j hj => (h4 1 j (by omega)).trans (hm j hj)⟩, T0.frame (h5 7 0 (Or.inl rfl) (by decide)) (h5 15 0 (Or.inr (Or.inl rfl)) (by decide)) (h5 16 0 (Or.inr (Or.inr rfl)) (by decide)) (by first | rfl | (simp [pegS, pegU, su, upd]; done)) (congrFun (su_o (by decide)) 0), h3.frame rfl rfl rfl rfl rfl, T2.frame (h5 7 2 (Or.inl rfl) (by decide)) (h5 15 2 (Or.inr (Or.inl rfl)) (by decide)) (h5 16 2 (Or.inr (Or.inr rfl)) (by decide)) (by first | rfl | (simp [pegS, pegU, su, upd]; done)) (congrFun (su_o (by decide)) 0)⟩

theorem ax_right {l : Launch} {G : GG} {r : Nat → Nat} {s t : SS} {nm nc nr : Nat} {w : va_W} {x i_ u0 u1 : Int32} (hst : l.stackTraces = false) (hG : GOK G) (hMi : MiOK G) (hW : Wd G r s t nm nc nr w) (hB : Bs s nm nc nr) {e cd : Int32} (he : rightE s nr x i_ = e) (hne : ¬ e = 0) (hc : ∀ q ∈ L3, q.2 = e → xc q.1 = cd) : ActM l G w [.ref (r 4), .int 6, .int x, .int i_, .int u0, .int u1] (RI (.int cd) w True) := by
  obtain ⟨a, L, s0, rfl, hL, ⟨ho, hm⟩, T0, T1, T2⟩ := hW
  obtain ⟨⟨hm12, hc30, hr20⟩, ⟨dd, hday, hdd⟩, hco, hcf, hro, hsl⟩ := hB
  rw [← ho]
  refine vx_wk (ac_right hst hG (m2 (s := s) (t := t) (g := G.2.2.1) hL) (c_X7_right (s := s) (t := t) (nm := nm) (nr := nr) hst hG hL hMi T2 x i_ T0.1 hm12 (lv0 T0) T2.1 hr20 (lv2 T2)) (fun E w1 h => pE_cls h.1 (by decide)) (fun v w1 h => ⟨_, h.1⟩)) (fun v w1 h => ?_)
  rcases h with h | ⟨E, ⟨⟨v0, hv0, h1⟩, hw⟩, rfl⟩
  · exact absurd (he.symm.trans h.2.1) hne
  · exact ⟨by rw [hc _ hv0 (h1.symm.trans he)], hw, trivial⟩

theorem ao_right {l : Launch} {G : GG} {r : Nat → Nat} {s t : SS} {nm nc nr : Nat} {w : va_W} {x i_ u0 u1 : Int32} (hst : l.stackTraces = false) (hG : GOK G) (hMi : MiOK G) (hW : Wd G r s t nm nc nr w) (hB : Bs s nm nc nr) (he : rightE s nr x i_ = 0) : ActM l G w [.ref (r 4), .int 6, .int x, .int i_, .int u0, .int u1] (fun v w1 => v = some (.int (nI nr)) ∧ Wd G r (su (rightU s nr x i_) 55 2 (s 55 2 + 1)) t nm nc (nr + 1) w1) := by
  obtain ⟨a, L, s0, rfl, hL, ⟨ho, hm⟩, T0, T1, T2⟩ := hW
  obtain ⟨⟨hm12, hc30, hr20⟩, ⟨dd, hday, hdd⟩, hco, hcf, hro, hsl⟩ := hB
  rw [← ho]
  refine vx_wk (ac_right hst hG (m2 (s := s) (t := t) (g := G.2.2.1) hL) (c_X7_right (s := s) (t := t) (nm := nm) (nr := nr) hst hG hL hMi T2 x i_ T0.1 hm12 (lv0 T0) T2.1 hr20 (lv2 T2)) (fun E w1 h => pE_cls h.1 (by decide)) (fun v w1 h => ⟨_, h.1⟩)) (fun v w1 h => ?_)
  rcases h with h | ⟨E, hx, -⟩
  rotate_left
  · exact (pE_no hx.1 he (by decide)).elim
  · obtain ⟨rfl, -, a1, L1, rfl, h2, h3, h4, h5⟩ := h
    exact ⟨rfl, a1, L1, _, rfl, h2, ⟨(h4 2 0 (by omega)).trans ho, fun j hj => (h4 1 j (by omega)).trans (hm j hj)⟩, T0.frame (h5 7 0 (Or.inl rfl) (by decide)) (h5 15 0 (Or.inr (Or.inl rfl)) (by decide)) (h5 16 0 (Or.inr (Or.inr rfl)) (by decide)) (by first | rfl | (simp [rightU, su, upd]; done)) (congrFun (su_o (by decide)) 0), T1.frame (h5 7 1 (Or.inl rfl) (by decide)) (h5 15 1 (Or.inr (Or.inl rfl)) (by decide)) (h5 16 1 (Or.inr (Or.inr rfl)) (by decide)) (by first | rfl | (simp [rightU, su, upd]; done)) (congrFun (su_o (by decide)) 0), h3.frame rfl rfl rfl rfl rfl⟩

theorem ax_work {l : Launch} {G : GG} {r : Nat → Nat} {s t : SS} {nm nc nr : Nat} {w : va_W} {x c m u0 : Int32} (hst : l.stackTraces = false) (hG : GOK G) (hW : Wd G r s t nm nc nr w) (hB : Bs s nm nc nr) {e cd : Int32} (he : workEC s nm nc nr x c m = e) (hne : ¬ e = 0) (hc : ∀ q ∈ L3, q.2 = e → xc q.1 = cd) : ActM l G w [.ref (r 4), .int 7, .int x, .int c, .int m, .int u0] (RI (.int cd) w True) := by
  obtain ⟨a, L, s0, rfl, hL, ⟨ho, hm⟩, T0, T1, T2⟩ := hW
  obtain ⟨⟨hm12, hc30, hr20⟩, ⟨dd, hday, hdd⟩, hco, hcf, hro, hsl⟩ := hB
  rw [← ho]
  refine vx_wk (ac_work hst hG (m2 (s := s) (t := t) (g := G.2.2.1) hL) (c_X7_work (s := s) (t := t) (nm := nm) (nc := nc) (nr := nr) hst hG hL  x c m T0.1 hm12 (lv0 T0) T1.1 (lv1 T1) T2.1 hr20 (lv2 T2) hro) (fun E w1 h => pE_cls h.1 (by decide)) (fun v w1 h => ⟨_, h.1⟩)) (fun v w1 h => ?_)
  rcases h with h | ⟨E, ⟨⟨v0, hv0, h1⟩, hw⟩, rfl⟩
  · exact absurd (he.symm.trans h.2.2) hne
  · exact ⟨by rw [hc _ hv0 (h1.symm.trans he)], hw, trivial⟩

theorem ao_work {l : Launch} {G : GG} {r : Nat → Nat} {s t : SS} {nm nc nr : Nat} {w : va_W} {x c m u0 : Int32} (hst : l.stackTraces = false) (hG : GOK G) (hW : Wd G r s t nm nc nr w) (hB : Bs s nm nc nr) (he : workEC s nm nc nr x c m = 0) : ActM l G w [.ref (r 4), .int 7, .int x, .int c, .int m, .int u0] (fun v w1 => v = some (.int (workRC s c m)) ∧ Wd G r (workUC s nm nc x c m) t nm nc nr w1) := by
  obtain ⟨a, L, s0, rfl, hL, ⟨ho, hm⟩, T0, T1, T2⟩ := hW
  obtain ⟨⟨hm12, hc30, hr20⟩, ⟨dd, hday, hdd⟩, hco, hcf, hro, hsl⟩ := hB
  rw [← ho]
  refine vx_wk (ac_work hst hG (m2 (s := s) (t := t) (g := G.2.2.1) hL) (c_X7_work (s := s) (t := t) (nm := nm) (nc := nc) (nr := nr) hst hG hL  x c m T0.1 hm12 (lv0 T0) T1.1 (lv1 T1) T2.1 hr20 (lv2 T2) hro) (fun E w1 h => pE_cls h.1 (by decide)) (fun v w1 h => ⟨_, h.1⟩)) (fun v w1 h => ?_)
  rcases h with h | ⟨E, hx, -⟩
  rotate_left
  · exact (pE_no hx.1 he (by decide)).elim
  · obtain ⟨rfl, rfl, -⟩ := h
    refine ⟨rfl, a, L, s0, rfl, hL, ⟨ho, hm⟩, ?_⟩
    exact ⟨T0.frame rfl rfl rfl (ct_work 12 (by decide) _) rfl, T1.frame rfl rfl rfl (ct_work 21 (by decide) _) rfl, T2.frame rfl rfl rfl (ct_work 33 (by decide) _) rfl⟩

theorem ax_sample {l : Launch} {G : GG} {r : Nat → Nat} {s t : SS} {nm nc nr : Nat} {w : va_W} {c u0 u1 u2 : Int32} (hst : l.stackTraces = false) (hG : GOK G) (hW : Wd G r s t nm nc nr w) (hB : Bs s nm nc nr) {e cd : Int32} (he : sampleE s c = e) (hne : ¬ e = 0) (hc : ∀ q ∈ LI1, q.2 = e → xc q.1 = cd) : ActM l G w [.ref (r 4), .int 8, .int c, .int u0, .int u1, .int u2] (RI (.int cd) w True) := by
  obtain ⟨a, L, s0, rfl, hL, ⟨ho, hm⟩, T0, T1, T2⟩ := hW
  obtain ⟨⟨hm12, hc30, hr20⟩, ⟨dd, hday, hdd⟩, hco, hcf, hro, hsl⟩ := hB
  rw [← ho]
  refine vx_wk (ac_sample hst hG (m2 (s := s) (t := t) (g := G.2.2.1) hL) (c_X7_sample (s := s) (t := t)  hst hG hL  c ) (fun E w1 h => pE_cls h.1 (by decide)) (fun v w1 h => ⟨_, h.1⟩)) (fun v w1 h => ?_)
  rcases h with h | ⟨E, ⟨⟨v0, hv0, h1⟩, hw⟩, rfl⟩
  · exact absurd (he.symm.trans h.2.2) hne
  · exact ⟨by rw [hc _ hv0 (h1.symm.trans he)], hw, trivial⟩

theorem ao_sample {l : Launch} {G : GG} {r : Nat → Nat} {s t : SS} {nm nc nr : Nat} {w : va_W} {c u0 u1 u2 : Int32} (hst : l.stackTraces = false) (hG : GOK G) (hW : Wd G r s t nm nc nr w) (hB : Bs s nm nc nr) (he : sampleE s c = 0) : ActM l G w [.ref (r 4), .int 8, .int c, .int u0, .int u1, .int u2] (fun v w1 => v = some (.int (sampleR s c)) ∧ Wd G r (s) t nm nc nr w1) := by
  obtain ⟨a, L, s0, rfl, hL, ⟨ho, hm⟩, T0, T1, T2⟩ := hW
  obtain ⟨⟨hm12, hc30, hr20⟩, ⟨dd, hday, hdd⟩, hco, hcf, hro, hsl⟩ := hB
  rw [← ho]
  refine vx_wk (ac_sample hst hG (m2 (s := s) (t := t) (g := G.2.2.1) hL) (c_X7_sample (s := s) (t := t)  hst hG hL  c ) (fun E w1 h => pE_cls h.1 (by decide)) (fun v w1 h => ⟨_, h.1⟩)) (fun v w1 h => ?_)
  rcases h with h | ⟨E, hx, -⟩
  rotate_left
  · exact (pE_no hx.1 he (by decide)).elim
  · obtain ⟨rfl, rfl, -⟩ := h
    refine ⟨rfl, a, L, s0, rfl, hL, ⟨ho, hm⟩, ?_⟩
    exact ⟨T0, T1, T2⟩

theorem ax_salt {l : Launch} {G : GG} {r : Nat → Nat} {s t : SS} {nm nc nr : Nat} {w : va_W} {x c m u0 : Int32} (hst : l.stackTraces = false) (hG : GOK G) (hW : Wd G r s t nm nc nr w) (hB : Bs s nm nc nr) {e cd : Int32} (he : saltE s 0 x c m = e) (hne : ¬ e = 0) (hc : ∀ q ∈ L3, q.2 = e → xc q.1 = cd) : ActM l G w [.ref (r 4), .int 9, .int x, .int c, .int m, .int u0] (RI (.int cd) w True) := by
  obtain ⟨a, L, s0, rfl, hL, ⟨ho, hm⟩, T0, T1, T2⟩ := hW
  obtain ⟨⟨hm12, hc30, hr20⟩, ⟨dd, hday, hdd⟩, hco, hcf, hro, hsl⟩ := hB
  rw [← ho]
  refine vx_wk (ac_salt hst hG (m2 (s := s) (t := t) (g := G.2.2.1) hL) (c_X7_salt (s := s) (t := t) (nm := nm) (nc := nc) hst hG hL  x c m T0.1 hm12 (lv0 T0) T1.1 (lv1 T1)) (fun E w1 h => pE_cls h.1 (by decide)) (fun v w1 h => ⟨_, h.1⟩)) (fun v w1 h => ?_)
  rcases h with h | ⟨E, ⟨⟨v0, hv0, h1⟩, hw⟩, rfl⟩
  · exact absurd (he.symm.trans h.2.2) hne
  · exact ⟨by rw [hc _ hv0 (h1.symm.trans he)], hw, trivial⟩

theorem ao_salt {l : Launch} {G : GG} {r : Nat → Nat} {s t : SS} {nm nc nr : Nat} {w : va_W} {x c m u0 : Int32} (hst : l.stackTraces = false) (hG : GOK G) (hW : Wd G r s t nm nc nr w) (hB : Bs s nm nc nr) (he : saltE s 0 x c m = 0) : ActM l G w [.ref (r 4), .int 9, .int x, .int c, .int m, .int u0] (fun v w1 => v = some (.int (grF (saltUC s nc x c m) c)) ∧ Wd G r (saltUC s nc x c m) t nm nc nr w1) := by
  obtain ⟨a, L, s0, rfl, hL, ⟨ho, hm⟩, T0, T1, T2⟩ := hW
  obtain ⟨⟨hm12, hc30, hr20⟩, ⟨dd, hday, hdd⟩, hco, hcf, hro, hsl⟩ := hB
  rw [← ho]
  refine vx_wk (ac_salt hst hG (m2 (s := s) (t := t) (g := G.2.2.1) hL) (c_X7_salt (s := s) (t := t) (nm := nm) (nc := nc) hst hG hL  x c m T0.1 hm12 (lv0 T0) T1.1 (lv1 T1)) (fun E w1 h => pE_cls h.1 (by decide)) (fun v w1 h => ⟨_, h.1⟩)) (fun v w1 h => ?_)
  rcases h with h | ⟨E, hx, -⟩
  rotate_left
  · exact (pE_no hx.1 he (by decide)).elim
  · obtain ⟨rfl, rfl, -⟩ := h
    refine ⟨rfl, a, L, s0, rfl, hL, ⟨ho, hm⟩, ?_⟩
    exact ⟨T0.frame rfl rfl rfl (ct_salt 12 (by decide) _) rfl, T1.frame rfl rfl rfl (ct_salt 21 (by decide) _) rfl, T2.frame rfl rfl rfl (ct_salt 33 (by decide) _) rfl⟩

theorem ax_brass {l : Launch} {G : GG} {r : Nat → Nat} {s t : SS} {nm nc nr : Nat} {w : va_W} {x m u0 u1 : Int32} (hst : l.stackTraces = false) (hG : GOK G) (hW : Wd G r s t nm nc nr w) (hB : Bs s nm nc nr) {e cd : Int32} (he : brassE s x m = e) (hne : ¬ e = 0) (hc : ∀ q ∈ L3, q.2 = e → xc q.1 = cd) : ActM l G w [.ref (r 4), .int 10, .int x, .int m, .int u0, .int u1] (RI (.int cd) w True) := by
  obtain ⟨a, L, s0, rfl, hL, ⟨ho, hm⟩, T0, T1, T2⟩ := hW
  obtain ⟨⟨hm12, hc30, hr20⟩, ⟨dd, hday, hdd⟩, hco, hcf, hro, hsl⟩ := hB
  rw [← ho]
  refine vx_wk (ac_brass hst hG (m2 (s := s) (t := t) (g := G.2.2.1) hL) (c_X7_brass (s := s) (t := t) (nm := nm) hst hG hL  x m T0.1 hm12 (lv0 T0)) (fun E w1 h => pE_cls h.1 (by decide)) (fun v w1 h => ⟨_, h.1⟩)) (fun v w1 h => ?_)
  rcases h with h | ⟨E, ⟨⟨v0, hv0, h1⟩, hw⟩, rfl⟩
  · exact absurd (he.symm.trans h.2.2) hne
  · exact ⟨by rw [hc _ hv0 (h1.symm.trans he)], hw, trivial⟩

theorem ao_brass {l : Launch} {G : GG} {r : Nat → Nat} {s t : SS} {nm nc nr : Nat} {w : va_W} {x m u0 u1 : Int32} (hst : l.stackTraces = false) (hG : GOK G) (hW : Wd G r s t nm nc nr w) (hB : Bs s nm nc nr) (he : brassE s x m = 0) : ActM l G w [.ref (r 4), .int 10, .int x, .int m, .int u0, .int u1] (fun v w1 => v = some (.int (brassR s x m)) ∧ Wd G r (brassU s x m) t nm nc nr w1) := by
  obtain ⟨a, L, s0, rfl, hL, ⟨ho, hm⟩, T0, T1, T2⟩ := hW
  obtain ⟨⟨hm12, hc30, hr20⟩, ⟨dd, hday, hdd⟩, hco, hcf, hro, hsl⟩ := hB
  rw [← ho]
  refine vx_wk (ac_brass hst hG (m2 (s := s) (t := t) (g := G.2.2.1) hL) (c_X7_brass (s := s) (t := t) (nm := nm) hst hG hL  x m T0.1 hm12 (lv0 T0)) (fun E w1 h => pE_cls h.1 (by decide)) (fun v w1 h => ⟨_, h.1⟩)) (fun v w1 h => ?_)
  rcases h with h | ⟨E, hx, -⟩
  rotate_left
  · exact (pE_no hx.1 he (by decide)).elim
  · obtain ⟨rfl, rfl, -⟩ := h
    refine ⟨rfl, a, L, s0, rfl, hL, ⟨ho, hm⟩, ?_⟩
    exact ⟨T0.frame rfl rfl rfl (ct_brass 12 (by decide) _) rfl, T1.frame rfl rfl rfl (ct_brass 21 (by decide) _) rfl, T2.frame rfl rfl rfl (ct_brass 33 (by decide) _) rfl⟩

theorem ax_sell {l : Launch} {G : GG} {r : Nat → Nat} {s t : SS} {nm nc nr : Nat} {w : va_W} {x d u0 u1 : Int32} (hst : l.stackTraces = false) (hG : GOK G) (hW : Wd G r s t nm nc nr w) (hB : Bs s nm nc nr) {e cd : Int32} (he : sellE s x d = e) (hne : ¬ e = 0) (hc : ∀ q ∈ L3, q.2 = e → xc q.1 = cd) : ActM l G w [.ref (r 4), .int 11, .int x, .int d, .int u0, .int u1] (RI (.int cd) w True) := by
  obtain ⟨a, L, s0, rfl, hL, ⟨ho, hm⟩, T0, T1, T2⟩ := hW
  obtain ⟨⟨hm12, hc30, hr20⟩, ⟨dd, hday, hdd⟩, hco, hcf, hro, hsl⟩ := hB
  rw [← ho]
  refine vx_wk (ac_sell hst hG (m2 (s := s) (t := t) (g := G.2.2.1) hL) (c_X7_sell (s := s) (t := t) (nm := nm) hst hG hL  x d T0.1 hm12 (lv0 T0)) (fun E w1 h => pE_cls h.1 (by decide)) (fun v w1 h => ⟨_, h.1⟩)) (fun v w1 h => ?_)
  rcases h with h | ⟨E, ⟨⟨v0, hv0, h1⟩, hw⟩, rfl⟩
  · exact absurd (he.symm.trans h.2.2) hne
  · exact ⟨by rw [hc _ hv0 (h1.symm.trans he)], hw, trivial⟩

theorem ao_sell {l : Launch} {G : GG} {r : Nat → Nat} {s t : SS} {nm nc nr : Nat} {w : va_W} {x d u0 u1 : Int32} (hst : l.stackTraces = false) (hG : GOK G) (hW : Wd G r s t nm nc nr w) (hB : Bs s nm nc nr) (he : sellE s x d = 0) : ActM l G w [.ref (r 4), .int 11, .int x, .int d, .int u0, .int u1] (fun v w1 => v = some (.int (sellRC s x d)) ∧ Wd G r (sellUC s x d) t nm nc nr w1) := by
  obtain ⟨a, L, s0, rfl, hL, ⟨ho, hm⟩, T0, T1, T2⟩ := hW
  obtain ⟨⟨hm12, hc30, hr20⟩, ⟨dd, hday, hdd⟩, hco, hcf, hro, hsl⟩ := hB
  rw [← ho]
  refine vx_wk (ac_sell hst hG (m2 (s := s) (t := t) (g := G.2.2.1) hL) (c_X7_sell (s := s) (t := t) (nm := nm) hst hG hL  x d T0.1 hm12 (lv0 T0)) (fun E w1 h => pE_cls h.1 (by decide)) (fun v w1 h => ⟨_, h.1⟩)) (fun v w1 h => ?_)
  rcases h with h | ⟨E, hx, -⟩
  rotate_left
  · exact (pE_no hx.1 he (by decide)).elim
  · obtain ⟨rfl, rfl, -⟩ := h
    refine ⟨rfl, a, L, s0, rfl, hL, ⟨ho, hm⟩, ?_⟩
    exact ⟨T0.frame rfl rfl rfl (ct_sell 12 (by decide) _) rfl, T1.frame rfl rfl rfl (ct_sell 21 (by decide) _) rfl, T2.frame rfl rfl rfl (ct_sell 33 (by decide) _) rfl⟩

theorem ax_rate {l : Launch} {G : GG} {r : Nat → Nat} {s t : SS} {nm nc nr : Nat} {w : va_W} {x u0 u1 u2 : Int32} (hst : l.stackTraces = false) (hG : GOK G) (hW : Wd G r s t nm nc nr w) (hB : Bs s nm nc nr) {e cd : Int32} (he : rateE s x = e) (hne : ¬ e = 0) (hc : ∀ q ∈ LA, q.2 = e → xc q.1 = cd) : ActM l G w [.ref (r 4), .int 12, .int x, .int u0, .int u1, .int u2] (RI (.int cd) w True) := by
  obtain ⟨a, L, s0, rfl, hL, ⟨ho, hm⟩, T0, T1, T2⟩ := hW
  obtain ⟨⟨hm12, hc30, hr20⟩, ⟨dd, hday, hdd⟩, hco, hcf, hro, hsl⟩ := hB
  rw [← ho]
  refine vx_wk (ac_rate hst hG (m2 (s := s) (t := t) (g := G.2.2.1) hL) (c_X7_rate (s := s) (t := t)  hst hG hL  x ) (fun E w1 h => pE_cls h.1 (by decide)) (fun v w1 h => ⟨_, h.1⟩)) (fun v w1 h => ?_)
  rcases h with h | ⟨E, ⟨⟨v0, hv0, h1⟩, hw⟩, rfl⟩
  · exact absurd (he.symm.trans h.2.2) hne
  · exact ⟨by rw [hc _ hv0 (h1.symm.trans he)], hw, trivial⟩

theorem ao_rate {l : Launch} {G : GG} {r : Nat → Nat} {s t : SS} {nm nc nr : Nat} {w : va_W} {x u0 u1 u2 : Int32} (hst : l.stackTraces = false) (hG : GOK G) (hW : Wd G r s t nm nc nr w) (hB : Bs s nm nc nr) (he : rateE s x = 0) : ActM l G w [.ref (r 4), .int 12, .int x, .int u0, .int u1, .int u2] (fun v w1 => v = some (.int (rateR s x)) ∧ Wd G r (rateU s x) t nm nc nr w1) := by
  obtain ⟨a, L, s0, rfl, hL, ⟨ho, hm⟩, T0, T1, T2⟩ := hW
  obtain ⟨⟨hm12, hc30, hr20⟩, ⟨dd, hday, hdd⟩, hco, hcf, hro, hsl⟩ := hB
  rw [← ho]
  refine vx_wk (ac_rate hst hG (m2 (s := s) (t := t) (g := G.2.2.1) hL) (c_X7_rate (s := s) (t := t)  hst hG hL  x ) (fun E w1 h => pE_cls h.1 (by decide)) (fun v w1 h => ⟨_, h.1⟩)) (fun v w1 h => ?_)
  rcases h with h | ⟨E, hx, -⟩
  rotate_left
  · exact (pE_no hx.1 he (by decide)).elim
  · obtain ⟨rfl, rfl, -⟩ := h
    refine ⟨rfl, a, L, s0, rfl, hL, ⟨ho, hm⟩, ?_⟩
    exact ⟨T0.frame rfl rfl rfl (ct_rate 12 (by decide) _) rfl, T1.frame rfl rfl rfl (ct_rate 21 (by decide) _) rfl, T2.frame rfl rfl rfl (ct_rate 33 (by decide) _) rfl⟩

theorem ax_freight {l : Launch} {G : GG} {r : Nat → Nat} {s t : SS} {nm nc nr : Nat} {w : va_W} {m d u0 u1 : Int32} (hst : l.stackTraces = false) (hG : GOK G) (hW : Wd G r s t nm nc nr w) (hB : Bs s nm nc nr) {e cd : Int32} (he : freightEC s m d = e) (hne : ¬ e = 0) (hc : ∀ q ∈ LAS, q.2 = e → xc q.1 = cd) : ActM l G w [.ref (r 4), .int 13, .int m, .int d, .int u0, .int u1] (RI (.int cd) w True) := by
  obtain ⟨a, L, s0, rfl, hL, ⟨ho, hm⟩, T0, T1, T2⟩ := hW
  obtain ⟨⟨hm12, hc30, hr20⟩, ⟨dd, hday, hdd⟩, hco, hcf, hro, hsl⟩ := hB
  rw [← ho]
  refine vx_wk (ac_freight hst hG (m2 (s := s) (t := t) (g := G.2.2.1) hL) (c_X7_freight (s := s) (t := t)  hst hG hL  m d ) (fun E w1 h => pE_cls h.1 (by decide)) (fun v w1 h => h.1)) (fun v w1 h => ?_)
  rcases h with h | ⟨E, ⟨⟨v0, hv0, h1⟩, hw⟩, rfl⟩
  · exact absurd (he.symm.trans h.2.2.2) hne
  · exact ⟨by rw [hc _ hv0 (h1.symm.trans he)], hw, trivial⟩

theorem ao_freight {l : Launch} {G : GG} {r : Nat → Nat} {s t : SS} {nm nc nr : Nat} {w : va_W} {m d u0 u1 : Int32} (hst : l.stackTraces = false) (hG : GOK G) (hW : Wd G r s t nm nc nr w) (hB : Bs s nm nc nr) (he : freightEC s m d = 0) : ActM l G w [.ref (r 4), .int 13, .int m, .int d, .int u0, .int u1] (fun v w1 => v = some (.int (0)) ∧ Wd G r (sndF s m d) t nm nc nr w1) := by
  obtain ⟨a, L, s0, rfl, hL, ⟨ho, hm⟩, T0, T1, T2⟩ := hW
  obtain ⟨⟨hm12, hc30, hr20⟩, ⟨dd, hday, hdd⟩, hco, hcf, hro, hsl⟩ := hB
  rw [← ho]
  refine vx_wk (ac_freight hst hG (m2 (s := s) (t := t) (g := G.2.2.1) hL) (c_X7_freight (s := s) (t := t)  hst hG hL  m d ) (fun E w1 h => pE_cls h.1 (by decide)) (fun v w1 h => h.1)) (fun v w1 h => ?_)
  rcases h with h | ⟨E, hx, -⟩
  rotate_left
  · exact (pE_no hx.1 he (by decide)).elim
  · obtain ⟨rfl, -, rfl, -⟩ := h
    refine ⟨rfl, a, L, s0, rfl, hL, ⟨ho, hm⟩, ?_⟩
    exact ⟨T0.frame rfl rfl rfl (ct_freight 12 (by decide) _) rfl, T1.frame rfl rfl rfl (ct_freight 21 (by decide) _) rfl, T2.frame rfl rfl rfl (ct_freight 33 (by decide) _) rfl⟩

theorem ax_buy {l : Launch} {G : GG} {r : Nat → Nat} {s t : SS} {nm nc nr : Nat} {w : va_W} {x m u0 u1 : Int32} (hst : l.stackTraces = false) (hG : GOK G) (hW : Wd G r s t nm nc nr w) (hB : Bs s nm nc nr) {e cd : Int32} (he : buyE s x m = e) (hne : ¬ e = 0) (hc : ∀ q ∈ L3, q.2 = e → xc q.1 = cd) : ActM l G w [.ref (r 4), .int 14, .int x, .int m, .int u0, .int u1] (RI (.int cd) w True) := by
  obtain ⟨a, L, s0, rfl, hL, ⟨ho, hm⟩, T0, T1, T2⟩ := hW
  obtain ⟨⟨hm12, hc30, hr20⟩, ⟨dd, hday, hdd⟩, hco, hcf, hro, hsl⟩ := hB
  rw [← ho]
  refine vx_wk (ac_buy hst hG (m2 (s := s) (t := t) (g := G.2.2.1) hL) (c_X7_buy (s := s) (t := t) (nm := nm) hst hG hL  x m T0.1 hm12 (lv0 T0)) (fun E w1 h => pE_cls h.1 (by decide)) (fun v w1 h => ⟨_, h.1⟩)) (fun v w1 h => ?_)
  rcases h with h | ⟨E, ⟨⟨v0, hv0, h1⟩, hw⟩, rfl⟩
  · exact absurd (he.symm.trans h.2.2) hne
  · exact ⟨by rw [hc _ hv0 (h1.symm.trans he)], hw, trivial⟩

theorem ao_buy {l : Launch} {G : GG} {r : Nat → Nat} {s t : SS} {nm nc nr : Nat} {w : va_W} {x m u0 u1 : Int32} (hst : l.stackTraces = false) (hG : GOK G) (hW : Wd G r s t nm nc nr w) (hB : Bs s nm nc nr) (he : buyE s x m = 0) : ActM l G w [.ref (r 4), .int 14, .int x, .int m, .int u0, .int u1] (fun v w1 => v = some (.int (buyR s x m)) ∧ Wd G r (buyU s x m) t nm nc nr w1) := by
  obtain ⟨a, L, s0, rfl, hL, ⟨ho, hm⟩, T0, T1, T2⟩ := hW
  obtain ⟨⟨hm12, hc30, hr20⟩, ⟨dd, hday, hdd⟩, hco, hcf, hro, hsl⟩ := hB
  rw [← ho]
  refine vx_wk (ac_buy hst hG (m2 (s := s) (t := t) (g := G.2.2.1) hL) (c_X7_buy (s := s) (t := t) (nm := nm) hst hG hL  x m T0.1 hm12 (lv0 T0)) (fun E w1 h => pE_cls h.1 (by decide)) (fun v w1 h => ⟨_, h.1⟩)) (fun v w1 h => ?_)
  rcases h with h | ⟨E, hx, -⟩
  rotate_left
  · exact (pE_no hx.1 he (by decide)).elim
  · obtain ⟨rfl, rfl, -⟩ := h
    refine ⟨rfl, a, L, s0, rfl, hL, ⟨ho, hm⟩, ?_⟩
    exact ⟨T0.frame rfl rfl rfl (ct_buy 12 (by decide) _) rfl, T1.frame rfl rfl rfl (ct_buy 21 (by decide) _) rfl, T2.frame rfl rfl rfl (ct_buy 33 (by decide) _) rfl⟩

theorem ax_back {l : Launch} {G : GG} {r : Nat → Nat} {s t : SS} {nm nc nr : Nat} {w : va_W} {x y p m : Int32} (hst : l.stackTraces = false) (hG : GOK G) (hW : Wd G r s t nm nc nr w) (hB : Bs s nm nc nr) {e cd : Int32} (he : backEC s x y p m = e) (hne : ¬ e = 0) (hc : ∀ q ∈ L3, q.2 = e → xc q.1 = cd) : ActM l G w [.ref (r 4), .int 15, .int x, .int y, .int p, .int m] (RI (.int cd) w True) := by
  obtain ⟨a, L, s0, rfl, hL, ⟨ho, hm⟩, T0, T1, T2⟩ := hW
  obtain ⟨⟨hm12, hc30, hr20⟩, ⟨dd, hday, hdd⟩, hco, hcf, hro, hsl⟩ := hB
  rw [← ho]
  refine vx_wk (ac_back hst hG (m2 (s := s) (t := t) (g := G.2.2.1) hL) (c_X7_back (s := s) (t := t) (nm := nm) hst hG hL  x y p m T0.1 hm12 (lv0 T0)) (fun E w1 h => pE_cls h.1 (by decide)) (fun v w1 h => h.1)) (fun v w1 h => ?_)
  rcases h with h | ⟨E, ⟨⟨v0, hv0, h1⟩, hw⟩, rfl⟩
  · exact absurd (he.symm.trans h.2.2.2) hne
  · exact ⟨by rw [hc _ hv0 (h1.symm.trans he)], hw, trivial⟩

theorem ao_back {l : Launch} {G : GG} {r : Nat → Nat} {s t : SS} {nm nc nr : Nat} {w : va_W} {x y p m : Int32} (hst : l.stackTraces = false) (hG : GOK G) (hW : Wd G r s t nm nc nr w) (hB : Bs s nm nc nr) (he : backEC s x y p m = 0) : ActM l G w [.ref (r 4), .int 15, .int x, .int y, .int p, .int m] (fun v w1 => v = some (.int (0)) ∧ Wd G r (backUC s x y p m) t nm nc nr w1) := by
  obtain ⟨a, L, s0, rfl, hL, ⟨ho, hm⟩, T0, T1, T2⟩ := hW
  obtain ⟨⟨hm12, hc30, hr20⟩, ⟨dd, hday, hdd⟩, hco, hcf, hro, hsl⟩ := hB
  rw [← ho]
  refine vx_wk (ac_back hst hG (m2 (s := s) (t := t) (g := G.2.2.1) hL) (c_X7_back (s := s) (t := t) (nm := nm) hst hG hL  x y p m T0.1 hm12 (lv0 T0)) (fun E w1 h => pE_cls h.1 (by decide)) (fun v w1 h => h.1)) (fun v w1 h => ?_)
  rcases h with h | ⟨E, hx, -⟩
  rotate_left
  · exact (pE_no hx.1 he (by decide)).elim
  · obtain ⟨rfl, -, rfl, -⟩ := h
    refine ⟨rfl, a, L, s0, rfl, hL, ⟨ho, hm⟩, ?_⟩
    exact ⟨T0.frame rfl rfl rfl (ct_back 12 (by decide) _) rfl, T1.frame rfl rfl rfl (ct_back 21 (by decide) _) rfl, T2.frame rfl rfl rfl (ct_back 33 (by decide) _) rfl⟩

theorem ax_end {l : Launch} {G : GG} {r : Nat → Nat} {s t : SS} {nm nc nr : Nat} {w : va_W} {x y u0 u1 : Int32} (hst : l.stackTraces = false) (hG : GOK G) (hW : Wd G r s t nm nc nr w) (hB : Bs s nm nc nr) {e cd : Int32} (he : endE s x y = e) (hne : ¬ e = 0) (hc : ∀ q ∈ LIS, q.2 = e → xc q.1 = cd) : ActM l G w [.ref (r 4), .int 16, .int x, .int y, .int u0, .int u1] (RI (.int cd) w True) := by
  obtain ⟨a, L, s0, rfl, hL, ⟨ho, hm⟩, T0, T1, T2⟩ := hW
  obtain ⟨⟨hm12, hc30, hr20⟩, ⟨dd, hday, hdd⟩, hco, hcf, hro, hsl⟩ := hB
  rw [← ho]
  refine vx_wk (ac_end hst hG (m2 (s := s) (t := t) (g := G.2.2.1) hL) (c_X7_end (s := s) (t := t) (nm := nm) hst hG hL  x y T0.1 hm12 (lv0 T0)) (fun E w1 h => pE_cls h.1 (by decide)) (fun v w1 h => ⟨_, h.1⟩)) (fun v w1 h => ?_)
  rcases h with h | ⟨E, ⟨⟨v0, hv0, h1⟩, hw⟩, rfl⟩
  · exact absurd (he.symm.trans h.2.2) hne
  · exact ⟨by rw [hc _ hv0 (h1.symm.trans he)], hw, trivial⟩

theorem ao_end {l : Launch} {G : GG} {r : Nat → Nat} {s t : SS} {nm nc nr : Nat} {w : va_W} {x y u0 u1 : Int32} (hst : l.stackTraces = false) (hG : GOK G) (hW : Wd G r s t nm nc nr w) (hB : Bs s nm nc nr) (he : endE s x y = 0) : ActM l G w [.ref (r 4), .int 16, .int x, .int y, .int u0, .int u1] (fun v w1 => v = some (.int (endR s x y)) ∧ Wd G r (endU s x y) t nm nc nr w1) := by
  obtain ⟨a, L, s0, rfl, hL, ⟨ho, hm⟩, T0, T1, T2⟩ := hW
  obtain ⟨⟨hm12, hc30, hr20⟩, ⟨dd, hday, hdd⟩, hco, hcf, hro, hsl⟩ := hB
  rw [← ho]
  refine vx_wk (ac_end hst hG (m2 (s := s) (t := t) (g := G.2.2.1) hL) (c_X7_end (s := s) (t := t) (nm := nm) hst hG hL  x y T0.1 hm12 (lv0 T0)) (fun E w1 h => pE_cls h.1 (by decide)) (fun v w1 h => ⟨_, h.1⟩)) (fun v w1 h => ?_)
  rcases h with h | ⟨E, hx, -⟩
  rotate_left
  · exact (pE_no hx.1 he (by decide)).elim
  · obtain ⟨rfl, rfl, -⟩ := h
    refine ⟨rfl, a, L, s0, rfl, hL, ⟨ho, hm⟩, ?_⟩
    exact ⟨T0.frame rfl rfl rfl (ct_end 12 (by decide) _) rfl, T1.frame rfl rfl rfl (ct_end 21 (by decide) _) rfl, T2.frame rfl rfl rfl (ct_end 33 (by decide) _) rfl⟩

theorem ax_trade {l : Launch} {G : GG} {r : Nat → Nat} {s t : SS} {nm nc nr : Nat} {w : va_W} {c b m u0 : Int32} (hst : l.stackTraces = false) (hG : GOK G) (hW : Wd G r s t nm nc nr w) (hB : Bs s nm nc nr) {e cd : Int32} (he : tradeE s c b m = e) (hne : ¬ e = 0) (hc : ∀ q ∈ L3, q.2 = e → xc q.1 = cd) : ActM l G w [.ref (r 4), .int 17, .int c, .int b, .int m, .int u0] (RI (.int cd) w True) := by
  obtain ⟨a, L, s0, rfl, hL, ⟨ho, hm⟩, T0, T1, T2⟩ := hW
  obtain ⟨⟨hm12, hc30, hr20⟩, ⟨dd, hday, hdd⟩, hco, hcf, hro, hsl⟩ := hB
  rw [← ho]
  refine vx_wk (ac_trade hst hG (m2 (s := s) (t := t) (g := G.2.2.1) hL) (c_X7_trade (s := s) (t := t) (nm := nm) (nc := nc) hst hG hL  c b m T0.1 hm12 (lv0 T0) T1.1 (lv1 T1) hco hcf) (fun E w1 h => pE_cls h.1 (by decide)) (fun v w1 h => ⟨_, h.1⟩)) (fun v w1 h => ?_)
  rcases h with h | ⟨E, ⟨⟨v0, hv0, h1⟩, hw⟩, rfl⟩
  · exact absurd (he.symm.trans h.2.2) hne
  · exact ⟨by rw [hc _ hv0 (h1.symm.trans he)], hw, trivial⟩

theorem ao_trade {l : Launch} {G : GG} {r : Nat → Nat} {s t : SS} {nm nc nr : Nat} {w : va_W} {c b m u0 : Int32} (hst : l.stackTraces = false) (hG : GOK G) (hW : Wd G r s t nm nc nr w) (hB : Bs s nm nc nr) (he : tradeE s c b m = 0) : ActM l G w [.ref (r 4), .int 17, .int c, .int b, .int m, .int u0] (fun v w1 => v = some (.int (tradeR s c b m)) ∧ Wd G r (tradeUC s c b m) t nm nc nr w1) := by
  obtain ⟨a, L, s0, rfl, hL, ⟨ho, hm⟩, T0, T1, T2⟩ := hW
  obtain ⟨⟨hm12, hc30, hr20⟩, ⟨dd, hday, hdd⟩, hco, hcf, hro, hsl⟩ := hB
  rw [← ho]
  refine vx_wk (ac_trade hst hG (m2 (s := s) (t := t) (g := G.2.2.1) hL) (c_X7_trade (s := s) (t := t) (nm := nm) (nc := nc) hst hG hL  c b m T0.1 hm12 (lv0 T0) T1.1 (lv1 T1) hco hcf) (fun E w1 h => pE_cls h.1 (by decide)) (fun v w1 h => ⟨_, h.1⟩)) (fun v w1 h => ?_)
  rcases h with h | ⟨E, hx, -⟩
  rotate_left
  · exact (pE_no hx.1 he (by decide)).elim
  · obtain ⟨rfl, rfl, -⟩ := h
    refine ⟨rfl, a, L, s0, rfl, hL, ⟨ho, hm⟩, ?_⟩
    exact ⟨T0.frame rfl rfl rfl (ct_trade 12 (by decide) _) rfl, T1.frame rfl rfl rfl (ct_trade 21 (by decide) _) rfl, T2.frame rfl rfl rfl (ct_trade 33 (by decide) _) rfl⟩

theorem ax_suit {l : Launch} {G : GG} {r : Nat → Nat} {s t : SS} {nm nc nr : Nat} {w : va_W} {c u0 u1 u2 : Int32} (hst : l.stackTraces = false) (hG : GOK G) (hW : Wd G r s t nm nc nr w) (hB : Bs s nm nc nr) {e cd : Int32} (he : suitEC s c = e) (hne : ¬ e = 0) (hc : ∀ q ∈ LIS, q.2 = e → xc q.1 = cd) : ActM l G w [.ref (r 4), .int 18, .int c, .int u0, .int u1, .int u2] (RI (.int cd) w True) := by
  obtain ⟨a, L, s0, rfl, hL, ⟨ho, hm⟩, T0, T1, T2⟩ := hW
  obtain ⟨⟨hm12, hc30, hr20⟩, ⟨dd, hday, hdd⟩, hco, hcf, hro, hsl⟩ := hB
  rw [← ho]
  refine vx_wk (ac_suit hst hG (m2 (s := s) (t := t) (g := G.2.2.1) hL) (c_X7_suit (s := s) (t := t) (nm := nm) (nc := nc) hst hG hL  c T0.1 hm12 (lv0 T0) T1.1 (lv1 T1) hco hsl) (fun E w1 h => pE_cls h.1 (by decide)) (fun v w1 h => ⟨_, h.1⟩)) (fun v w1 h => ?_)
  rcases h with h | ⟨E, ⟨⟨v0, hv0, h1⟩, hw⟩, rfl⟩
  · exact absurd (he.symm.trans h.2.2) hne
  · exact ⟨by rw [hc _ hv0 (h1.symm.trans he)], hw, trivial⟩

theorem ao_suit {l : Launch} {G : GG} {r : Nat → Nat} {s t : SS} {nm nc nr : Nat} {w : va_W} {c u0 u1 u2 : Int32} (hst : l.stackTraces = false) (hG : GOK G) (hW : Wd G r s t nm nc nr w) (hB : Bs s nm nc nr) (he : suitEC s c = 0) : ActM l G w [.ref (r 4), .int 18, .int c, .int u0, .int u1, .int u2] (fun v w1 => v = some (.int (suitRC s c)) ∧ Wd G r (suitUC s c) t nm nc nr w1) := by
  obtain ⟨a, L, s0, rfl, hL, ⟨ho, hm⟩, T0, T1, T2⟩ := hW
  obtain ⟨⟨hm12, hc30, hr20⟩, ⟨dd, hday, hdd⟩, hco, hcf, hro, hsl⟩ := hB
  rw [← ho]
  refine vx_wk (ac_suit hst hG (m2 (s := s) (t := t) (g := G.2.2.1) hL) (c_X7_suit (s := s) (t := t) (nm := nm) (nc := nc) hst hG hL  c T0.1 hm12 (lv0 T0) T1.1 (lv1 T1) hco hsl) (fun E w1 h => pE_cls h.1 (by decide)) (fun v w1 h => ⟨_, h.1⟩)) (fun v w1 h => ?_)
  rcases h with h | ⟨E, hx, -⟩
  rotate_left
  · exact (pE_no hx.1 he (by decide)).elim
  · obtain ⟨rfl, rfl, -⟩ := h
    refine ⟨rfl, a, L, s0, rfl, hL, ⟨ho, hm⟩, ?_⟩
    exact ⟨T0.frame rfl rfl rfl (ct_suit 12 (by decide) _) rfl, T1.frame rfl rfl rfl (ct_suit 21 (by decide) _) rfl, T2.frame rfl rfl rfl (ct_suit 33 (by decide) _) rfl⟩

theorem ax_rumour {l : Launch} {G : GG} {r : Nat → Nat} {s t : SS} {nm nc nr : Nat} {w : va_W} {c b u0 u1 : Int32} (hst : l.stackTraces = false) (hG : GOK G) (hW : Wd G r s t nm nc nr w) (hB : Bs s nm nc nr) {e cd : Int32} (he : rumourE s c b = e) (hne : ¬ e = 0) (hc : ∀ q ∈ LIA, q.2 = e → xc q.1 = cd) : ActM l G w [.ref (r 4), .int 19, .int c, .int b, .int u0, .int u1] (RI (.int cd) w True) := by
  obtain ⟨a, L, s0, rfl, hL, ⟨ho, hm⟩, T0, T1, T2⟩ := hW
  obtain ⟨⟨hm12, hc30, hr20⟩, ⟨dd, hday, hdd⟩, hco, hcf, hro, hsl⟩ := hB
  rw [← ho]
  refine vx_wk (ac_rumour hst hG (m2 (s := s) (t := t) (g := G.2.2.1) hL) (c_X7_rumour (s := s) (t := t)  hst hG hL  c b ) (fun E w1 h => pE_cls h.1 (by decide)) (fun v w1 h => ⟨_, h.1⟩)) (fun v w1 h => ?_)
  rcases h with h | ⟨E, ⟨⟨v0, hv0, h1⟩, hw⟩, rfl⟩
  · exact absurd (he.symm.trans h.2.2) hne
  · exact ⟨by rw [hc _ hv0 (h1.symm.trans he)], hw, trivial⟩

theorem ao_rumour {l : Launch} {G : GG} {r : Nat → Nat} {s t : SS} {nm nc nr : Nat} {w : va_W} {c b u0 u1 : Int32} (hst : l.stackTraces = false) (hG : GOK G) (hW : Wd G r s t nm nc nr w) (hB : Bs s nm nc nr) (he : rumourE s c b = 0) : ActM l G w [.ref (r 4), .int 19, .int c, .int b, .int u0, .int u1] (fun v w1 => v = some (.int (rumourR s c b)) ∧ Wd G r (rumourU s c b) t nm nc nr w1) := by
  obtain ⟨a, L, s0, rfl, hL, ⟨ho, hm⟩, T0, T1, T2⟩ := hW
  obtain ⟨⟨hm12, hc30, hr20⟩, ⟨dd, hday, hdd⟩, hco, hcf, hro, hsl⟩ := hB
  rw [← ho]
  refine vx_wk (ac_rumour hst hG (m2 (s := s) (t := t) (g := G.2.2.1) hL) (c_X7_rumour (s := s) (t := t)  hst hG hL  c b ) (fun E w1 h => pE_cls h.1 (by decide)) (fun v w1 h => ⟨_, h.1⟩)) (fun v w1 h => ?_)
  rcases h with h | ⟨E, hx, -⟩
  rotate_left
  · exact (pE_no hx.1 he (by decide)).elim
  · obtain ⟨rfl, rfl, -⟩ := h
    refine ⟨rfl, a, L, s0, rfl, hL, ⟨ho, hm⟩, ?_⟩
    exact ⟨T0.frame rfl rfl rfl (ct_rumour 12 (by decide) _) rfl, T1.frame rfl rfl rfl (ct_rumour 21 (by decide) _) rfl, T2.frame rfl rfl rfl (ct_rumour 33 (by decide) _) rfl⟩

theorem ax_holds {l : Launch} {G : GG} {r : Nat → Nat} {s t : SS} {nm nc nr : Nat} {w : va_W} {c u0 u1 u2 : Int32} (hst : l.stackTraces = false) (hG : GOK G) (hW : Wd G r s t nm nc nr w) (hB : Bs s nm nc nr) {e cd : Int32} (he : holdsE s nc c = e) (hne : ¬ e = 0) (hc : ∀ q ∈ LI1, q.2 = e → xc q.1 = cd) : ActM l G w [.ref (r 4), .int 20, .int c, .int u0, .int u1, .int u2] (RI (.int cd) w True) := by
  obtain ⟨a, L, s0, rfl, hL, ⟨ho, hm⟩, T0, T1, T2⟩ := hW
  obtain ⟨⟨hm12, hc30, hr20⟩, ⟨dd, hday, hdd⟩, hco, hcf, hro, hsl⟩ := hB
  rw [← ho]
  refine vx_wk (ac_holds hst hG (m2 (s := s) (t := t) (g := G.2.2.1) hL) (c_X7_holds (s := s) (t := t) (nc := nc) hst hG hL  c T1.1 (lv1 T1)) (fun E w1 h => pE_cls h.1 (by decide)) (fun v w1 h => ⟨_, h.1⟩)) (fun v w1 h => ?_)
  rcases h with h | ⟨E, ⟨⟨v0, hv0, h1⟩, hw⟩, rfl⟩
  · exact absurd (he.symm.trans h.2.2) hne
  · exact ⟨by rw [hc _ hv0 (h1.symm.trans he)], hw, trivial⟩

theorem ao_holds {l : Launch} {G : GG} {r : Nat → Nat} {s t : SS} {nm nc nr : Nat} {w : va_W} {c u0 u1 u2 : Int32} (hst : l.stackTraces = false) (hG : GOK G) (hW : Wd G r s t nm nc nr w) (hB : Bs s nm nc nr) (he : holdsE s nc c = 0) : ActM l G w [.ref (r 4), .int 20, .int c, .int u0, .int u1, .int u2] (fun v w1 => v = some (.int (heldC s c nc)) ∧ Wd G r (s) t nm nc nr w1) := by
  obtain ⟨a, L, s0, rfl, hL, ⟨ho, hm⟩, T0, T1, T2⟩ := hW
  obtain ⟨⟨hm12, hc30, hr20⟩, ⟨dd, hday, hdd⟩, hco, hcf, hro, hsl⟩ := hB
  rw [← ho]
  refine vx_wk (ac_holds hst hG (m2 (s := s) (t := t) (g := G.2.2.1) hL) (c_X7_holds (s := s) (t := t) (nc := nc) hst hG hL  c T1.1 (lv1 T1)) (fun E w1 h => pE_cls h.1 (by decide)) (fun v w1 h => ⟨_, h.1⟩)) (fun v w1 h => ?_)
  rcases h with h | ⟨E, hx, -⟩
  rotate_left
  · exact (pE_no hx.1 he (by decide)).elim
  · obtain ⟨rfl, rfl, -⟩ := h
    refine ⟨rfl, a, L, s0, rfl, hL, ⟨ho, hm⟩, ?_⟩
    exact ⟨T0, T1, T2⟩

theorem ax_ofClaim {l : Launch} {G : GG} {r : Nat → Nat} {s t : SS} {nm nc nr : Nat} {w : va_W} {x w_ u0 u1 : Int32} (hst : l.stackTraces = false) (hG : GOK G) (hW : Wd G r s t nm nc nr w) (hB : Bs s nm nc nr) {e cd : Int32} (he : ofClaimE s x w_ = e) (hne : ¬ e = 0) (hc : ∀ q ∈ LIA, q.2 = e → xc q.1 = cd) : ActM l G w [.ref (r 4), .int 21, .int x, .int w_, .int u0, .int u1] (RI (.int cd) w True) := by
  obtain ⟨a, L, s0, rfl, hL, ⟨ho, hm⟩, T0, T1, T2⟩ := hW
  obtain ⟨⟨hm12, hc30, hr20⟩, ⟨dd, hday, hdd⟩, hco, hcf, hro, hsl⟩ := hB
  rw [← ho]
  refine vx_wk (ac_ofClaim hst hG (m2 (s := s) (t := t) (g := G.2.2.1) hL) (c_X7_ofClaim (s := s) (t := t) (nc := nc) hst hG hL  x w_ T1.1 (lv1 T1)) (fun E w1 h => pE_cls h.1 (by decide)) (fun v w1 h => ⟨_, h.1⟩)) (fun v w1 h => ?_)
  rcases h with h | ⟨E, ⟨⟨v0, hv0, h1⟩, hw⟩, rfl⟩
  · exact absurd (he.symm.trans h.2.2) hne
  · exact ⟨by rw [hc _ hv0 (h1.symm.trans he)], hw, trivial⟩

theorem ao_ofClaim {l : Launch} {G : GG} {r : Nat → Nat} {s t : SS} {nm nc nr : Nat} {w : va_W} {x w_ u0 u1 : Int32} (hst : l.stackTraces = false) (hG : GOK G) (hW : Wd G r s t nm nc nr w) (hB : Bs s nm nc nr) (he : ofClaimE s x w_ = 0) : ActM l G w [.ref (r 4), .int 21, .int x, .int w_, .int u0, .int u1] (fun v w1 => v = some (.int (ofClaimR s x w_)) ∧ Wd G r (s) t nm nc nr w1) := by
  obtain ⟨a, L, s0, rfl, hL, ⟨ho, hm⟩, T0, T1, T2⟩ := hW
  obtain ⟨⟨hm12, hc30, hr20⟩, ⟨dd, hday, hdd⟩, hco, hcf, hro, hsl⟩ := hB
  rw [← ho]
  refine vx_wk (ac_ofClaim hst hG (m2 (s := s) (t := t) (g := G.2.2.1) hL) (c_X7_ofClaim (s := s) (t := t) (nc := nc) hst hG hL  x w_ T1.1 (lv1 T1)) (fun E w1 h => pE_cls h.1 (by decide)) (fun v w1 h => ⟨_, h.1⟩)) (fun v w1 h => ?_)
  rcases h with h | ⟨E, hx, -⟩
  rotate_left
  · exact (pE_no hx.1 he (by decide)).elim
  · obtain ⟨rfl, rfl, -⟩ := h
    refine ⟨rfl, a, L, s0, rfl, hL, ⟨ho, hm⟩, ?_⟩
    exact ⟨T0, T1, T2⟩

theorem ax_ofMiner {l : Launch} {G : GG} {r : Nat → Nat} {s t : SS} {nm nc nr : Nat} {w : va_W} {x w_ u0 u1 : Int32} (hst : l.stackTraces = false) (hG : GOK G) (hW : Wd G r s t nm nc nr w) (hB : Bs s nm nc nr) {e cd : Int32} (he : ofMinerE s nm nr x w_ = e) (hne : ¬ e = 0) (hc : ∀ q ∈ LIA, q.2 = e → xc q.1 = cd) : ActM l G w [.ref (r 4), .int 22, .int x, .int w_, .int u0, .int u1] (RI (.int cd) w True) := by
  obtain ⟨a, L, s0, rfl, hL, ⟨ho, hm⟩, T0, T1, T2⟩ := hW
  obtain ⟨⟨hm12, hc30, hr20⟩, ⟨dd, hday, hdd⟩, hco, hcf, hro, hsl⟩ := hB
  rw [← ho]
  refine vx_wk (ac_ofMiner hst hG (m2 (s := s) (t := t) (g := G.2.2.1) hL) (c_X7_ofMiner (s := s) (t := t) (nm := nm) (nr := nr) hst hG hL  x w_ T0.1 hm12 (lv0 T0) T2.1 hr20 (lv2 T2) hro) (fun E w1 h => pE_cls h.1 (by decide)) (fun v w1 h => ⟨_, h.1⟩)) (fun v w1 h => ?_)
  rcases h with h | ⟨E, ⟨⟨v0, hv0, h1⟩, hw⟩, rfl⟩
  · exact absurd (he.symm.trans h.2.2) hne
  · exact ⟨by rw [hc _ hv0 (h1.symm.trans he)], hw, trivial⟩

theorem ao_ofMiner {l : Launch} {G : GG} {r : Nat → Nat} {s t : SS} {nm nc nr : Nat} {w : va_W} {x w_ u0 u1 : Int32} (hst : l.stackTraces = false) (hG : GOK G) (hW : Wd G r s t nm nc nr w) (hB : Bs s nm nc nr) (he : ofMinerE s nm nr x w_ = 0) : ActM l G w [.ref (r 4), .int 22, .int x, .int w_, .int u0, .int u1] (fun v w1 => v = some (.int (ofMinerRC s nm nr x w_)) ∧ Wd G r (s) t nm nc nr w1) := by
  obtain ⟨a, L, s0, rfl, hL, ⟨ho, hm⟩, T0, T1, T2⟩ := hW
  obtain ⟨⟨hm12, hc30, hr20⟩, ⟨dd, hday, hdd⟩, hco, hcf, hro, hsl⟩ := hB
  rw [← ho]
  refine vx_wk (ac_ofMiner hst hG (m2 (s := s) (t := t) (g := G.2.2.1) hL) (c_X7_ofMiner (s := s) (t := t) (nm := nm) (nr := nr) hst hG hL  x w_ T0.1 hm12 (lv0 T0) T2.1 hr20 (lv2 T2) hro) (fun E w1 h => pE_cls h.1 (by decide)) (fun v w1 h => ⟨_, h.1⟩)) (fun v w1 h => ?_)
  rcases h with h | ⟨E, hx, -⟩
  rotate_left
  · exact (pE_no hx.1 he (by decide)).elim
  · obtain ⟨rfl, rfl, -⟩ := h
    refine ⟨rfl, a, L, s0, rfl, hL, ⟨ho, hm⟩, ?_⟩
    exact ⟨T0, T1, T2⟩

theorem ax_gets {l : Launch} {G : GG} {r : Nat → Nat} {s t : SS} {nm nc nr : Nat} {w : va_W} {x u0 u1 u2 : Int32} (hst : l.stackTraces = false) (hG : GOK G) (hW : Wd G r s t nm nc nr w) (hB : Bs s nm nc nr) {e cd : Int32} (he : getsE s x = e) (hne : ¬ e = 0) (hc : ∀ q ∈ LI1, q.2 = e → xc q.1 = cd) : ActM l G w [.ref (r 4), .int 23, .int x, .int u0, .int u1, .int u2] (RI (.int cd) w True) := by
  obtain ⟨a, L, s0, rfl, hL, ⟨ho, hm⟩, T0, T1, T2⟩ := hW
  obtain ⟨⟨hm12, hc30, hr20⟩, ⟨dd, hday, hdd⟩, hco, hcf, hro, hsl⟩ := hB
  rw [← ho]
  refine vx_wk (ac_gets hst hG (m2 (s := s) (t := t) (g := G.2.2.1) hL) (c_X7_gets (s := s) (t := t) (nm := nm) (nr := nr) hst hG hL  x T0.1 hm12 (lv0 T0) T2.1 hr20 (lv2 T2) hro) (fun E w1 h => pE_cls h.1 (by decide)) (fun v w1 h => ⟨_, h.1⟩)) (fun v w1 h => ?_)
  rcases h with h | ⟨E, ⟨⟨v0, hv0, h1⟩, hw⟩, rfl⟩
  · exact absurd (he.symm.trans h.2.2) hne
  · exact ⟨by rw [hc _ hv0 (h1.symm.trans he)], hw, trivial⟩

theorem ao_gets {l : Launch} {G : GG} {r : Nat → Nat} {s t : SS} {nm nc nr : Nat} {w : va_W} {x u0 u1 u2 : Int32} (hst : l.stackTraces = false) (hG : GOK G) (hW : Wd G r s t nm nc nr w) (hB : Bs s nm nc nr) (he : getsE s x = 0) : ActM l G w [.ref (r 4), .int 23, .int x, .int u0, .int u1, .int u2] (fun v w1 => v = some (.int (getsR s x)) ∧ Wd G r (s) t nm nc nr w1) := by
  obtain ⟨a, L, s0, rfl, hL, ⟨ho, hm⟩, T0, T1, T2⟩ := hW
  obtain ⟨⟨hm12, hc30, hr20⟩, ⟨dd, hday, hdd⟩, hco, hcf, hro, hsl⟩ := hB
  rw [← ho]
  refine vx_wk (ac_gets hst hG (m2 (s := s) (t := t) (g := G.2.2.1) hL) (c_X7_gets (s := s) (t := t) (nm := nm) (nr := nr) hst hG hL  x T0.1 hm12 (lv0 T0) T2.1 hr20 (lv2 T2) hro) (fun E w1 h => pE_cls h.1 (by decide)) (fun v w1 h => ⟨_, h.1⟩)) (fun v w1 h => ?_)
  rcases h with h | ⟨E, hx, -⟩
  rotate_left
  · exact (pE_no hx.1 he (by decide)).elim
  · obtain ⟨rfl, rfl, -⟩ := h
    refine ⟨rfl, a, L, s0, rfl, hL, ⟨ho, hm⟩, ?_⟩
    exact ⟨T0, T1, T2⟩

theorem ax_gold {l : Launch} {G : GG} {r : Nat → Nat} {s t : SS} {nm nc nr : Nat} {w : va_W} {w_ u0 u1 u2 : Int32} (hst : l.stackTraces = false) (hG : GOK G) (hW : Wd G r s t nm nc nr w) (hB : Bs s nm nc nr) {e cd : Int32} (he : goldE s nm w_ = e) (hne : ¬ e = 0) (hc : ∀ q ∈ LA, q.2 = e → xc q.1 = cd) : ActM l G w [.ref (r 4), .int 24, .int w_, .int u0, .int u1, .int u2] (RI (.int cd) w True) := by
  obtain ⟨a, L, s0, rfl, hL, ⟨ho, hm⟩, T0, T1, T2⟩ := hW
  obtain ⟨⟨hm12, hc30, hr20⟩, ⟨dd, hday, hdd⟩, hco, hcf, hro, hsl⟩ := hB
  rw [← ho]
  refine vx_wk (ac_gold hst hG (m2 (s := s) (t := t) (g := G.2.2.1) hL) (c_X7_gold (s := s) (t := t) (nm := nm) hst hG hL  w_ T0.1 hm12 (lv0 T0)) (fun E w1 h => pE_cls h.1 (by decide)) (fun v w1 h => ⟨_, h.1⟩)) (fun v w1 h => ?_)
  rcases h with h | ⟨E, ⟨⟨v0, hv0, h1⟩, hw⟩, rfl⟩
  · exact absurd (he.symm.trans h.2.2) hne
  · exact ⟨by rw [hc _ hv0 (h1.symm.trans he)], hw, trivial⟩

theorem ao_gold {l : Launch} {G : GG} {r : Nat → Nat} {s t : SS} {nm nc nr : Nat} {w : va_W} {w_ u0 u1 u2 : Int32} (hst : l.stackTraces = false) (hG : GOK G) (hW : Wd G r s t nm nc nr w) (hB : Bs s nm nc nr) (he : goldE s nm w_ = 0) : ActM l G w [.ref (r 4), .int 24, .int w_, .int u0, .int u1, .int u2] (fun v w1 => v = some (.int (goldR s nm w_)) ∧ Wd G r (s) t nm nc nr w1) := by
  obtain ⟨a, L, s0, rfl, hL, ⟨ho, hm⟩, T0, T1, T2⟩ := hW
  obtain ⟨⟨hm12, hc30, hr20⟩, ⟨dd, hday, hdd⟩, hco, hcf, hro, hsl⟩ := hB
  rw [← ho]
  refine vx_wk (ac_gold hst hG (m2 (s := s) (t := t) (g := G.2.2.1) hL) (c_X7_gold (s := s) (t := t) (nm := nm) hst hG hL  w_ T0.1 hm12 (lv0 T0)) (fun E w1 h => pE_cls h.1 (by decide)) (fun v w1 h => ⟨_, h.1⟩)) (fun v w1 h => ?_)
  rcases h with h | ⟨E, hx, -⟩
  rotate_left
  · exact (pE_no hx.1 he (by decide)).elim
  · obtain ⟨rfl, rfl, -⟩ := h
    refine ⟨rfl, a, L, s0, rfl, hL, ⟨ho, hm⟩, ?_⟩
    exact ⟨T0, T1, T2⟩

theorem ax_camp {l : Launch} {G : GG} {r : Nat → Nat} {s t : SS} {nm nc nr : Nat} {w : va_W} {w_ u0 u1 u2 : Int32} (hst : l.stackTraces = false) (hG : GOK G) (hW : Wd G r s t nm nc nr w) (hB : Bs s nm nc nr) {e cd : Int32} (he : campE s nm w_ = e) (hne : ¬ e = 0) (hc : ∀ q ∈ LA, q.2 = e → xc q.1 = cd) : ActM l G w [.ref (r 4), .int 25, .int w_, .int u0, .int u1, .int u2] (RI (.int cd) w True) := by
  obtain ⟨a, L, s0, rfl, hL, ⟨ho, hm⟩, T0, T1, T2⟩ := hW
  obtain ⟨⟨hm12, hc30, hr20⟩, ⟨dd, hday, hdd⟩, hco, hcf, hro, hsl⟩ := hB
  rw [← ho]
  refine vx_wk (ac_camp hst hG (m2 (s := s) (t := t) (g := G.2.2.1) hL) (c_X7_camp (s := s) (t := t) (nm := nm) hst hG hL  w_ T0.1 hm12 (lv0 T0)) (fun E w1 h => pE_cls h.1 (by decide)) (fun v w1 h => ⟨_, h.1⟩)) (fun v w1 h => ?_)
  rcases h with h | ⟨E, ⟨⟨v0, hv0, h1⟩, hw⟩, rfl⟩
  · exact absurd (he.symm.trans h.2.2) hne
  · exact ⟨by rw [hc _ hv0 (h1.symm.trans he)], hw, trivial⟩

theorem ao_camp {l : Launch} {G : GG} {r : Nat → Nat} {s t : SS} {nm nc nr : Nat} {w : va_W} {w_ u0 u1 u2 : Int32} (hst : l.stackTraces = false) (hG : GOK G) (hW : Wd G r s t nm nc nr w) (hB : Bs s nm nc nr) (he : campE s nm w_ = 0) : ActM l G w [.ref (r 4), .int 25, .int w_, .int u0, .int u1, .int u2] (fun v w1 => v = some (.int (campRC s nm w_)) ∧ Wd G r (s) t nm nc nr w1) := by
  obtain ⟨a, L, s0, rfl, hL, ⟨ho, hm⟩, T0, T1, T2⟩ := hW
  obtain ⟨⟨hm12, hc30, hr20⟩, ⟨dd, hday, hdd⟩, hco, hcf, hro, hsl⟩ := hB
  rw [← ho]
  refine vx_wk (ac_camp hst hG (m2 (s := s) (t := t) (g := G.2.2.1) hL) (c_X7_camp (s := s) (t := t) (nm := nm) hst hG hL  w_ T0.1 hm12 (lv0 T0)) (fun E w1 h => pE_cls h.1 (by decide)) (fun v w1 h => ⟨_, h.1⟩)) (fun v w1 h => ?_)
  rcases h with h | ⟨E, hx, -⟩
  rotate_left
  · exact (pE_no hx.1 he (by decide)).elim
  · obtain ⟨rfl, rfl, -⟩ := h
    refine ⟨rfl, a, L, s0, rfl, hL, ⟨ho, hm⟩, ?_⟩
    exact ⟨T0, T1, T2⟩

theorem ax_belief {l : Launch} {G : GG} {r : Nat → Nat} {s t : SS} {nm nc nr : Nat} {w : va_W} {c u0 u1 u2 : Int32} (hst : l.stackTraces = false) (hG : GOK G) (hW : Wd G r s t nm nc nr w) (hB : Bs s nm nc nr) {e cd : Int32} (he : beliefE s c = e) (hne : ¬ e = 0) (hc : ∀ q ∈ LI1, q.2 = e → xc q.1 = cd) : ActM l G w [.ref (r 4), .int 26, .int c, .int u0, .int u1, .int u2] (RI (.int cd) w True) := by
  obtain ⟨a, L, s0, rfl, hL, ⟨ho, hm⟩, T0, T1, T2⟩ := hW
  obtain ⟨⟨hm12, hc30, hr20⟩, ⟨dd, hday, hdd⟩, hco, hcf, hro, hsl⟩ := hB
  rw [← ho]
  refine vx_wk (ac_belief hst hG (m2 (s := s) (t := t) (g := G.2.2.1) hL) (c_X7_belief (s := s) (t := t)  hst hG hL  c ) (fun E w1 h => pE_cls h.1 (by decide)) (fun v w1 h => ⟨_, h.1⟩)) (fun v w1 h => ?_)
  rcases h with h | ⟨E, ⟨⟨v0, hv0, h1⟩, hw⟩, rfl⟩
  · exact absurd (he.symm.trans h.2.2) hne
  · exact ⟨by rw [hc _ hv0 (h1.symm.trans he)], hw, trivial⟩

theorem ao_belief {l : Launch} {G : GG} {r : Nat → Nat} {s t : SS} {nm nc nr : Nat} {w : va_W} {c u0 u1 u2 : Int32} (hst : l.stackTraces = false) (hG : GOK G) (hW : Wd G r s t nm nc nr w) (hB : Bs s nm nc nr) (he : beliefE s c = 0) : ActM l G w [.ref (r 4), .int 26, .int c, .int u0, .int u1, .int u2] (fun v w1 => v = some (.int (beliefR s c)) ∧ Wd G r (s) t nm nc nr w1) := by
  obtain ⟨a, L, s0, rfl, hL, ⟨ho, hm⟩, T0, T1, T2⟩ := hW
  obtain ⟨⟨hm12, hc30, hr20⟩, ⟨dd, hday, hdd⟩, hco, hcf, hro, hsl⟩ := hB
  rw [← ho]
  refine vx_wk (ac_belief hst hG (m2 (s := s) (t := t) (g := G.2.2.1) hL) (c_X7_belief (s := s) (t := t)  hst hG hL  c ) (fun E w1 h => pE_cls h.1 (by decide)) (fun v w1 h => ⟨_, h.1⟩)) (fun v w1 h => ?_)
  rcases h with h | ⟨E, hx, -⟩
  rotate_left
  · exact (pE_no hx.1 he (by decide)).elim
  · obtain ⟨rfl, rfl, -⟩ := h
    refine ⟨rfl, a, L, s0, rfl, hL, ⟨ho, hm⟩, ?_⟩
    exact ⟨T0, T1, T2⟩

theorem ax_plan {l : Launch} {G : GG} {r : Nat → Nat} {s t : SS} {nm nc nr : Nat} {w : va_W} {c m u0 u1 : Int32} (hst : l.stackTraces = false) (hG : GOK G) (hW : Wd G r s t nm nc nr w) (hB : Bs s nm nc nr) {e cd : Int32} (he : planEC s c m = e) (hne : ¬ e = 0) (hc : ∀ q ∈ L3, q.2 = e → xc q.1 = cd) : ActM l G w [.ref (r 4), .int 27, .int c, .int m, .int u0, .int u1] (RI (.int cd) w True) := by
  obtain ⟨a, L, s0, rfl, hL, ⟨ho, hm⟩, T0, T1, T2⟩ := hW
  obtain ⟨⟨hm12, hc30, hr20⟩, ⟨dd, hday, hdd⟩, hco, hcf, hro, hsl⟩ := hB
  rw [← ho]
  refine vx_wk (ac_plan hst hG (m2 (s := s) (t := t) (g := G.2.2.1) hL) (c_X7_plan (s := s) (t := t) (nc := nc) hst hG hL  c m T1.1 (lv1 T1) hcf) (fun E w1 h => pE_cls h.1 (by decide)) (fun v w1 h => ⟨_, h.1⟩)) (fun v w1 h => ?_)
  rcases h with h | ⟨E, ⟨⟨v0, hv0, h1⟩, hw⟩, rfl⟩
  · exact absurd (he.symm.trans h.2.2) hne
  · exact ⟨by rw [hc _ hv0 (h1.symm.trans he)], hw, trivial⟩

theorem ao_plan {l : Launch} {G : GG} {r : Nat → Nat} {s t : SS} {nm nc nr : Nat} {w : va_W} {c m u0 u1 : Int32} (hst : l.stackTraces = false) (hG : GOK G) (hW : Wd G r s t nm nc nr w) (hB : Bs s nm nc nr) (he : planEC s c m = 0) : ActM l G w [.ref (r 4), .int 27, .int c, .int m, .int u0, .int u1] (fun v w1 => v = some (.int (ydS s (tn (s 23 (tn c))) (tn m) (tn (s 24 (tn c))))) ∧ Wd G r (s) t nm nc nr w1) := by
  obtain ⟨a, L, s0, rfl, hL, ⟨ho, hm⟩, T0, T1, T2⟩ := hW
  obtain ⟨⟨hm12, hc30, hr20⟩, ⟨dd, hday, hdd⟩, hco, hcf, hro, hsl⟩ := hB
  rw [← ho]
  refine vx_wk (ac_plan hst hG (m2 (s := s) (t := t) (g := G.2.2.1) hL) (c_X7_plan (s := s) (t := t) (nc := nc) hst hG hL  c m T1.1 (lv1 T1) hcf) (fun E w1 h => pE_cls h.1 (by decide)) (fun v w1 h => ⟨_, h.1⟩)) (fun v w1 h => ?_)
  rcases h with h | ⟨E, hx, -⟩
  rotate_left
  · exact (pE_no hx.1 he (by decide)).elim
  · obtain ⟨rfl, rfl, -⟩ := h
    refine ⟨rfl, a, L, s0, rfl, hL, ⟨ho, hm⟩, ?_⟩
    exact ⟨T0, T1, T2⟩

theorem ax_planCell {l : Launch} {G : GG} {r : Nat → Nat} {s t : SS} {nm nc nr : Nat} {w : va_W} {c m p u0 : Int32} (hst : l.stackTraces = false) (hG : GOK G) (hW : Wd G r s t nm nc nr w) (hB : Bs s nm nc nr) {e cd : Int32} (he : planCellEC s c m p = e) (hne : ¬ e = 0) (hc : ∀ q ∈ L3, q.2 = e → xc q.1 = cd) : ActM l G w [.ref (r 4), .int 28, .int c, .int m, .int p, .int u0] (RI (.int cd) w True) := by
  obtain ⟨a, L, s0, rfl, hL, ⟨ho, hm⟩, T0, T1, T2⟩ := hW
  obtain ⟨⟨hm12, hc30, hr20⟩, ⟨dd, hday, hdd⟩, hco, hcf, hro, hsl⟩ := hB
  rw [← ho]
  refine vx_wk (ac_planCell hst hG (m2 (s := s) (t := t) (g := G.2.2.1) hL) (c_X7_planCell (s := s) (t := t) (nc := nc) hst hG hL  c m p T1.1 (lv1 T1) hcf) (fun E w1 h => pE_cls h.1 (by decide)) (fun v w1 h => ⟨_, h.1⟩)) (fun v w1 h => ?_)
  rcases h with h | ⟨E, ⟨⟨v0, hv0, h1⟩, hw⟩, rfl⟩
  · exact absurd (he.symm.trans h.2.2) hne
  · exact ⟨by rw [hc _ hv0 (h1.symm.trans he)], hw, trivial⟩

theorem ao_planCell {l : Launch} {G : GG} {r : Nat → Nat} {s t : SS} {nm nc nr : Nat} {w : va_W} {c m p u0 : Int32} (hst : l.stackTraces = false) (hG : GOK G) (hW : Wd G r s t nm nc nr w) (hB : Bs s nm nc nr) (he : planCellEC s c m p = 0) : ActM l G w [.ref (r 4), .int 28, .int c, .int m, .int p, .int u0] (fun v w1 => v = some (.int (planCellRC s c p)) ∧ Wd G r (s) t nm nc nr w1) := by
  obtain ⟨a, L, s0, rfl, hL, ⟨ho, hm⟩, T0, T1, T2⟩ := hW
  obtain ⟨⟨hm12, hc30, hr20⟩, ⟨dd, hday, hdd⟩, hco, hcf, hro, hsl⟩ := hB
  rw [← ho]
  refine vx_wk (ac_planCell hst hG (m2 (s := s) (t := t) (g := G.2.2.1) hL) (c_X7_planCell (s := s) (t := t) (nc := nc) hst hG hL  c m p T1.1 (lv1 T1) hcf) (fun E w1 h => pE_cls h.1 (by decide)) (fun v w1 h => ⟨_, h.1⟩)) (fun v w1 h => ?_)
  rcases h with h | ⟨E, hx, -⟩
  rotate_left
  · exact (pE_no hx.1 he (by decide)).elim
  · obtain ⟨rfl, rfl, -⟩ := h
    refine ⟨rfl, a, L, s0, rfl, hL, ⟨ho, hm⟩, ?_⟩
    exact ⟨T0, T1, T2⟩

abbrev r_L_no : Room := { frames := 11, cells := 7, slots := 119, locals := 200 }
theorem c_L_no {l : Launch} {G : GG} {w : va_W} {o : Nat} {what a b c : Int32} (hst : l.stackTraces = false) (hG : GOK G) (hA : ActM l G w [.ref o, .int what, .int a, .int b, .int c, .int 0] (RI (.int (-1791000000)) w True)) : Mth l yL_no cL_no 5 (Option.some Jvm.ClassFile.FieldType.boolean) r_L_no G w [.ref o, .int what, .int a, .int b, .int c] (RI (.int 1) w True) nX := by
  refine mth_of rfl (Nat.le_of_ble_eq_true rfl) hst hG (fun X hX C0 => ?_)
  subst hX
  have C : Cx X G cL_no 5 RL (Option.some Jvm.ClassFile.FieldType.boolean) r_L_no "no" [] := C0
  clear C0
  show V X G 5 w 0 0 _ 0 [(0, .ref o), (1, .int what), (2, .int a), (3, .int b), (4, .int c)] []
  refine v_aload_n C dL_no_0 rfl 0 rfl ?_
  refine v_iload_n C dL_no_1 rfl 1 rfl ?_
  refine v_iload_n C dL_no_2 rfl 2 rfl ?_
  refine v_iload_n C dL_no_3 rfl 3 rfl ?_
  refine v_iload C dL_no_4 rfl 4 rfl ?_
  refine v_iconst C (v := 0) dL_no_6 rfl rfl ?_
  refine l_act C hA rfl (by decide) (by decide) dL_no_7 rfl (fun v w1 hv => ?_)
  obtain ⟨rfl, rfl, -⟩ := hv
  show V X G 5 _ _ _ _ _ _ [.int (-1791000000)]
  refine v_ldc C (v := -1791000000) dL_no_10 rfl N_L_108 ?_
  refine v_icmp_ne C (t := 19) dL_no_12 rfl rfl (fun h => absurd rfl h) (fun _ => ?_)
  refine v_iconst C (v := 1) dL_no_15 rfl rfl ?_
  refine v_goto C (q := 20) dL_no_16 rfl ?_
  exact v_zret C rfl (by decide) (by decide) dL_no_20 ⟨rfl, rfl, trivial⟩

abbrev r_L_off : Room := { frames := 11, cells := 7, slots := 119, locals := 200 }
theorem c_L_off {l : Launch} {G : GG} {w : va_W} {o : Nat} {what a b c : Int32} (hst : l.stackTraces = false) (hG : GOK G) (hA : ActM l G w [.ref o, .int what, .int a, .int b, .int c, .int 0] (RI (.int (-1792000000)) w True)) : Mth l yL_off cL_off 5 (Option.some Jvm.ClassFile.FieldType.boolean) r_L_off G w [.ref o, .int what, .int a, .int b, .int c] (RI (.int 1) w True) nX := by
  refine mth_of rfl (Nat.le_of_ble_eq_true rfl) hst hG (fun X hX C0 => ?_)
  subst hX
  have C : Cx X G cL_off 5 RL (Option.some Jvm.ClassFile.FieldType.boolean) r_L_off "off" [] := C0
  clear C0
  show V X G 5 w 0 0 _ 0 [(0, .ref o), (1, .int what), (2, .int a), (3, .int b), (4, .int c)] []
  refine v_aload_n C dL_off_0 rfl 0 rfl ?_
  refine v_iload_n C dL_off_1 rfl 1 rfl ?_
  refine v_iload_n C dL_off_2 rfl 2 rfl ?_
  refine v_iload_n C dL_off_3 rfl 3 rfl ?_
  refine v_iload C dL_off_4 rfl 4 rfl ?_
  refine v_iconst C (v := 0) dL_off_6 rfl rfl ?_
  refine l_act C hA rfl (by decide) (by decide) dL_off_7 rfl (fun v w1 hv => ?_)
  obtain ⟨rfl, rfl, -⟩ := hv
  show V X G 5 _ _ _ _ _ _ [.int (-1792000000)]
  refine v_ldc C (v := -1792000000) dL_off_10 rfl N_L_111 ?_
  refine v_icmp_ne C (t := 19) dL_off_12 rfl rfl (fun h => absurd rfl h) (fun _ => ?_)
  refine v_iconst C (v := 1) dL_off_15 rfl rfl ?_
  refine v_goto C (q := 20) dL_off_16 rfl ?_
  exact v_zret C rfl (by decide) (by decide) dL_off_20 ⟨rfl, rfl, trivial⟩

abbrev r_L_bars : Room := { frames := 11, cells := 7, slots := 119, locals := 200 }
theorem c_L_bars {l : Launch} {G : GG} {w : va_W} {o : Nat} {what a b c : Int32} (hst : l.stackTraces = false) (hG : GOK G) (hA : ActM l G w [.ref o, .int what, .int a, .int b, .int c, .int 1] (RI (.int (-1793000000)) w True)) : Mth l yL_bars cL_bars 5 (Option.some Jvm.ClassFile.FieldType.boolean) r_L_bars G w [.ref o, .int what, .int a, .int b, .int c] (RI (.int 1) w True) nX := by
  refine mth_of rfl (Nat.le_of_ble_eq_true rfl) hst hG (fun X hX C0 => ?_)
  subst hX
  have C : Cx X G cL_bars 5 RL (Option.some Jvm.ClassFile.FieldType.boolean) r_L_bars "bars" [] := C0
  clear C0
  show V X G 5 w 0 0 _ 0 [(0, .ref o), (1, .int what), (2, .int a), (3, .int b), (4, .int c)] []
  refine v_aload_n C dL_bars_0 rfl 0 rfl ?_
  refine v_iload_n C dL_bars_1 rfl 1 rfl ?_
  refine v_iload_n C dL_bars_2 rfl 2 rfl ?_
  refine v_iload_n C dL_bars_3 rfl 3 rfl ?_
  refine v_iload C dL_bars_4 rfl 4 rfl ?_
  refine v_iconst C (v := 1) dL_bars_6 rfl rfl ?_
  refine l_act C hA rfl (by decide) (by decide) dL_bars_7 rfl (fun v w1 hv => ?_)
  obtain ⟨rfl, rfl, -⟩ := hv
  show V X G 5 _ _ _ _ _ _ [.int (-1793000000)]
  refine v_ldc C (v := -1793000000) dL_bars_10 rfl N_L_114 ?_
  refine v_icmp_ne C (t := 19) dL_bars_12 rfl rfl (fun h => absurd rfl h) (fun _ => ?_)
  refine v_iconst C (v := 1) dL_bars_15 rfl rfl ?_
  refine v_goto C (q := 20) dL_bars_16 rfl ?_
  exact v_zret C rfl (by decide) (by decide) dL_bars_20 ⟨rfl, rfl, trivial⟩

theorem l_no {X : XS} {G : GG} {cc : ByteArray} {nL : Nat} {ret : Option FieldType} {rm : Room} {nme : String} {tb : List ExceptionTableEntry} {w : va_W} {k n : Nat} {Q : State → Prop} {pc q : Nat} {lv : List (Nat × Value)} {st : List Value} (C : Cx X G cc nL RL ret rm nme tb) {o : Nat} {what a b c : Int32} (hA : ActM X.2.1 G w [.ref o, .int what, .int a, .int b, .int c, .int 0] (RI (.int (-1791000000)) w True)) (k1 n1 : Nat) (hk : (k + 7 ≤ k1 ∧ k1 ≤ rm.cells) ∧ n + 119 ≤ n1 ∧ n1 ≤ rm.slots) (hf : (Nat.ble 12 rm.frames && (Nat.ble 224 rm.locals && Nat.ble ((st.map fun v => v.category).sum) 8)) = true) (d : decode cc pc = .ok (.invokestatic 141, 3)) (hq : pc + 3 = q) (kk : V X G nL w k1 n1 Q q lv (.int 1 :: st)) : V X G nL w k n Q pc lv (.int c :: .int b :: .int a :: .int what :: .ref o :: st) := by
  simp only [Bool.and_eq_true, Nat.ble_eq] at hf
  refine v_invS C (As := [.ref o, .int what, .int a, .int b, .int c]) L_L_141 (c_L_no C.2.2.2.2.2.1 C.2.2.2.2.2.2.2.2.2.1 hA) rfl rfl ⟨hf.1, hf.2.1⟩ ⟨Nat.le_trans hk.1.1 hk.1.2, Nat.le_trans hk.2.1 hk.2.2⟩ hf.2.2 d hq kx_no (fun v w1 h => ?_)
  obtain ⟨rfl, rfl, -⟩ := h
  exact xx_mono hk.1.1 hk.2.1 kk

theorem l_off {X : XS} {G : GG} {cc : ByteArray} {nL : Nat} {ret : Option FieldType} {rm : Room} {nme : String} {tb : List ExceptionTableEntry} {w : va_W} {k n : Nat} {Q : State → Prop} {pc q : Nat} {lv : List (Nat × Value)} {st : List Value} (C : Cx X G cc nL RL ret rm nme tb) {o : Nat} {what a b c : Int32} (hA : ActM X.2.1 G w [.ref o, .int what, .int a, .int b, .int c, .int 0] (RI (.int (-1792000000)) w True)) (k1 n1 : Nat) (hk : (k + 7 ≤ k1 ∧ k1 ≤ rm.cells) ∧ n + 119 ≤ n1 ∧ n1 ≤ rm.slots) (hf : (Nat.ble 12 rm.frames && (Nat.ble 224 rm.locals && Nat.ble ((st.map fun v => v.category).sum) 8)) = true) (d : decode cc pc = .ok (.invokestatic 146, 3)) (hq : pc + 3 = q) (kk : V X G nL w k1 n1 Q q lv (.int 1 :: st)) : V X G nL w k n Q pc lv (.int c :: .int b :: .int a :: .int what :: .ref o :: st) := by
  simp only [Bool.and_eq_true, Nat.ble_eq] at hf
  refine v_invS C (As := [.ref o, .int what, .int a, .int b, .int c]) L_L_146 (c_L_off C.2.2.2.2.2.1 C.2.2.2.2.2.2.2.2.2.1 hA) rfl rfl ⟨hf.1, hf.2.1⟩ ⟨Nat.le_trans hk.1.1 hk.1.2, Nat.le_trans hk.2.1 hk.2.2⟩ hf.2.2 d hq kx_no (fun v w1 h => ?_)
  obtain ⟨rfl, rfl, -⟩ := h
  exact xx_mono hk.1.1 hk.2.1 kk

theorem l_bars {X : XS} {G : GG} {cc : ByteArray} {nL : Nat} {ret : Option FieldType} {rm : Room} {nme : String} {tb : List ExceptionTableEntry} {w : va_W} {k n : Nat} {Q : State → Prop} {pc q : Nat} {lv : List (Nat × Value)} {st : List Value} (C : Cx X G cc nL RL ret rm nme tb) {o : Nat} {what a b c : Int32} (hA : ActM X.2.1 G w [.ref o, .int what, .int a, .int b, .int c, .int 1] (RI (.int (-1793000000)) w True)) (k1 n1 : Nat) (hk : (k + 7 ≤ k1 ∧ k1 ≤ rm.cells) ∧ n + 119 ≤ n1 ∧ n1 ≤ rm.slots) (hf : (Nat.ble 12 rm.frames && (Nat.ble 224 rm.locals && Nat.ble ((st.map fun v => v.category).sum) 8)) = true) (d : decode cc pc = .ok (.invokestatic 149, 3)) (hq : pc + 3 = q) (kk : V X G nL w k1 n1 Q q lv (.int 1 :: st)) : V X G nL w k n Q pc lv (.int c :: .int b :: .int a :: .int what :: .ref o :: st) := by
  simp only [Bool.and_eq_true, Nat.ble_eq] at hf
  refine v_invS C (As := [.ref o, .int what, .int a, .int b, .int c]) L_L_149 (c_L_bars C.2.2.2.2.2.1 C.2.2.2.2.2.2.2.2.2.1 hA) rfl rfl ⟨hf.1, hf.2.1⟩ ⟨Nat.le_trans hk.1.1 hk.1.2, Nat.le_trans hk.2.1 hk.2.2⟩ hf.2.2 d hq kx_no (fun v w1 h => ?_)
  obtain ⟨rfl, rfl, -⟩ := h
  exact xx_mono hk.1.1 hk.2.1 kk

