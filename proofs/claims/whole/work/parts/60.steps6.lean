theorem trS_o {z : SS} {c b m : Int32} {k : Nat} (h16 : k ≠ 16) (h53 : k ≠ 53) (h22 : k ≠ 22) (h32 : k ≠ 32) (h31 : k ≠ 31) (h54 : k ≠ 54) (h28 : k ≠ 28) : tradeUC z c b m k = z k := by
  unfold tradeUC slT
  rw [su_o h28, su_o h54, su_o h31, su_o h32, su_o h22, su_o h53, su_o h16, su_o h16]
theorem trT_o {z : SS} {c b m : Int32} {k : Nat} (h29 : k ≠ 29) (h30 : k ≠ 30) (h31 : k ≠ 31) (h32 : k ≠ 32) (h28 : k ≠ 28) (h16 : k ≠ 16) (h22 : k ≠ 22) : tradeU z c b m k = z k := by
  unfold tradeU
  rw [su_o h22, su_o h16, su_o h16, su_o h28, su_o h32, su_o h31, su_o h30, su_o h29]
theorem tr_16 {z : SS} {c b m : Int32} : tradeUC z c b m 16 = upd (upd (z 16) (tn b) (z 16 (tn b) - m)) (tn (z 22 (tn c))) (upd (z 16) (tn b) (z 16 (tn b) - m) (tn (z 22 (tn c))) + m) := by
  unfold tradeUC slT
  rw [su_o (by decide), su_o (by decide), su_o (by decide), su_o (by decide), su_o (by decide), su_o (by decide), su_s, su_s]
theorem tr_16m {z : SS} {c b m : Int32} : tradeU z c b m 16 = upd (upd (z 16) (tn b) (z 16 (tn b) - m)) (tn (z 22 (tn c))) (upd (z 16) (tn b) (z 16 (tn b) - m) (tn (z 22 (tn c))) + m) := by
  unfold tradeU
  rw [su_o (by decide), su_s, su_s, su_s, su_o (by decide), su_o (by decide), su_o (by decide), su_o (by decide), su_o (by decide)]
theorem tr_22 {z : SS} {c b m : Int32} : tradeUC z c b m 22 = upd (z 22) (tn c) b := by
  unfold tradeUC slT
  rw [su_o (by decide), su_o (by decide), su_o (by decide), su_o (by decide), su_s, su_o (by decide), su_o (by decide), su_o (by decide)]
theorem tr_22m {z : SS} {c b m : Int32} : tradeU z c b m 22 = upd (z 22) (tn c) b := by
  unfold tradeU
  rw [su_s, su_o (by decide), su_o (by decide), su_o (by decide), su_o (by decide), su_o (by decide), su_o (by decide), su_o (by decide)]
theorem tr_28 {z : SS} {c b m : Int32} : tradeUC z c b m 28 = upd (z 28) (tn c) 0 := by
  unfold tradeUC slT
  rw [su_s, su_o (by decide), su_o (by decide), su_o (by decide), su_o (by decide), su_o (by decide), su_o (by decide), su_o (by decide)]
theorem tr_28m {z : SS} {c b m : Int32} : tradeU z c b m 28 = upd (z 28) (tn c) 0 := by
  unfold tradeU
  rw [su_o (by decide), su_o (by decide), su_o (by decide), su_s, su_o (by decide), su_o (by decide), su_o (by decide), su_o (by decide)]
theorem tr_31 {z : SS} {c b m : Int32} : tradeUC z c b m 31 = upd (z 31) (tn c) m := by
  unfold tradeUC slT
  rw [su_o (by decide), su_o (by decide), su_s, su_o (by decide), su_o (by decide), su_o (by decide), su_o (by decide), su_o (by decide)]
theorem tr_31m {z : SS} {c b m : Int32} : tradeU z c b m 31 = upd (z 31) (tn c) m := by
  unfold tradeU
  rw [su_o (by decide), su_o (by decide), su_o (by decide), su_o (by decide), su_o (by decide), su_s, su_o (by decide), su_o (by decide)]
theorem tr_32 {z : SS} {c b m : Int32} : tradeUC z c b m 32 = upd (z 32) (tn c) (z 0 0) := by
  unfold tradeUC slT
  rw [su_o (by decide), su_o (by decide), su_o (by decide), su_s, su_o (by decide), su_o (by decide), su_o (by decide), su_o (by decide)]
theorem tr_32m {z : SS} {c b m : Int32} : tradeU z c b m 32 = upd (z 32) (tn c) (z 0 0) := by
  unfold tradeU
  rw [su_o (by decide), su_o (by decide), su_o (by decide), su_o (by decide), su_s, su_o (by decide), su_o (by decide), su_o (by decide)]
theorem tr_sim {z : SS} {c b m : Int32} : Sim (tradeUC z c b m) (tradeU (su z 45 0 0) c b m) := by
  intro k hk
  by_cases k16 : k = 16
  · subst k16; rw [tr_16, tr_16m, su_o (show 16 ≠ 45 by decide), su_o (show 22 ≠ 45 by decide)]
  by_cases k22 : k = 22
  · subst k22; rw [tr_22, tr_22m, su_o (show 22 ≠ 45 by decide)]
  by_cases k28 : k = 28
  · subst k28; rw [tr_28, tr_28m, su_o (show 28 ≠ 45 by decide)]
  by_cases k31 : k = 31
  · subst k31; rw [tr_31, tr_31m, su_o (show 31 ≠ 45 by decide)]
  by_cases k32 : k = 32
  · subst k32; rw [tr_32, tr_32m, su_o (show 32 ≠ 45 by decide), su_o (show 0 ≠ 45 by decide)]
  rw [trS_o k16 (fun e => by subst e; cases hk) k22 k32 k31 (fun e => by subst e; cases hk) k28, trT_o (fun e => by subst e; cases hk) (fun e => by subst e; cases hk) k31 k32 k28 k16 k22, su_o (fun e => by subst e; cases hk)]
theorem k_trade {z : SS} {nm nc nr nf ns dd cc : Nat} {c b m : Int32} (h : Iv z nm nc nr nf ns dd cc) (he : tradeE z c b m = 0) : Nx (tradeUC z c b m) (tradeU (su z 45 0 0) c b m) nm nc nr (cc + 1) ∧ (tradeU (su z 45 0 0) c b m) 45 0 = 0 := by
  obtain ⟨⟨g1, g2⟩, g3, g4⟩ := e3 he
  have hi := cl_lt g1 h.1.2.1.1 h.1.2.1.2
  have hb : vp_in b nm := vp_cnt (N := nm) g2 h.1.1.1 (Nat.le_refl _) (by have := h.1.1.2; omega)
  obtain ⟨h1, h2, h3, h4, h5, h6, h7, h8, h9⟩ := h
  obtain ⟨h0, h5000⟩ := h1.2.2.2.2.2.1
  have hn12 := h1.1.2
  have ho := h5.1 (tn c) hi
  have eo : z 22 (tn c) = nI (tn (z 22 (tn c))) := in_nI ho (by omega)
  have lo := in_lt ho
  have e53 : ∀ j, mrg (tradeUC z c b m) (tradeU (su z 45 0 0) c b m) 53 j = upd (z 53) (tn c) (z 22 (tn c)) j := fun j => by rw [mrg_s (by decide)]; rfl
  have e54 : ∀ j, mrg (tradeUC z c b m) (tradeU (su z 45 0 0) c b m) 54 j = upd (z 54) (tn c) (slC z (tn (z 22 (tn c))) (tn (z 23 (tn c))) (z 0 0) (tn (z 24 (tn c)))) j := fun j => by rw [mrg_s (by decide)]; rfl
  have mc : ∀ k, 46 ≤ k → k ≠ 53 → k ≠ 54 → mrg (tradeUC z c b m) (tradeU (su z 45 0 0) c b m) k = z k := fun k hk a b => (mrg_s hk).trans (trS_o (by omega) a (by omega) (by omega) (by omega) b (by omega))
  refine ⟨⟨tr_sim, nf, ns, dd, ⟨h1.cg (cc + 1) (by omega) rfl rfl rfl rfl rfl rfl rfl, V2.cg h2 rfl rfl rfl, h3.cg rfl rfl (mc 50 (by decide) (by decide) (by decide)) (mc 51 (by decide) (by decide) (by decide)), h4.cg rfl rfl rfl, ⟨fun i hi' => ?_, h5.2⟩, ?_, ⟨h7.1, h7.2.1, fun i hi' => ?_⟩, h8.cg rfl rfl rfl (mc 52 (by decide) (by decide) (by decide)), ?_⟩⟩, rfl⟩
  · show vp_in (upd (z 22) (tn c) b i) nm
    by_cases e : i = tn c
    · rw [e, upd_at]; exact hb
    · rw [upd_ne e]; exact h5.1 i hi'
  · intro i hi'
    rw [e53]
    show (upd (z 32) (tn c) (z 0 0) i = -1 ∧ _) ∨ (_ ∧ (∃ d, upd (z 32) (tn c) (z 0 0) i = nI d ∧ d ≤ dd) ∧ _ = upd (z 29) (tn c) (z 22 (tn c)) i ∧ vp_in (upd (z 29) (tn c) (z 22 (tn c)) i) nm ∧ upd (z 30) (tn c) b i = upd (z 22) (tn c) b i)
    by_cases e : i = tn c
    · subst e
      rw [upd_at, upd_at, upd_at, upd_at, upd_at]
      exact Or.inr ⟨by rw [eo]; exact nI_neg1 (by omega), ⟨dd, h0, Nat.le_refl _⟩, rfl, ho, rfl⟩
    · rw [upd_ne e, upd_ne e, upd_ne e, upd_ne e, upd_ne e]; exact h6 i hi'
  · show upd (z 28) (tn c) 0 i = 0 ∧ upd (z 31) (tn c) m i = 0
    rw [upd_ne (by omega), upd_ne (by omega)]; exact h7.2.2 i hi'
  · intro i hi' h32
    have h32 : ¬ upd (z 32) (tn c) (z 0 0) i = -1 := h32
    rw [e54]
    by_cases e : i = tn c
    · subst e
      rw [upd_at]
      obtain ⟨s1, s2, s3, s4, s5⟩ := h4.1 (tn c) hi'
      have k1 := (sltW_iff (z := mrg (tradeUC z c b m) (tradeU (su z 45 0 0) c b m)) (c := tn c) ns).2
      have k2 := slC_iff (z := z) (i := tn (z 22 (tn c))) (c := tn (z 23 (tn c))) (d := z 0 0) (tn (z 24 (tn c)))
      have hp : ∀ k, sltP (mrg (tradeUC z c b m) (tradeU (su z 45 0 0) c b m)) (tn c) k ↔ ((z 40 k = nI (tn (z 22 (tn c))) ∧ (z 23 (tn c) ≤ z 41 k ∧ z 41 k < z 23 (tn c) + z 24 (tn c))) ∧ (nI dd - nI 30 ≤ z 42 k ∧ z 42 k ≤ nI dd)) := fun k => by
        show ((z 40 k = upd (z 29) (tn c) (z 22 (tn c)) (tn c) ∧ (z 23 (tn c) ≤ z 41 k ∧ z 41 k ≤ z 23 (tn c) + z 24 (tn c) - 1)) ∧ (upd (z 32) (tn c) (z 0 0) (tn c) - 30 ≤ z 42 k ∧ z 42 k ≤ upd (z 32) (tn c) (z 0 0) (tn c))) ↔ _
        rw [upd_at, upd_at, cov_iff (x := z 41 k) s4 s3 s1 s5, ← eo, ← h0, show (30 : Int32) = nI 30 from rfl]
      have t3 : tn (nI (tn (z 23 (tn c)))) = tn (z 23 (tn c)) := nI_clamp (by omega)
      have t4 : tn (nI (tn (z 24 (tn c)))) = tn (z 24 (tn c)) := nI_clamp (by omega)
      have fwd : ¬ slC z (tn (z 22 (tn c))) (tn (z 23 (tn c))) (z 0 0) (tn (z 24 (tn c))) = 0 → ¬ sltW (mrg (tradeUC z c b m) (tradeU (su z 45 0 0) c b m)) (tn c) ns = 0 := by
        intro q
        obtain ⟨q1, hq1, hq2, hq3⟩ := k2.mp q
        rcases h8.1 (tn (z 22 (tn c))) (tn (z 23 (tn c)) + q1) lo (by omega) with ⟨a, -⟩ | ⟨e, a, b', ⟨k, d1, d2, d3, d4⟩, -⟩
        · exact absurd a hq2
        · refine k1.mpr ⟨k, d1, (hp k).mpr ⟨⟨d2, ?_, ?_⟩, ?_, ?_⟩⟩
          · rw [d3, s4, t3, nI_leI (by omega) (by omega)]; omega
          · rw [d3, s4, s3, t3, nI_add, nI_ltI (by omega) (by omega)]
            omega
          · rw [d4, sb_le (by omega) (by decide) (by omega)]
            rw [b', h0, show (30 : Int32) = nI 30 from rfl, sb_le (by omega) (by omega) (by decide)] at hq3
            omega
          · rw [d4, nI_leI (by omega) (by omega)]; exact a
      have bwd : ¬ sltW (mrg (tradeUC z c b m) (tradeU (su z 45 0 0) c b m)) (tn c) ns = 0 → ¬ slC z (tn (z 22 (tn c))) (tn (z 23 (tn c))) (z 0 0) (tn (z 24 (tn c))) = 0 := by
        intro q
        obtain ⟨k, hk, hk2⟩ := k1.mp q
        obtain ⟨⟨p1, p2, p3⟩, p4, p5⟩ := (hp k).mp hk2
        obtain ⟨-, ⟨cl, hcl, ecl⟩, ⟨e', he', ee'⟩⟩ := h8.2 k hk
        rw [ecl, s4, nI_leI (by omega) (by omega)] at p2
        rw [ecl, s4, s3, nI_add, nI_ltI (by omega) (by omega)] at p3
        refine k2.mpr ⟨cl - tn (z 23 (tn c)), by omega, ?_⟩
        rw [show tn (z 23 (tn c)) + (cl - tn (z 23 (tn c))) = cl by omega]
        rcases h8.1 (tn (z 22 (tn c))) cl lo hcl with ⟨-, a⟩ | ⟨e, a, b', -, d⟩
        · exact absurd ⟨p1, ecl⟩ (a k hk)
        · obtain ⟨f, hf, ef⟩ := d k hk p1 ecl
          rw [ef, sb_le (by omega) (by decide) (by omega)] at p4
          rw [b', h0]
          refine ⟨nI_neg1 (by omega), ?_⟩
          rw [show (30 : Int32) = nI 30 from rfl, sb_le (by omega) (by omega) (by decide)]
          omega
      exact ⟨fun a => Classical.byContradiction fun a2 => bwd a2 a, fun a => Classical.byContradiction fun a2 => fwd a2 a⟩
    · rw [upd_ne e] at h32 ⊢
      rw [sltW_cg (z := z) (z' := mrg (tradeUC z c b m) (tradeU (su z 45 0 0) c b m)) (c := i) ⟨rfl, rfl, rfl, upd_ne e, rfl, rfl, upd_ne e⟩]
      exact h9 i hi' h32

theorem e02c {P Q Q' : Prop} [Decidable P] [Decidable Q] [Decidable Q'] (h : P → (Q ↔ Q')) : (if ¬ P then (1 : Int32) else if Q then 2 else 0) = (if ¬ P then 1 else if Q' then 2 else 0) := by
  by_cases h1 : P
  · rw [if_neg (not_not_intro h1), if_neg (not_not_intro h1)]
    by_cases h3 : Q
    · rw [if_pos h3, if_pos ((h h1).mp h3)]
    · rw [if_neg h3, if_neg (fun z => h3 ((h h1).mpr z))]
  · rw [if_pos h1, if_pos h1]
theorem k_suitE {z : SS} {nm nc nr nf ns dd cc : Nat} {c : Int32} (h : Iv z nm nc nr nf ns dd cc) : suitEC z c = suitE z ns c := by
  unfold suitEC suitE
  refine e02c (fun g1 => ?_)
  have hi := cl_lt g1 h.1.2.1.1 h.1.2.1.2
  rcases h.2.2.2.2.2.1 (tn c) hi with ⟨a, b⟩ | ⟨a, ⟨d, b, b2⟩, -⟩
  · rw [a, b]
  · have h5 := h.1.2.2.2.2.2.1.2
    have q : ¬ z 32 (tn c) = -1 := by rw [b]; exact nI_neg1 (by omega)
    exact ⟨fun x => x.elim (fun x => absurd x a) Or.inr, fun x => x.elim (fun x => absurd x q) Or.inr⟩
theorem k_suitU {z : SS} {nm nc nr nf ns dd cc : Nat} {c : Int32} (h : Iv z nm nc nr nf ns dd cc) (he : suitE z ns c = 0) : suitUC z c = suitU z ns c ∧ suitRC z c = suitR z ns c := by
  obtain ⟨g1, g2⟩ := e02 he
  have hi := cl_lt g1 h.1.2.1.1 h.1.2.1.2
  have h32 : ¬ z 32 (tn c) = -1 := fun e => g2 (Or.inl e)
  have h9 := h.2.2.2.2.2.2.2.2 (tn c) hi h32
  rcases h.2.2.2.2.2.1 (tn c) hi with ⟨a, -⟩ | ⟨-, -, b, -, e⟩
  · exact absurd a h32
  unfold suitUC suitU suitRC suitR
  rw [b, e]
  by_cases q : z 54 (tn c) = 0
  · rw [if_pos q, if_pos q, if_pos (h9.mp q), if_pos (h9.mp q)]
    exact ⟨rfl, rfl⟩
  · have q2 : ¬ sltW z (tn c) ns = 0 := fun x => q (h9.mpr x)
    rw [if_neg q, if_neg q, if_neg q2, if_neg q2]
    exact ⟨rfl, rfl⟩
theorem k_suit {z : SS} {nm nc nr nf ns dd cc : Nat} {c : Int32} (h : Iv z nm nc nr nf ns dd cc) (he : suitE z ns c = 0) : Nx (suitUC z c) (suitU (su z 45 0 0) ns c) nm nc nr (cc + 1) ∧ (suitU (su z 45 0 0) ns c) 45 0 = 0 := by
  rw [(k_suitU h he).1]
  obtain ⟨g1, g2⟩ := e02 he
  have hi := cl_lt g1 h.1.2.1.1 h.1.2.1.2
  obtain ⟨h1, h2, h3, h4, h5, h6, h7, h8, h9⟩ := h
  have hy : sltW (su z 45 0 0) (tn c) ns = sltW z (tn c) ns := sltW_cg (z := z) (z' := su z 45 0 0) (c := tn c) ⟨rfl, rfl, rfl, rfl, rfl, rfl, rfl⟩ ns
  unfold suitU
  rw [hy]
  by_cases q : sltW z (tn c) ns = 0
  · rw [if_pos q, if_pos q]
    exact ⟨⟨((Sim.rfl'.right (k := 45) (i := 0) (v := 0) rfl)).put _ _ _, nf, ns, dd, ⟨h1.cg (cc + 1) (by omega) rfl rfl rfl rfl rfl rfl rfl, V2.cg h2 rfl rfl rfl, h3.cg rfl rfl rfl rfl, h4.cg rfl rfl rfl, h5.cg rfl rfl, h6.cg rfl rfl rfl rfl rfl, ⟨h7.1, h7.2.1, fun i hi' => ⟨(upd_ne (i := tn c) (v := 1) (by omega)).trans (h7.2.2 i hi').1, (h7.2.2 i hi').2⟩⟩, h8.cg rfl rfl rfl rfl, h9.cg rfl rfl rfl rfl rfl rfl rfl rfl⟩⟩, rfl⟩
  · rw [if_neg q, if_neg q]
    exact ⟨⟨((((Sim.rfl'.right (k := 45) (i := 0) (v := 0) rfl)).put _ _ _).put _ _ _).put _ _ _, nf, ns, dd, ⟨h1.cg (cc + 1) (by omega) rfl rfl rfl rfl rfl rfl rfl, V2.cg h2 rfl rfl rfl, h3.cg rfl rfl rfl rfl, h4.cg rfl rfl rfl, h5.cg rfl rfl, h6.cg rfl rfl rfl rfl rfl, ⟨h7.1, h7.2.1, fun i hi' => ⟨(upd_ne (i := tn c) (v := 1) (by omega)).trans (h7.2.2 i hi').1, (h7.2.2 i hi').2⟩⟩, h8.cg rfl rfl rfl rfl, h9.cg rfl rfl rfl rfl rfl rfl rfl rfl⟩⟩, rfl⟩
