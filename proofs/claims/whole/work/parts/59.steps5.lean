theorem nI_neg1 {n : Nat} (h : n < 2 ^ 31) : ¬ nI n = -1 := fun e => absurd (nI_pos h) (by rw [e]; decide)
theorem sb_le {a b e : Nat} (ha : a < 2 ^ 30) (hb : b < 2 ^ 30) (he : e < 2 ^ 31) : nI a - nI b ≤ nI e ↔ a ≤ e + b := by
  rw [Int32.le_iff_toInt_le, pk_sub_toInt ha hb, nI_toInt he]
  omega
theorem Sim.spW {s t : SS} (h : Sim s t) {x c : Int32} (n : Nat) : Sim (spW s x c n) t := fun k q => by
  rw [spW_o (fun e => by subst e; cases q)]
  exact h k q
theorem salt_S {z : SS} {nm nc nr nf ns dd cc : Nat} {x c m : Int32} (hc : (0 : Int32) ≤ c ∧ c ≤ 39) : saltUC z nc x c m = spW (su (su (su (su z 13 (tn x) (z 13 (tn x) - m)) 9 (tn c) (z 9 (tn c) + m)) 8 0 1) 52 (40 * tn x + tn c) (z 0 0)) x c nc := by
  unfold saltUC dropF
  rw [if_pos hc]
  rfl
theorem k_saltR {z : SS} {nm nc nr nf ns dd cc : Nat} {x c m : Int32} (he : saltE z ns x c m = 0) : grF (saltUC z nc x c m) c = saltR z ns x c m := by
  obtain ⟨⟨g1, g2⟩, -, -⟩ := e3 he
  rw [salt_S (nm := nm) (nr := nr) (nf := nf) (ns := ns) (dd := dd) (cc := cc) g2]
  unfold grF
  rw [if_pos g2, spW_o (by decide)]
  exact upd_at
theorem k_salt {z : SS} {nm nc nr nf ns dd cc : Nat} {x c m : Int32} (h : Iv z nm nc nr nf ns dd cc) (he : saltE z ns x c m = 0) : Nx (saltUC z nc x c m) (saltU (su z 45 0 0) ns x c m) nm nc nr (cc + 1) ∧ (saltU (su z 45 0 0) ns x c m) 45 0 = 0 := by
  obtain ⟨⟨g1, g2⟩, g3, g4⟩ := e3 he
  have hx := mi_lt g1 h.1.1.1 h.1.1.2
  have ex : x = nI (tn x) := in_nI (vp_cnt (N := nm) g1 h.1.1.1 (Nat.le_refl _) (by have := h.1.1.2; omega)) (by have := h.1.1.2; omega)
  obtain ⟨c40, ec⟩ := ce_lt g2
  obtain ⟨h1, h2, h3, h4, h5, h6, h7, h8, h9⟩ := h
  obtain ⟨h0, h5000⟩ := h1.2.2.2.2.2.1
  have hn12 := h1.1.2
  have hS := salt_S (nm := nm) (nr := nr) (nf := nf) (ns := ns) (dd := dd) (cc := cc) (z := z) (nc := nc) (x := x) (m := m) g2
  have ms : ∀ k, 46 ≤ k → k ≠ 54 → mrg (saltUC z nc x c m) (saltU (su z 45 0 0) ns x c m) k = (su (su (su (su z 13 (tn x) (z 13 (tn x) - m)) 9 (tn c) (z 9 (tn c) + m)) 8 0 1) 52 (40 * tn x + tn c) (z 0 0)) k := fun k hk h54 => (mrg_s hk).trans (by rw [hS]; exact spW_o h54 _)
  have e54 : ∀ i, i < nc → mrg (saltUC z nc x c m) (saltU (su z 45 0 0) ns x c m) 54 i = if z 53 i = x ∧ z 32 i = z 0 0 ∧ (z 23 i ≤ c ∧ c < z 23 i + z 24 i) then 1 else z 54 i := fun i hi => by
    rw [mrg_s (by decide), hS]
    exact (spW_54 (z := (su (su (su (su z 13 (tn x) (z 13 (tn x) - m)) 9 (tn c) (z 9 (tn c) + m)) 8 0 1) 52 (40 * tn x + tn c) (z 0 0))) nc).1 hi
  have e52 : ∀ j, mrg (saltUC z nc x c m) (saltU (su z 45 0 0) ns x c m) 52 j = upd (z 52) (40 * tn x + tn c) (z 0 0) j := fun j => by rw [ms 52 (by decide) (by decide)]; rfl
  refine ⟨⟨?_, nf, ns + 1, dd, ⟨?_, V2.cg h2 rfl rfl rfl, h3.cg rfl rfl (ms 50 (by decide) (by decide)) (ms 51 (by decide) (by decide)), h4.cg rfl rfl rfl, h5.cg rfl rfl, h6.cg rfl rfl rfl rfl (ms 53 (by decide) (by decide)), h7.cg (V7t rfl hx) (fun _ _ => rfl) (fun _ _ => rfl) rfl rfl rfl, ⟨?_, ?_⟩, ?_⟩⟩, rfl⟩
  · rw [hS]
    exact Sim.spW (Sim.left (Sim.put (Sim.right (Sim.right (Sim.right (Sim.right (Sim.put (Sim.put (Sim.rfl'.right (k := 45) (i := 0) (v := 0) rfl) 13 (tn x) (z 13 (tn x) - m)) 9 (tn c) (z 9 (tn c) + m)) (k := 40) (i := ns) (v := x) rfl) (k := 41) (i := ns) (v := c) rfl) (k := 42) (i := ns) (v := z 0 0) rfl) (k := 39) (i := 0) (v := nI (ns + 1)) rfl) 8 0 1) rfl) nc
  · exact ⟨h1.1, h1.2.1, h1.2.2.1, h1.2.2.2.1, ⟨rfl, by have := h1.2.2.2.2.1.2; omega⟩, h1.2.2.2.2.2.1, h1.2.2.2.2.2.2⟩
  · intro i q hi hq
    by_cases e : i = tn x ∧ q = tn c
    · refine Or.inr ⟨dd, Nat.le_refl _, ?_, ⟨ns, by omega, ?_, ?_, ?_⟩, fun k hk a b => ?_⟩
      · rw [e52, e.1, e.2, upd_at]; exact h0
      · show upd (z 40) ns x ns = nI i
        rw [upd_at, e.1]; exact ex
      · show upd (z 41) ns c ns = nI q
        rw [upd_at, e.2]; exact ec
      · show upd (z 42) ns (z 0 0) ns = nI dd
        rw [upd_at]; exact h0
      · show ∃ e, e ≤ dd ∧ upd (z 42) ns (z 0 0) k = nI e
        by_cases ek : k = ns
        · rw [ek, upd_at]; exact ⟨dd, Nat.le_refl _, h0⟩
        · rw [upd_ne ek]; exact (h8.2 k (by omega)).2.2
    · have e9 : mrg (saltUC z nc x c m) (saltU (su z 45 0 0) ns x c m) 52 (40 * i + q) = z 52 (40 * i + q) := by
        rw [e52]; exact upd_ne (by omega)
      rcases h8.1 i q hi hq with ⟨a, b⟩ | ⟨d, a, b, ⟨k, k1, k2, k3, k4⟩, c'⟩
      · refine Or.inl ⟨e9.trans a, fun k hk hh => ?_⟩
        have p1 : upd (z 40) ns x k = nI i := hh.1
        have p2 : upd (z 41) ns c k = nI q := hh.2
        by_cases ek : k = ns
        · rw [ek, upd_at] at p1 p2
          rw [ex, nI_eq (by omega) (by omega)] at p1
          rw [ec, nI_eq (by omega) (by omega)] at p2
          exact e ⟨p1.symm, p2.symm⟩
        · rw [upd_ne ek] at p1 p2
          exact b k (by omega) ⟨p1, p2⟩
      · refine Or.inr ⟨d, a, e9.trans b, ⟨k, by omega, ?_, ?_, ?_⟩, fun k' hk' p1 p2 => ?_⟩
        · show upd (z 40) ns x k = nI i
          rw [upd_ne (by omega)]; exact k2
        · show upd (z 41) ns c k = nI q
          rw [upd_ne (by omega)]; exact k3
        · show upd (z 42) ns (z 0 0) k = nI d
          rw [upd_ne (by omega)]; exact k4
        · have p1 : upd (z 40) ns x k' = nI i := p1
          have p2 : upd (z 41) ns c k' = nI q := p2
          show ∃ e, e ≤ d ∧ upd (z 42) ns (z 0 0) k' = nI e
          by_cases ek : k' = ns
          · rw [ek, upd_at] at p1 p2
            rw [ex, nI_eq (by omega) (by omega)] at p1
            rw [ec, nI_eq (by omega) (by omega)] at p2
            exact absurd ⟨p1.symm, p2.symm⟩ e
          · rw [upd_ne ek] at p1 p2 ⊢
            exact c' k' (by omega) p1 p2
  · intro k hk
    show (∃ i, i < nm ∧ upd (z 40) ns x k = nI i) ∧ (∃ q, q < 40 ∧ upd (z 41) ns c k = nI q) ∧ ∃ d, d ≤ dd ∧ upd (z 42) ns (z 0 0) k = nI d
    by_cases ek : k = ns
    · rw [ek, upd_at, upd_at, upd_at]; exact ⟨⟨tn x, hx, ex⟩, ⟨tn c, c40, ec⟩, ⟨dd, Nat.le_refl _, h0⟩⟩
    · rw [upd_ne ek, upd_ne ek, upd_ne ek]; exact h8.2 k (by omega)
  · intro i hi h32
    have h32 : ¬ z 32 i = -1 := h32
    rcases h6 i hi with ⟨a, -⟩ | ⟨-, ⟨d, a, b⟩, e53, -, -⟩
    · exact absurd a h32
    obtain ⟨s1, s2, s3, s4, s5⟩ := h4.1 i hi
    have hcv := cov_iff (x := c) s4 s3 s1 s5
    have k1 := (sltW_iff (z := mrg (saltUC z nc x c m) (saltU (su z 45 0 0) ns x c m)) (c := i) (ns + 1)).2
    have k2 := (sltW_iff (z := z) (c := i) ns).2
    have hold : ∀ k, k < ns → (sltP (mrg (saltUC z nc x c m) (saltU (su z 45 0 0) ns x c m)) i k ↔ sltP z i k) := fun k hk => by
      show ((upd (z 40) ns x k = z 29 i ∧ (z 23 i ≤ upd (z 41) ns c k ∧ upd (z 41) ns c k ≤ z 23 i + z 24 i - 1)) ∧ (z 32 i - 30 ≤ upd (z 42) ns (z 0 0) k ∧ upd (z 42) ns (z 0 0) k ≤ z 32 i)) ↔ _
      rw [upd_ne (by omega), upd_ne (by omega), upd_ne (by omega)]
      exact Iff.rfl
    have hnew : sltP (mrg (saltUC z nc x c m) (saltU (su z 45 0 0) ns x c m)) i ns ↔ (z 53 i = x ∧ z 32 i = z 0 0 ∧ (z 23 i ≤ c ∧ c < z 23 i + z 24 i)) := by
      show ((upd (z 40) ns x ns = z 29 i ∧ (z 23 i ≤ upd (z 41) ns c ns ∧ upd (z 41) ns c ns ≤ z 23 i + z 24 i - 1)) ∧ (z 32 i - 30 ≤ upd (z 42) ns (z 0 0) ns ∧ upd (z 42) ns (z 0 0) ns ≤ z 32 i)) ↔ _
      rw [upd_at, upd_at, upd_at, hcv, e53, a, h0, nI_leI (by omega) (by omega), nI_eq (by omega) (by omega), show (30 : Int32) = nI 30 from rfl, sb_le (by omega) (by decide) (by omega)]
      constructor
      · rintro ⟨⟨q1, q2⟩, q3, q4⟩
        exact ⟨q1.symm, by omega, q2⟩
      · rintro ⟨q1, q2, q3⟩
        exact ⟨⟨q1.symm, q3⟩, by omega, by omega⟩
    rw [e54 i hi]
    have hz := h9 i hi h32
    by_cases q : z 53 i = x ∧ z 32 i = z 0 0 ∧ (z 23 i ≤ c ∧ c < z 23 i + z 24 i)
    · rw [if_pos q]
      exact ⟨fun e => absurd e (by decide), fun e => absurd e (k1.mpr ⟨ns, by omega, hnew.mpr q⟩)⟩
    · rw [if_neg q, hz]
      constructor
      · intro e
        refine Classical.byContradiction fun e2 => ?_
        obtain ⟨k, hk, hp⟩ := k1.mp e2
        by_cases ek : k = ns
        · rw [ek] at hp; exact q (hnew.mp hp)
        · exact k2.mpr ⟨k, by omega, (hold k (by omega)).mp hp⟩ e
      · intro e
        refine Classical.byContradiction fun e2 => ?_
        obtain ⟨k, hk, hp⟩ := k2.mp e2
        exact k1.mpr ⟨k, by omega, (hold k hk).mpr hp⟩ e
