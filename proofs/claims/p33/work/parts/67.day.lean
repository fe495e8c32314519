/-! a day, in numbers -/
theorem K9.cg {s z t : SS} {nm nc nr k k1 : Nat} (h : K9 s t nm nc nr k) (hk : k ≤ k1) (et : tot z nm = tot s nm) (e8 : z 8 = s 8) (e19 : z 19 = s 19) (e31 : z 31 = s 31) (e53 : z 53 = s 53) (e34 : z 34 = s 34) (e35 : z 35 = s 35) (e17 : ∀ i, i < nm → s 17 i = 0 → z 17 i = 0) : K9 z t nm nc nr k1 := by
  obtain ⟨⟨a, b, c, d, e, p, hp, hp2⟩, h1, h2, h3, h4⟩ := h
  unfold K9 T0 T1 T2 T3 T4
  rw [et, e8, e19, e31, e53, e34, e35]
  exact ⟨⟨a, b, c, d, e, p, hp, by omega⟩, h1, h2, fun i hi => ⟨(h3 i hi).1, (h3 i hi).2.1, fun z => e17 i hi ((h3 i hi).2.2 z)⟩, h4⟩
section DY
variable {s : SS} {nm nc nr k : Nat}
theorem mn_10 : ∀ h, h < 11 → (minF 10 (nI h + 1) = nI (tn (minF 10 (nI h + 1))) ∧ tn (minF 10 (nI h + 1)) ≤ 10) ∧ (maxF 0 (nI h - 2) = nI (tn (maxF 0 (nI h - 2))) ∧ tn (maxF 0 (nI h - 2)) ≤ 10) := by decide
theorem eat_n {z : SS} {j : Nat} (h15 : Nn (z 15 j)) (h17 : Nn (z 17 j)) (h10 : tn (z 17 j) ≤ 10) : (Nn (eatC z j 15 j) ∧ tn (eatC z j 15 j) ≤ tn (z 15 j)) ∧ (Nn (eatC z j 17 j) ∧ tn (eatC z j 17 j) ≤ 10) ∧ (z 17 j = 0 → eatC z j 17 j = 0) := by
  unfold eatC
  obtain ⟨m1, m2⟩ := mn_10 (tn (z 17 j)) (by omega)
  rw [← h17.e] at m1 m2
  by_cases c : z 17 j = 0
  · rw [if_pos c]
    exact ⟨⟨h15, Nat.le_refl _⟩, ⟨h17, h10⟩, id⟩
  · rw [if_neg c]
    by_cases c2 : 0 < z 15 j
    · rw [if_pos c2]
      have h1 : 1 ≤ tn (z 15 j) := by
        have := (Nn.z.lt h15).mp c2
        rw [tn_0] at this
        omega
      have hs := h15.sub (y := 1) (by unfold Nn; decide) h1
      refine ⟨?_, ?_, fun z => absurd z c⟩
      · rw [su_o (by decide), su_a]
        exact ⟨hs.1, by omega⟩
      · rw [su_a]
        exact m1
    · rw [if_neg c2]
      refine ⟨?_, ?_, fun z => absurd z c⟩
      · rw [su_o (by decide)]
        exact ⟨h15, Nat.le_refl _⟩
      · rw [su_a]
        exact m2
theorem eat_b {z : SS} {j i : Nat} (h : i ≠ j) : eatC z j 15 i = z 15 i ∧ eatC z j 17 i = z 17 i := by
  unfold eatC
  split
  · exact ⟨rfl, rfl⟩
  · split
    · exact ⟨by rw [su_o (by decide), su_b h], by rw [su_b h, su_o (by decide)]⟩
    · exact ⟨by rw [su_o (by decide)], by rw [su_b h]⟩
theorem la_n (hh : ∀ i, i < nm → Nn (s 15 i) ∧ Nn (s 17 i) ∧ tn (s 17 i) ≤ 10) : ∀ m, m ≤ nm → (∀ i, i < m → (Nn (laW s m 15 i) ∧ tn (laW s m 15 i) ≤ tn (s 15 i)) ∧ (Nn (laW s m 17 i) ∧ tn (laW s m 17 i) ≤ 10) ∧ (s 17 i = 0 → laW s m 17 i = 0)) ∧ ∀ i, m ≤ i → laW s m 15 i = s 15 i ∧ laW s m 17 i = s 17 i
  | 0, _ => ⟨fun i hi => absurd hi (Nat.not_lt_zero i), fun i _ => ⟨rfl, rfl⟩⟩
  | m + 1, hm => by
    obtain ⟨h1, h2⟩ := la_n hh m (by omega)
    obtain ⟨a1, a2⟩ := h2 m (Nat.le_refl m)
    obtain ⟨b1, b2, b3⟩ := hh m (by omega)
    have he := eat_n (z := laW s m) (j := m) (by rw [a1]; exact b1) (by rw [a2]; exact b2) (by rw [a2]; exact b3)
    rw [a1, a2] at he
    refine ⟨fun i hi => ?_, fun i hi => ?_⟩
    · by_cases c : i = m
      · subst c; exact he
      · have hb := eat_b (z := laW s m) (j := m) c
        show (Nn (eatC (laW s m) m 15 i) ∧ tn (eatC (laW s m) m 15 i) ≤ tn (s 15 i)) ∧ (Nn (eatC (laW s m) m 17 i) ∧ tn (eatC (laW s m) m 17 i) ≤ 10) ∧ (s 17 i = 0 → eatC (laW s m) m 17 i = 0)
        rw [hb.1, hb.2]
        exact h1 i (by omega)
    · have hb := eat_b (z := laW s m) (j := m) (show i ≠ m by omega)
      have h3 := h2 i (by omega)
      exact ⟨hb.1.trans h3.1, hb.2.trans h3.2⟩
theorem ul_n {d : Int32} (h5 : Nn (s 5 0)) (h50 : ∀ i, i < 20 → Nn (s 50 i)) (hb : tn (s 5 0) + SN (s 50) 20 < 2 ^ 31) : ∀ n, n ≤ 20 → Nn (ulW s d n 5 0) ∧ (∀ i, i < 20 → Nn (ulW s d n 50 i)) ∧ tn (ulW s d n 5 0) + SN (ulW s d n 50) 20 = tn (s 5 0) + SN (s 50) 20
  | 0, _ => ⟨h5, h50, rfl⟩
  | n + 1, hn => by
    obtain ⟨a, b, c⟩ := ul_n (d := d) h5 h50 hb n (by omega)
    unfold ulW
    by_cases q : 0 < ulW s d n 50 n ∧ s 51 n = d
    · rw [if_pos q]
      have h1 := SN_le (f := ulW s d n 50) 20 (show n < 20 by omega)
      have h2 := a.add (b n (by omega)) (by omega)
      have h3 := SN_u (f := ulW s d n 50) (v := 0) 20 (show n < 20 by omega)
      rw [tn_0] at h3
      refine ⟨?_, fun i hi => ?_, ?_⟩
      · rw [su_o (by decide), su_a]; exact h2.1
      · by_cases e : i = n
        · subst e; rw [su_a]; exact Nn.z
        · rw [su_b e, su_o (by decide)]; exact b i hi
      · rw [su_o (k' := 5) (by decide), su_a, su_s, su_o (by decide)]
        omega
    · rw [if_neg q]
      exact ⟨a, b, c⟩
theorem fd_1 : ∀ b, b < 101 → maxF 0 (nI b - nI b / 10 - 1) = nI (tn (maxF 0 (nI b - nI b / 10 - 1))) ∧ (b = 0 → tn (maxF 0 (nI b - nI b / 10 - 1)) = 0) ∧ (0 < b → tn (maxF 0 (nI b - nI b / 10 - 1)) < b) := by decide +kernel
theorem fd_n (h : ∀ c, c < 40 → Nn (s 11 c) ∧ tn (s 11 c) ≤ 100) : ∀ n, n ≤ 40 → (∀ c, c < n → Nn (fdV s n 11 c) ∧ (tn (s 11 c) = 0 → tn (fdV s n 11 c) = 0) ∧ (0 < tn (s 11 c) → tn (fdV s n 11 c) < tn (s 11 c))) ∧ ∀ c, n ≤ c → fdV s n 11 c = s 11 c
  | 0, _ => ⟨fun i hi => absurd hi (Nat.not_lt_zero i), fun i _ => rfl⟩
  | n + 1, hn => by
    obtain ⟨a, b⟩ := fd_n h n (by omega)
    have e := b n (Nat.le_refl n)
    obtain ⟨c1, c2⟩ := h n (by omega)
    have hf := fd_1 (tn (s 11 n)) (by omega)
    rw [← c1.e] at hf
    refine ⟨fun c hc => ?_, fun c hc => ?_⟩
    · show Nn (su (fdV s n) 11 n (maxF 0 (fdV s n 11 n - fdV s n 11 n / 10 - 1)) 11 c) ∧ (tn (s 11 c) = 0 → tn (su (fdV s n) 11 n (maxF 0 (fdV s n 11 n - fdV s n 11 n / 10 - 1)) 11 c) = 0) ∧ (0 < tn (s 11 c) → tn (su (fdV s n) 11 n (maxF 0 (fdV s n 11 n - fdV s n 11 n / 10 - 1)) 11 c) < tn (s 11 c))
      by_cases q : c = n
      · subst q
        rw [su_a, e]
        exact hf
      · rw [su_b q]
        exact a c (by omega)
    · exact (su_b (by omega)).trans (b c (by omega))
theorem lp_n : ∀ n, (∀ i, i < n → lpW s n 25 i = if s 17 (tn (s 22 i)) = 0 ∨ s 27 i < s 0 0 - s 26 i then 0 else s 25 i) ∧ ∀ i, n ≤ i → lpW s n 25 i = s 25 i
  | 0 => ⟨fun i hi => absurd hi (Nat.not_lt_zero i), fun i _ => rfl⟩
  | n + 1 => by
    obtain ⟨a, b⟩ := lp_n n
    have e : lpW s (n + 1) 25 = fun i => if i = n then (if s 17 (tn (s 22 n)) = 0 ∨ s 27 n < s 0 0 - s 26 n then 0 else s 25 n) else lpW s n 25 i := by
      funext i
      show lpF (lpW s n) n 25 i = _
      unfold lpF
      rw [lpW_o (by decide), lpW_o (by decide), lpW_o (by decide), lpW_o (by decide), lpW_o (by decide)]
      by_cases q : s 17 (tn (s 22 n)) = 0 ∨ s 27 n < s 0 0 - s 26 n
      · rw [if_pos q, if_pos q]
        by_cases c : i = n
        · subst c; rw [su_a, if_pos rfl]
        · rw [su_b c, if_neg c]
      · rw [if_neg q, if_neg q]
        by_cases c : i = n
        · subst c; rw [if_pos rfl]; exact b i (Nat.le_refl i)
        · rw [if_neg c]
    rw [e]
    refine ⟨fun i hi => ?_, fun i hi => ?_⟩
    · by_cases c : i = n
      · subst c; exact if_pos rfl
      · exact (if_neg c).trans (a i (by omega))
    · exact (if_neg (by omega)).trans (b i (by omega))
theorem day_js (hJ : Js s nm nc nr k) (hk : k ≤ 131) (hd : tn (s 0 0) + 1 ≤ 5000) : Js (dayC s nm nc) nm nc nr k ∧ tn (dayC s nm nc 0 0) = tn (s 0 0) + 1 ∧ (∀ c, c < 40 → (tn (s 11 c) = 0 → tn (dayC s nm nc 11 c) = 0) ∧ (0 < tn (s 11 c) → tn (dayC s nm nc 11 c) < tn (s 11 c))) ∧ (∀ i, i < nc → tn (dayC s nm nc 25 i) ≤ tn (s 25 i)) ∧ ∀ i, i < nm → s 17 i = 0 → dayC s nm nc 17 i = 0 := by
  obtain ⟨h0, h1, h2, h3, h4, h5, h6, h7, h8⟩ := hJ
  have hl := la_n (s := su s 0 0 (s 0 0 + 1)) (nm := nm) (fun i hi => ⟨(h4.1 i hi).2.1.1, (h4.1 i hi).2.2.2.1⟩) nm (Nat.le_refl _)
  have ho := fun {q : Nat} (q0 : q ≠ 0) (q15 : q ≠ 15) (q17 : q ≠ 17) => (laW_o (z := su s 0 0 (s 0 0 + 1)) (k := q) q15 q17 nm).trans (su_o q0)
  generalize ha : laW (su s 0 0 (s 0 0 + 1)) nm = a at hl ho
  have hu := ul_n (s := a) (d := s 0 0 + 1) (by rw [ho (by decide) (by decide) (by decide)]; exact h1.1) (by rw [ho (by decide) (by decide) (by decide)]; exact h1.2.1) (by rw [ho (by decide) (by decide) (by decide), ho (by decide) (by decide) (by decide)]; have := h1.2.2; omega) 20 (Nat.le_refl _)
  rw [ho (q := 5) (by decide) (by decide) (by decide), ho (q := 50) (by decide) (by decide) (by decide)] at hu
  have hf := fd_n (s := ulW a (s 0 0 + 1) 20) (by rw [ulW_o (by decide) (by decide), ho (by decide) (by decide) (by decide)]; exact h3) 40 (Nat.le_refl _)
  rw [ulW_o (by decide) (by decide), ho (q := 11) (by decide) (by decide) (by decide)] at hf
  have hp := lp_n (s := fdV (ulW a (s 0 0 + 1) 20) 40) nc
  have e0 : a 0 = upd (s 0) 0 (s 0 0 + 1) := by rw [← ha, laW_o (by decide) (by decide)]; exact su_s
  have f_ : ∀ {q : Nat}, q ≠ 11 → q ≠ 5 → q ≠ 50 → fdV (ulW a (s 0 0 + 1) 20) 40 q = a q := fun {q} q1 q2 q3 => (fdV_o q1 40).trans (ulW_o q2 q3 20)
  have d_ : ∀ {q : Nat}, q ≠ 25 → dayC s nm nc q = fdV (ulW a (s 0 0 + 1) 20) 40 q := fun {q} q1 => by
    unfold dayC
    rw [ha]
    exact lpW_o q1 nc
  have d25 : dayC s nm nc 25 = lpW (fdV (ulW a (s 0 0 + 1) 20) 40) nc 25 := by unfold dayC; rw [ha]
  have dd0 : dayC s nm nc 0 = upd (s 0) 0 (s 0 0 + 1) := by rw [d_ (by decide), f_ (by decide) (by decide) (by decide), e0]
  have dd00 : dayC s nm nc 0 0 = s 0 0 + 1 := by rw [dd0]; exact if_pos rfl
  have hday := h0.2.1.1.add (y := 1) (by unfold Nn; decide) (by have : tn (1 : Int32) = 1 := by decide
                                                                omega)
  have hone : tn (1 : Int32) = 1 := by decide
  rw [← dd00, hone] at hday
  have d17 : ∀ i, dayC s nm nc 17 i = a 17 i := fun i => by rw [d_ (by decide), f_ (by decide) (by decide) (by decide)]
  have d15 : ∀ i, dayC s nm nc 15 i = a 15 i := fun i => by rw [d_ (by decide), f_ (by decide) (by decide) (by decide)]
  have ho2 : ∀ {q : Nat}, q ≠ 0 → q ≠ 5 → q ≠ 11 → q ≠ 15 → q ≠ 17 → q ≠ 25 → q ≠ 50 → dayC s nm nc q = s q := fun q0 q5 q11 q15 q17 q25 q50 => dayC_o q0 q5 q11 q15 q17 q25 q50
  have o22 : dayC s nm nc 22 = s 22 := ho2 (by decide) (by decide) (by decide) (by decide) (by decide) (by decide) (by decide)
  have o23 : dayC s nm nc 23 = s 23 := ho2 (by decide) (by decide) (by decide) (by decide) (by decide) (by decide) (by decide)
  have o24 : dayC s nm nc 24 = s 24 := ho2 (by decide) (by decide) (by decide) (by decide) (by decide) (by decide) (by decide)
  have o26 : dayC s nm nc 26 = s 26 := ho2 (by decide) (by decide) (by decide) (by decide) (by decide) (by decide) (by decide)
  have o27 : dayC s nm nc 27 = s 27 := ho2 (by decide) (by decide) (by decide) (by decide) (by decide) (by decide) (by decide)
  have l25 : ∀ i, i < nc → dayC s nm nc 25 i = if a 17 (tn (s 22 i)) = 0 ∨ s 27 i < s 0 0 + 1 - s 26 i then 0 else s 25 i := fun i hi => by
    rw [d25, hp.1 i hi, f_ (by decide) (by decide) (by decide), f_ (by decide) (by decide) (by decide), f_ (by decide) (by decide) (by decide), f_ (by decide) (by decide) (by decide), f_ (by decide) (by decide) (by decide), f_ (by decide) (by decide) (by decide), ho (q := 22) (by decide) (by decide) (by decide), ho (q := 27) (by decide) (by decide) (by decide), ho (q := 26) (by decide) (by decide) (by decide), ho (q := 25) (by decide) (by decide) (by decide), e0]
    rfl
  have hcov : ∀ i c, i < nc → cov (dayC s nm nc) i c → cov s i c := fun i c hi h => by
    obtain ⟨q1, q2⟩ := h
    rw [o23, o24] at q2
    refine ⟨fun z => q1 ?_, q2⟩
    rw [l25 i hi, z]
    split <;> rfl
  refine ⟨⟨?_, ?_, ?_, ?_, ?_, ?_, ?_, ?_, ?_⟩, by omega, fun c hc => ?_, fun i hi => ?_, fun i hi hz => ?_⟩
  · obtain ⟨a1, a2, a3, a4, a5, a6, a7⟩ := h0
    unfold K0
    rw [ho2 (q := 1) (by decide) (by decide) (by decide) (by decide) (by decide) (by decide) (by decide), ho2 (q := 2) (by decide) (by decide) (by decide) (by decide) (by decide) (by decide) (by decide), ho2 (q := 3) (by decide) (by decide) (by decide) (by decide) (by decide) (by decide) (by decide), ho2 (q := 4) (by decide) (by decide) (by decide) (by decide) (by decide) (by decide) (by decide), ho2 (q := 12) (by decide) (by decide) (by decide) (by decide) (by decide) (by decide) (by decide), ho2 (q := 21) (by decide) (by decide) (by decide) (by decide) (by decide) (by decide) (by decide), ho2 (q := 33) (by decide) (by decide) (by decide) (by decide) (by decide) (by decide) (by decide)]
    exact ⟨a1, ⟨hday.1, by omega⟩, a3, a4, a5, a6, a7⟩
  · have u5 : dayC s nm nc 5 = ulW a (s 0 0 + 1) 20 5 := by rw [d_ (by decide), fdV_o (by decide)]
    have u50 : dayC s nm nc 50 = ulW a (s 0 0 + 1) 20 50 := by rw [d_ (by decide), fdV_o (by decide)]
    unfold K1
    rw [u5, u50]
    exact ⟨hu.1, hu.2.1, by rw [hu.2.2]; exact h1.2.2⟩
  · exact h2.cg (Nat.le_refl _) (ho2 (by decide) (by decide) (by decide) (by decide) (by decide) (by decide) (by decide)) (ho2 (by decide) (by decide) (by decide) (by decide) (by decide) (by decide) (by decide)) (ho2 (by decide) (by decide) (by decide) (by decide) (by decide) (by decide) (by decide)) (ho2 (by decide) (by decide) (by decide) (by decide) (by decide) (by decide) (by decide)) (ho2 (by decide) (by decide) (by decide) (by decide) (by decide) (by decide) (by decide))
  · intro c hc
    rw [d_ (by decide)]
    have q := hf.1 c hc
    have q2 := (h3 c hc).2
    refine ⟨q.1, ?_⟩
    by_cases z : tn (s 11 c) = 0
    · have := q.2.1 z; omega
    · have := q.2.2 (by omega); omega
  · refine ⟨fun i hi => ?_, ?_⟩
    · rw [d15, d17, ho2 (q := 14) (by decide) (by decide) (by decide) (by decide) (by decide) (by decide) (by decide), ho2 (q := 16) (by decide) (by decide) (by decide) (by decide) (by decide) (by decide) (by decide), ho2 (q := 18) (by decide) (by decide) (by decide) (by decide) (by decide) (by decide) (by decide)]
      obtain ⟨g1, g2, g3, g4, g5⟩ := h4.1 i hi
      obtain ⟨l1, l2, l3⟩ := hl.1 i hi
      have l1b : tn (a 15 i) ≤ tn (s 15 i) := l1.2
      exact ⟨g1, ⟨l1.1, by omega⟩, g3, l2, g5⟩
    · rw [ho2 (q := 16) (by decide) (by decide) (by decide) (by decide) (by decide) (by decide) (by decide)]
      exact h4.2
  · exact h5.cg (ho2 (by decide) (by decide) (by decide) (by decide) (by decide) (by decide) (by decide))
  · refine ⟨fun i hi => ?_, fun i j c hi hj ci cj => h6.2 i j c hi hj (hcov i c hi ci) (hcov j c hj cj)⟩
    obtain ⟨g1, g2, g3, g4, g5, g6⟩ := h6.1 i hi
    rw [o22, o23, o24, o26, o27]
    refine ⟨g1, g2, ⟨g3.1, by omega⟩, g4, ?_, fun hne => ?_⟩
    · rw [l25 i hi]
      split
      · exact Or.inl rfl
      · exact g5
    · rw [l25 i hi] at hne
      by_cases q : a 17 (tn (s 22 i)) = 0 ∨ s 27 i < s 0 0 + 1 - s 26 i
      · rw [if_pos q] at hne
        exact absurd rfl hne
      · rw [d17]
        refine ⟨fun z => q (Or.inl z), ?_⟩
        have hs := hday.1
        rw [dd00] at hs hday
        have hsub := hs.sub g3.1 (by omega)
        have h9 : ¬ tn (s 27 i) < tn (s 0 0 + 1 - s 26 i) := fun z => q (Or.inr ((g4.1.lt hsub.1).mpr z))
        rw [dd00]
        omega
  · exact h7.cg o22 (ho2 (by decide) (by decide) (by decide) (by decide) (by decide) (by decide) (by decide)) (ho2 (by decide) (by decide) (by decide) (by decide) (by decide) (by decide) (by decide))
  · exact h8.cg (ho2 (by decide) (by decide) (by decide) (by decide) (by decide) (by decide) (by decide)) (ho2 (by decide) (by decide) (by decide) (by decide) (by decide) (by decide) (by decide))
  · rw [d_ (by decide)]
    exact (hf.1 c hc).2
  · rw [l25 i hi]
    split
    · rw [tn_0]; omega
    · exact Nat.le_refl _
  · rw [d17]
    exact (hl.1 i hi).2.2 hz
theorem pass_js (hJ : Js s nm nc nr k) (hk : k ≤ 131) : ∀ n, tn (s 0 0) + n ≤ 5000 → Js (psC s nm nc n) nm nc nr k ∧ tn (psC s nm nc n 0 0) = tn (s 0 0) + n ∧ (∀ c, c < 40 → (tn (s 11 c) = 0 → tn (psC s nm nc n 11 c) = 0) ∧ (0 < tn (s 11 c) → tn (psC s nm nc n 11 c) + (if n = 0 then 0 else 1) ≤ tn (s 11 c))) ∧ (∀ i, i < nc → tn (psC s nm nc n 25 i) ≤ tn (s 25 i)) ∧ ∀ i, i < nm → s 17 i = 0 → psC s nm nc n 17 i = 0
  | 0, _ => ⟨hJ, rfl, fun c _ => ⟨id, fun _ => Nat.le_refl _⟩, fun i _ => Nat.le_refl _, fun i _ => id⟩
  | n + 1, hn => by
    obtain ⟨a, b, c, d, e⟩ := pass_js hJ hk n (by omega)
    obtain ⟨a', b', c', d', e'⟩ := day_js a hk (by omega)
    refine ⟨a', by show tn (dayC (psC s nm nc n) nm nc 0 0) = _; omega, fun q hq => ?_, fun i hi => Nat.le_trans (d' i hi) (d i hi), fun i hi hz => e' i hi (e i hi hz)⟩
    have h1 := c q hq
    have h2 := c' q hq
    refine ⟨fun z => h2.1 (h1.1 z), fun z => ?_⟩
    have h3 := h1.2 z
    rw [if_neg (by omega)]
    show tn (dayC (psC s nm nc n) nm nc 11 q) + 1 ≤ _
    by_cases w : tn (psC s nm nc n 11 q) = 0
    · have := h2.1 w; omega
    · have := h2.2 (by omega)
      split at h3 <;> omega
theorem K9.pass {t : SS} {n : Nat} (hJ : Js s nm nc nr k) (hk : k ≤ 131) (h : K9 s t nm nc nr k) (hn : tn (s 0 0) + n ≤ 5000) : K9 (psC s nm nc n) t nm nc nr k := by
  have o : ∀ {q : Nat}, q ≠ 0 → q ≠ 5 → q ≠ 11 → q ≠ 15 → q ≠ 17 → q ≠ 25 → q ≠ 50 → psC s nm nc n q = s q := fun q0 q5 q11 q15 q17 q25 q50 => psC_o q0 q5 q11 q15 q17 q25 q50 n
  exact h.cg (Nat.le_refl _) (tot_c (o (by decide) (by decide) (by decide) (by decide) (by decide) (by decide) (by decide)) (o (by decide) (by decide) (by decide) (by decide) (by decide) (by decide) (by decide)) (o (by decide) (by decide) (by decide) (by decide) (by decide) (by decide) (by decide)) (o (by decide) (by decide) (by decide) (by decide) (by decide) (by decide) (by decide))) (o (by decide) (by decide) (by decide) (by decide) (by decide) (by decide) (by decide)) (o (by decide) (by decide) (by decide) (by decide) (by decide) (by decide) (by decide)) (o (by decide) (by decide) (by decide) (by decide) (by decide) (by decide) (by decide)) (o (by decide) (by decide) (by decide) (by decide) (by decide) (by decide) (by decide)) (o (by decide) (by decide) (by decide) (by decide) (by decide) (by decide) (by decide)) (o (by decide) (by decide) (by decide) (by decide) (by decide) (by decide) (by decide)) (fun i hi hz => (pass_js hJ hk n hn).2.2.2.2 i hi hz)
end DY
