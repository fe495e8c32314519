/-! backers, trades, suits in numbers -/
section MV
variable {s t : SS} {nm nc nr k : Nat}
/-- coins go from one to another -/
theorem mv_n {f : Nat → Int32} {x y m : Nat} (hN : ∀ i, i < nm → Nn (f i)) (hb : SN f nm < 2 ^ 31) (hx : x < nm) (hy : y < nm) (hxy : ¬ x = y) (hm : m ≤ tn (f x)) : (∀ i, i < nm → Nn (upd (upd f x (f x - nI m)) y (upd f x (f x - nI m) y + nI m) i)) ∧ SN (upd (upd f x (f x - nI m)) y (upd f x (f x - nI m) y + nI m)) nm = SN f nm ∧ tn (upd (upd f x (f x - nI m)) y (upd f x (f x - nI m) y + nI m) x) = tn (f x) - m ∧ tn (upd (upd f x (f x - nI m)) y (upd f x (f x - nI m) y + nI m) y) = tn (f y) + m := by
  have l2 := SN_le2 (f := f) nm hx hy hxy
  have v1 : f x - nI m = nI (tn (f x) - m) := by rw [← pk_sub hm, ← (hN x hx).e]
  have v2 : f y + nI m = nI (tn (f y) + m) := by rw [← nI_add, ← (hN y hy).e]
  have f1 : tn (nI (tn (f x) - m)) = tn (f x) - m := tn_nI (by omega)
  have f2 : tn (nI (tn (f y) + m)) = tn (f y) + m := tn_nI (by omega)
  have e : upd f x (f x - nI m) y = f y := upd_b (fun h => hxy h.symm)
  have s1 := SN_put (f := f) hx f1
  have s2 := SN_put (f := upd f x (nI (tn (f x) - m))) hy f2
  rw [e, v1, v2]
  rw [v1] at e
  rw [e] at s2
  refine ⟨fun i hi => ?_, by omega, ?_, ?_⟩
  · by_cases q : i = y
    · rw [q, upd_a]
      exact Nn.of (by omega)
    · rw [upd_b q]
      by_cases q2 : i = x
      · rw [q2, upd_a]
        exact Nn.of (by omega)
      · rw [upd_b q2]
        exact hN i hi
  · rw [upd_b hxy, upd_a]; exact f1
  · rw [upd_a]; exact f2
theorem P_back (hJ : Js s nm nc nr k) (hT : K9 s t nm nc nr k) (hk : k ≤ 130) {x y p m : Nat} (hx : x < nm) (hy : y < nm) (hxy : ¬ x = y) (hp1 : 1 ≤ p) (hp : PS s y + p ≤ 100) (h0 : s 20 (12 * y + x) = 0) (hm : m ≤ tn (s 16 x)) : Js (backUC s (nI x) (nI y) (nI p) (nI m)) nm nc nr (k + 1) ∧ K9 (backUC s (nI x) (nI y) (nI p) (nI m)) t nm nc nr (k + 1) ∧ PS (backUC s (nI x) (nI y) (nI p) (nI m)) y = PS s y + p ∧ tn (backUC s (nI x) (nI y) (nI p) (nI m) 16 x) = tn (s 16 x) - m ∧ tn (backUC s (nI x) (nI y) (nI p) (nI m) 16 y) = tn (s 16 y) + m ∧ backUC s (nI x) (nI y) (nI p) (nI m) 20 (12 * y + x) = nI p := by
  have hJ0 := hJ
  obtain ⟨g0, h1, h2, h3, h4, h5, h6, h7, h8⟩ := hJ
  have h12 := g0.1
  have tx : tn (nI x) = x := tn_nI (by omega)
  have ty : tn (nI y) = y := tn_nI (by omega)
  obtain ⟨a1, a2, a3, a4⟩ := mv_n (f := s 16) (fun i hi => (hJ0.m16 hi).1) (by have := h4.2; omega) hx hy hxy hm
  have e20 : backUC s (nI x) (nI y) (nI p) (nI m) 20 = upd (s 20) (12 * y + x) (nI p) := by unfold backUC; rw [tx, ty]; rfl
  have e16 : backUC s (nI x) (nI y) (nI p) (nI m) 16 = upd (upd (s 16) x (s 16 x - nI m)) y (upd (s 16) x (s 16 x - nI m) y + nI m) := by unfold backUC; rw [tx, ty]; rfl
  have o : ∀ q : Nat, q ≠ 20 → q ≠ 16 → backUC s (nI x) (nI y) (nI p) (nI m) q = s q := fun q q20 q16 => by unfold backUC; rw [su_o q20, su_o q16, su_o q16]
  generalize backUC s (nI x) (nI y) (nI p) (nI m) = z at *
  have fp : tn (nI p) = p := tn_nI (by omega)
  have row : ∀ i b, b < 12 → z 20 (12 * i + b) = if i = y ∧ b = x then nI p else s 20 (12 * i + b) := fun i b hb => by
    rw [e20]
    by_cases q : i = y ∧ b = x
    · rw [if_pos q, q.1, q.2, upd_a]
    · rw [if_neg q, upd_b (by omega)]
  have rowy : SN (fun b => z 20 (12 * y + b)) 12 = SN (fun b => s 20 (12 * y + b)) 12 + p := by
    have e : SN (fun b => z 20 (12 * y + b)) 12 = SN (upd (fun b => s 20 (12 * y + b)) x (nI p)) 12 := SN_c 12 (fun b hb => by
      show z 20 (12 * y + b) = _
      rw [row y b hb]
      unfold upd
      by_cases q : b = x
      · rw [if_pos ⟨rfl, q⟩, if_pos q]
      · rw [if_neg (fun h => q h.2), if_neg q])
    have s1 := SN_put (f := fun b => s 20 (12 * y + b)) (i := x) (n := 12) (by omega) fp
    rw [h0, tn_0] at s1
    omega
  refine ⟨⟨g0.cg (o 0 (by decide) (by decide)) (o 1 (by decide) (by decide)) (o 2 (by decide) (by decide)) (o 3 (by decide) (by decide)) (o 4 (by decide) (by decide)) (by rw [o 12 (by decide) (by decide)]) (by rw [o 21 (by decide) (by decide)]) (by rw [o 33 (by decide) (by decide)]), h1.cg (by omega) (o 5 (by decide) (by decide)) (o 50 (by decide) (by decide)), h2.cg (by omega) (o 6 (by decide) (by decide)) (o 7 (by decide) (by decide)) (o 9 (by decide) (by decide)) (o 10 (by decide) (by decide)) (o 13 (by decide) (by decide)), h3.cg (o 11 (by decide) (by decide)), ?_, ?_, h6.cg (o 0 (by decide) (by decide)) (o 17 (by decide) (by decide)) (o 22 (by decide) (by decide)) (o 23 (by decide) (by decide)) (o 24 (by decide) (by decide)) (o 25 (by decide) (by decide)) (o 26 (by decide) (by decide)) (o 27 (by decide) (by decide)), h7.cg (o 22 (by decide) (by decide)) (o 31 (by decide) (by decide)) (o 53 (by decide) (by decide)), h8.cg (o 34 (by decide) (by decide)) (o 35 (by decide) (by decide))⟩, hT.cg (by omega) (tot_c (o 6 (by decide) (by decide)) (o 7 (by decide) (by decide)) (o 9 (by decide) (by decide)) (o 13 (by decide) (by decide))) (o 8 (by decide) (by decide)) (o 19 (by decide) (by decide)) (o 31 (by decide) (by decide)) (o 53 (by decide) (by decide)) (o 34 (by decide) (by decide)) (o 35 (by decide) (by decide)) (fun _ _ h => by rw [o 17 (by decide) (by decide)]; exact h), rowy, by rw [e16]; exact a3, by rw [e16]; exact a4, by rw [e20, upd_a]⟩
  · unfold K4
    rw [o 14 (by decide) (by decide), o 15 (by decide) (by decide), o 17 (by decide) (by decide), o 18 (by decide) (by decide), e16]
    refine ⟨fun i hi => ?_, by have := h4.2; omega⟩
    obtain ⟨g1, g2, g3, g4, g5⟩ := h4.1 i hi
    exact ⟨g1, ⟨g2.1, by have := g2.2; omega⟩, a1 i hi, g4, ⟨g5.1, by have := g5.2; omega⟩⟩
  · obtain ⟨p1, p2, p3, p4⟩ := h5
    refine ⟨fun i b hi hb => ?_, fun i hi => ?_, fun i hi => ?_, fun i b hi hb hb2 => ?_⟩
    · rw [row i b hb]
      split
      · exact Nn.of (by unfold PS at hp; omega)
      · exact p1 i b hi hb
    · by_cases q : i = y
      · rw [q, rowy]; exact hp
      · rw [SN_c (g := fun b => s 20 (12 * i + b)) 12 (fun b hb => by show z 20 (12 * i + b) = _; rw [row i b hb, if_neg (fun h => q h.1)])]
        exact p2 i hi
    · rw [row i i (by omega), if_neg (by omega)]
      exact p3 i hi
    · rw [row i b hb2, if_neg (by omega)]
      exact p4 i b hi hb hb2
theorem P_end (hJ : Js s nm nc nr k) (hT : K9 s t nm nc nr k) {x y : Nat} (hx : x < nm) (hy : y < nm) : Js (endU s (nI x) (nI y)) nm nc nr k ∧ K9 (endU s (nI x) (nI y)) t nm nc nr k ∧ PS (endU s (nI x) (nI y)) y + tn (s 20 (12 * y + x)) = PS s y ∧ endU s (nI x) (nI y) 20 (12 * y + x) = 0 := by
  have hJ0 := hJ
  obtain ⟨g0, h1, h2, h3, h4, h5, h6, h7, h8⟩ := hJ
  have h12 := g0.1
  have e20 : endU s (nI x) (nI y) 20 = upd (s 20) (12 * y + x) 0 := by unfold endU; rw [tn_nI (show x < 2 ^ 31 by omega), tn_nI (show y < 2 ^ 31 by omega)]; rfl
  have o : ∀ q : Nat, q ≠ 20 → endU s (nI x) (nI y) q = s q := fun q q20 => su_o q20
  generalize endU s (nI x) (nI y) = z at *
  have row : ∀ i b, b < 12 → z 20 (12 * i + b) = if i = y ∧ b = x then 0 else s 20 (12 * i + b) := fun i b hb => by
    rw [e20]
    by_cases q : i = y ∧ b = x
    · rw [if_pos q, q.1, q.2, upd_a]
    · rw [if_neg q, upd_b (by omega)]
  have rowy : SN (fun b => z 20 (12 * y + b)) 12 + tn (s 20 (12 * y + x)) = SN (fun b => s 20 (12 * y + b)) 12 := by
    have e : SN (fun b => z 20 (12 * y + b)) 12 = SN (upd (fun b => s 20 (12 * y + b)) x 0) 12 := SN_c 12 (fun b hb => by
      show z 20 (12 * y + b) = _
      rw [row y b hb]
      unfold upd
      by_cases q : b = x
      · rw [if_pos ⟨rfl, q⟩, if_pos q]
      · rw [if_neg (fun h => q h.2), if_neg q])
    have s1 := SN_put (f := fun b => s 20 (12 * y + b)) (i := x) (n := 12) (by omega) tn_0
    have s2 : tn ((fun b => s 20 (12 * y + b)) x) = tn (s 20 (12 * y + x)) := rfl
    omega
  refine ⟨⟨g0.cg (o 0 (by decide)) (o 1 (by decide)) (o 2 (by decide)) (o 3 (by decide)) (o 4 (by decide)) (by rw [o 12 (by decide)]) (by rw [o 21 (by decide)]) (by rw [o 33 (by decide)]), h1.cg (Nat.le_refl _) (o 5 (by decide)) (o 50 (by decide)), h2.cg (Nat.le_refl _) (o 6 (by decide)) (o 7 (by decide)) (o 9 (by decide)) (o 10 (by decide)) (o 13 (by decide)), h3.cg (o 11 (by decide)), h4.cg (Nat.le_refl _) (o 14 (by decide)) (o 15 (by decide)) (o 16 (by decide)) (o 17 (by decide)) (o 18 (by decide)), ?_, h6.cg (o 0 (by decide)) (o 17 (by decide)) (o 22 (by decide)) (o 23 (by decide)) (o 24 (by decide)) (o 25 (by decide)) (o 26 (by decide)) (o 27 (by decide)), h7.cg (o 22 (by decide)) (o 31 (by decide)) (o 53 (by decide)), h8.cg (o 34 (by decide)) (o 35 (by decide))⟩, hT.cg (Nat.le_refl _) (tot_c (o 6 (by decide)) (o 7 (by decide)) (o 9 (by decide)) (o 13 (by decide))) (o 8 (by decide)) (o 19 (by decide)) (o 31 (by decide)) (o 53 (by decide)) (o 34 (by decide)) (o 35 (by decide)) (fun _ _ h => by rw [o 17 (by decide)]; exact h), rowy, by rw [e20, upd_a]⟩
  obtain ⟨p1, p2, p3, p4⟩ := h5
  refine ⟨fun i b hi hb => ?_, fun i hi => ?_, fun i hi => ?_, fun i b hi hb hb2 => ?_⟩
  · rw [row i b hb]
    split
    · exact Nn.z
    · exact p1 i b hi hb
  · by_cases q : i = y
    · rw [q]
      have := p2 y hy
      omega
    · rw [SN_c (g := fun b => s 20 (12 * i + b)) 12 (fun b hb => by show z 20 (12 * i + b) = _; rw [row i b hb, if_neg (fun h => q h.1)])]
      exact p2 i hi
  · rw [row i i (by omega)]
    split
    · rfl
    · exact p3 i hi
  · rw [row i b hb2]
    split
    · rfl
    · exact p4 i b hi hb hb2
theorem P_trade (hJ : Js s nm nc nr k) (hT : K9 s t nm nc nr k) (hk : k ≤ 130) {c b m : Nat} (hc : c < nc) (hb : b < nm) (hbo : ¬ b = tn (s 22 c)) (hm1 : m ≤ 100000) (hm : m ≤ tn (s 16 b)) (hd : ¬ s 17 b = 0) (hh : ¬ s 25 c = 0) : Js (tradeUC s (nI c) (nI b) (nI m)) nm nc nr (k + 1) ∧ (∀ t1, t1 = su (su t 3 c (nI m)) 3 (30 + c) (nI (tn (s 22 c) + 1)) → K9 (tradeUC s (nI c) (nI b) (nI m)) t1 nm nc nr (k + 1)) ∧ tn (tradeUC s (nI c) (nI b) (nI m) 22 c) = b ∧ tn (tradeUC s (nI c) (nI b) (nI m) 26 c) = tn (s 26 c) ∧ tn (tradeUC s (nI c) (nI b) (nI m) 16 b) = tn (s 16 b) - m ∧ tn (tradeUC s (nI c) (nI b) (nI m) 16 (tn (s 22 c))) = tn (s 16 (tn (s 22 c))) + m ∧ heldC (tradeUC s (nI c) (nI b) (nI m)) (nI (tn (tradeUC s (nI c) (nI b) (nI m) 23 c))) nc = nI c := by
  have hJ0 := hJ
  obtain ⟨g0, h1, h2, h3, h4, h5, h6, h7, h8⟩ := hJ
  have h12 := g0.1
  have w := hJ0.c22 hc
  have tb : tn (nI b) = b := tn_nI (by omega)
  have tc : tn (nI c) = c := tn_nI (by omega)
  have tm : tn (nI m) = m := tn_nI (by omega)
  obtain ⟨a1, a2, a3, a4⟩ := mv_n (f := s 16) (fun i hi => (hJ0.m16 hi).1) (by have := h4.2; omega) hb w.2 hbo hm
  have e16 : tradeUC s (nI c) (nI b) (nI m) 16 = upd (upd (s 16) b (s 16 b - nI m)) (tn (s 22 c)) (upd (s 16) b (s 16 b - nI m) (tn (s 22 c)) + nI m) := by unfold tradeUC slT; rw [tc, tb]; rfl
  have e22 : tradeUC s (nI c) (nI b) (nI m) 22 = upd (s 22) c (nI b) := by unfold tradeUC slT; rw [tc]; rfl
  have e31 : tradeUC s (nI c) (nI b) (nI m) 31 = upd (s 31) c (nI m) := by unfold tradeUC slT; rw [tc]; rfl
  have e53 : tradeUC s (nI c) (nI b) (nI m) 53 = upd (s 53) c (s 22 c) := by unfold tradeUC slT; rw [tc]; rfl
  have o : ∀ q : Nat, q ≠ 16 → q ≠ 22 → q ≠ 31 → q ≠ 53 → q ≠ 32 → q ≠ 54 → q ≠ 28 → tradeUC s (nI c) (nI b) (nI m) q = s q := fun q q16 q22 q31 q53 q32 q54 q28 => by unfold tradeUC slT; rw [su_o q28, su_o q54, su_o q31, su_o q32, su_o q22, su_o q53, su_o q16, su_o q16]
  generalize tradeUC s (nI c) (nI b) (nI m) = z at *
  have O : ∀ q : Nat, (q ≠ 16 ∧ q ≠ 22 ∧ q ≠ 31 ∧ q ≠ 53 ∧ q ≠ 32 ∧ q ≠ 54 ∧ q ≠ 28) → z q = s q := fun q h => o q h.1 h.2.1 h.2.2.1 h.2.2.2.1 h.2.2.2.2.1 h.2.2.2.2.2.1 h.2.2.2.2.2.2
  have htot : tot z nm = tot s nm := tot_c (O 6 (by decide)) (O 7 (by decide)) (O 9 (by decide)) (O 13 (by decide))
  have k6 : K6 z nm nc := by
    unfold K6 cov
    rw [O 0 (by decide), O 17 (by decide), O 23 (by decide), O 24 (by decide), O 25 (by decide), O 26 (by decide), O 27 (by decide), e22]
    refine ⟨fun i hi => ?_, h6.2⟩
    obtain ⟨p1, p2, p3, p4, p5, p6⟩ := h6.1 i hi
    by_cases q : i = c
    · rw [q, upd_a, tb]
      rw [q] at p2 p3 p4 p5 p6
      exact ⟨⟨Nn.of (by omega), hb⟩, p2, p3, p4, p5, fun u => ⟨hd, (p6 u).2⟩⟩
    · rw [upd_b q]
      exact ⟨p1, p2, p3, p4, p5, p6⟩
  refine ⟨⟨g0.cg (O 0 (by decide)) (O 1 (by decide)) (O 2 (by decide)) (O 3 (by decide)) (O 4 (by decide)) (by rw [O 12 (by decide)]) (by rw [O 21 (by decide)]) (by rw [O 33 (by decide)]), h1.cg (by omega) (O 5 (by decide)) (O 50 (by decide)), h2.cg (by omega) (O 6 (by decide)) (O 7 (by decide)) (O 9 (by decide)) (O 10 (by decide)) (O 13 (by decide)), h3.cg (O 11 (by decide)), ?_, h5.cg (O 20 (by decide)), k6, ?_, h8.cg (O 34 (by decide)) (O 35 (by decide))⟩, fun t1 ht1 => ?_, by rw [e22, upd_a]; exact tb, by rw [O 26 (by decide)], by rw [e16]; exact a3, by rw [e16]; exact a4, ?_⟩
  · unfold K4
    rw [O 14 (by decide), O 15 (by decide), O 17 (by decide), O 18 (by decide), e16]
    refine ⟨fun i hi => ?_, by have := h4.2; omega⟩
    obtain ⟨g1, g2, g3, g4, g5⟩ := h4.1 i hi
    exact ⟨g1, ⟨g2.1, by have := g2.2; omega⟩, a1 i hi, g4, ⟨g5.1, by have := g5.2; omega⟩⟩
  · unfold K7
    rw [e22, e31, e53]
    intro i hi
    by_cases q : i = c
    · rw [q, upd_a, upd_a, upd_a, tb, tm]
      exact ⟨⟨tn (s 22 c) + 1, by omega, by rw [nI_prd (by omega), Nat.add_sub_cancel]; exact w.1.e, fun _ => by omega⟩, Nn.of (by omega), hm1⟩
    · rw [upd_b q, upd_b q, upd_b q]
      exact h7 i hi
  · subst ht1
    obtain ⟨⟨a, b', c1, d, e, p, hp, hp2⟩, t1, t2, t3, t4⟩ := hT
    have e3 : ∀ j, su (su t 3 c (nI m)) 3 (30 + c) (nI (tn (s 22 c) + 1)) 3 j = if j = 30 + c then nI (tn (s 22 c) + 1) else if j = c then nI m else t 3 j := fun j => by
      rw [su_s]
      unfold upd
      rw [su_s]
      rfl
    refine ⟨⟨a, b', c1, ?_, ⟨?_, ?_⟩, p, hp, by omega⟩, ?_, ?_, ?_, ⟨fun i hi => ?_, fun i hi hi2 => ?_⟩⟩
    · show t 0 3 = _
      rw [htot]; exact d
    · show t 0 4 = _
      rw [O 8 (by decide)]; exact e.1
    · rw [O 8 (by decide)]; exact e.2
    · unfold T1
      rw [O 34 (by decide), O 35 (by decide)]
      exact t1
    · unfold T2
      rw [O 19 (by decide)]
      exact t2
    · unfold T3
      rw [O 17 (by decide)]
      exact t3
    · rw [e3, e3, e31, e53, if_neg (show ¬ i = 30 + c by omega)]
      by_cases q : i = c
      · rw [q, if_pos rfl, if_pos rfl, upd_a, upd_a]
        refine ⟨rfl, ?_⟩
        rw [nI_succ, ← w.1.e]
      · rw [if_neg q, if_neg (by omega), if_neg (by omega), upd_b q, upd_b q]
        exact t4.1 i hi
    · rw [e3, e3, if_neg (by omega), if_neg (by omega), if_neg (by omega), if_neg (by omega)]
      exact t4.2 i hi hi2
  · have c3 := hJ0.c23 hc
    rw [show z 23 = s 23 from O 23 (by decide)]
    refine held_is (by omega) h12.2.1 k6 hc ?_
    unfold cov
    rw [O 23 (by decide), O 24 (by decide), O 25 (by decide)]
    exact ⟨hh, by omega, by omega⟩
theorem P_suit (hJ : Js s nm nc nr k) (hT : K9 s t nm nc nr k) (hk : k ≤ 130) {c : Nat} (hc : c < nc) (hsl : ¬ s 53 c = -1) : ∃ sl, sl < nm ∧ s 53 c = nI sl ∧ Js (suitUC s (nI c)) nm nc nr (k + 1) ∧ K9 (suitUC s (nI c)) t nm nc nr (k + 1) ∧ suitUC s (nI c) 28 c = 1 ∧ tn (suitUC s (nI c) 22 c) = tn (s 22 c) ∧ ((suitRC s (nI c) = -1 ∧ tn (suitUC s (nI c) 16 sl) = tn (s 16 sl)) ∨ ∃ m, suitRC s (nI c) = nI m ∧ m ≤ tn (s 31 c) ∧ m ≤ tn (s 16 sl) ∧ (m = tn (s 31 c) ∨ m = tn (s 16 sl)) ∧ tn (suitUC s (nI c) 16 sl) = tn (s 16 sl) - m) := by
  have hJ0 := hJ
  obtain ⟨g0, h1, h2, h3, h4, h5, h6, h7, h8⟩ := hJ
  have h12 := g0.1
  have w := hJ0.c22 hc
  have tc : tn (nI c) = c := tn_nI (by omega)
  obtain ⟨⟨q, q1, q2, q3⟩, n31, -⟩ := h7 c hc
  have q0 : 0 < q := by
    rcases Nat.eq_zero_or_pos q with z | z
    · subst z; exact absurd (q2.trans (by decide)) hsl
    · exact z
  have hso := q3 q0
  rw [nI_prd q0] at q2
  refine ⟨q - 1, by omega, q2, ?_⟩
  have tsl : tn (s 53 c) = q - 1 := by rw [q2]; exact tn_nI (by omega)
  have hsn : q - 1 < nm := by omega
  generalize q - 1 = sl at *
  have mn := min_n n31 (hJ0.m16 hsn).1
  have i1 : tn (s 31 c) = tn (s 31 c) := rfl
  have c0 : ∀ {z : SS}, (∀ q : Nat, (q ≠ 16 ∧ q ≠ 28) → z q = s q) → (∀ i, i < nm → Nn (z 16 i)) → SN (z 16) nm = SN (s 16) nm → Js z nm nc nr (k + 1) ∧ K9 z t nm nc nr (k + 1) := fun {z} O a1 a2 => by
    refine ⟨⟨g0.cg (O 0 (by decide)) (O 1 (by decide)) (O 2 (by decide)) (O 3 (by decide)) (O 4 (by decide)) (by rw [O 12 (by decide)]) (by rw [O 21 (by decide)]) (by rw [O 33 (by decide)]), h1.cg (by omega) (O 5 (by decide)) (O 50 (by decide)), h2.cg (by omega) (O 6 (by decide)) (O 7 (by decide)) (O 9 (by decide)) (O 10 (by decide)) (O 13 (by decide)), h3.cg (O 11 (by decide)), ?_, h5.cg (O 20 (by decide)), h6.cg (O 0 (by decide)) (O 17 (by decide)) (O 22 (by decide)) (O 23 (by decide)) (O 24 (by decide)) (O 25 (by decide)) (O 26 (by decide)) (O 27 (by decide)), h7.cg (O 22 (by decide)) (O 31 (by decide)) (O 53 (by decide)), h8.cg (O 34 (by decide)) (O 35 (by decide))⟩, hT.cg (by omega) (tot_c (O 6 (by decide)) (O 7 (by decide)) (O 9 (by decide)) (O 13 (by decide))) (O 8 (by decide)) (O 19 (by decide)) (O 31 (by decide)) (O 53 (by decide)) (O 34 (by decide)) (O 35 (by decide)) (fun _ _ h => by rw [O 17 (by decide)]; exact h)⟩
    unfold K4
    rw [O 14 (by decide), O 15 (by decide), O 17 (by decide), O 18 (by decide)]
    refine ⟨fun i hi => ?_, by have := h4.2; omega⟩
    obtain ⟨g1, g2, g3, g4, g5⟩ := h4.1 i hi
    exact ⟨g1, ⟨g2.1, by have := g2.2; omega⟩, a1 i hi, g4, ⟨g5.1, by have := g5.2; omega⟩⟩
  by_cases h54 : s 54 c = 0
  · have hU : suitUC s (nI c) = su s 28 c 1 := by unfold suitUC; rw [tc, if_pos h54]
    have hR : suitRC s (nI c) = -1 := by unfold suitRC; rw [tc, if_pos h54]
    rw [hU, hR]
    obtain ⟨j1, j2⟩ := c0 (z := su s 28 c 1) (fun q h => su_o h.2) (fun i hi => (hJ0.m16 hi).1) rfl
    exact ⟨j1, j2, su_a, rfl, Or.inl ⟨rfl, rfl⟩⟩
  · have hR : suitRC s (nI c) = minF (s 31 c) (s 16 sl) := by unfold suitRC; rw [tc, if_neg h54, tsl]
    have hU : suitUC s (nI c) = su (su (su s 28 c 1) 16 sl (s 16 sl - minF (s 31 c) (s 16 sl))) 16 (tn (s 22 c)) ((su (su s 28 c 1) 16 sl (s 16 sl - minF (s 31 c) (s 16 sl))) 16 (tn (s 22 c)) + minF (s 31 c) (s 16 sl)) := by unfold suitUC; rw [tc, if_neg h54, tsl]
    rw [hU, hR, mn.1.e, mn.2]
    obtain ⟨a1, a2, a3, a4⟩ := mv_n (f := s 16) (m := min (tn (s 31 c)) (tn (s 16 sl))) (fun i hi => (hJ0.m16 hi).1) (by have := h4.2; omega) hsn w.2 (fun h => hso h.symm) (Nat.min_le_right _ _)
    obtain ⟨j1, j2⟩ := c0 (z := su (su (su s 28 c 1) 16 sl (s 16 sl - nI (min (tn (s 31 c)) (tn (s 16 sl))))) 16 (tn (s 22 c)) ((su (su s 28 c 1) 16 sl (s 16 sl - nI (min (tn (s 31 c)) (tn (s 16 sl))))) 16 (tn (s 22 c)) + nI (min (tn (s 31 c)) (tn (s 16 sl))))) (fun q h => by rw [su_o h.1, su_o h.1, su_o h.2]) a1 a2
    refine ⟨j1, j2, ?_, rfl, Or.inr ⟨_, rfl, by omega, by omega, by omega, a3⟩⟩
    rw [su_o (by decide), su_o (by decide)]
    exact su_a
end MV
