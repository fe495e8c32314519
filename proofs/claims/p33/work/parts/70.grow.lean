/-! one more: a miner, a claim, a right -/
theorem su_self {t : SS} {k i : Nat} : su t k i (t k i) = t := by
  funext a b
  by_cases h : a = k
  · subst h
    rw [su_s]
    unfold upd
    split
    · rename_i h2; rw [h2]
    · rfl
  · rw [su_o h]
section GRW
variable {s t : SS} {nm nc nr k : Nat}
theorem upd_a {f : Nat → Int32} {i : Nat} {v : Int32} : upd f i v i = v := if_pos rfl
theorem upd_b {f : Nat → Int32} {i j : Nat} {v : Int32} (h : j ≠ i) : upd f i v j = f j := if_neg h
theorem P_miner (hJ : Js s nm nc nr k) (hT : K9 s t nm nc nr k) {f c : Nat} (hn : nm < 12) (hf : f ≤ 1000) (hc : c ≤ 600) : Js (minerS s nm (nI f) (nI c)) (nm + 1) nc nr (k + 1) ∧ (∀ t1, t1 = su (su t 2 (12 + nm) 10) 0 0 (nI (nm + 1)) → K9 (minerS s nm (nI f) (nI c)) t1 (nm + 1) nc nr (k + 1)) ∧ tn (minerS s nm (nI f) (nI c) 15 nm) = f ∧ tn (minerS s nm (nI f) (nI c) 17 nm) = 10 ∧ tn (minerS s nm (nI f) (nI c) 13 nm) = 0 := by
  obtain ⟨h0, h1, h2, h3, h4, h5, h6, h7, h8⟩ := hJ
  have e13 : minerS s nm (nI f) (nI c) 13 = upd (s 13) nm 0 := rfl
  have e14 : minerS s nm (nI f) (nI c) 14 = upd (s 14) nm 0 := rfl
  have e18 : minerS s nm (nI f) (nI c) 18 = upd (s 18) nm 0 := rfl
  have e15 : minerS s nm (nI f) (nI c) 15 = upd (s 15) nm (nI f) := rfl
  have e16 : minerS s nm (nI f) (nI c) 16 = upd (s 16) nm (nI c) := rfl
  have e17 : minerS s nm (nI f) (nI c) 17 = upd (s 17) nm 10 := rfl
  have e19 : minerS s nm (nI f) (nI c) 19 = upd (s 19) nm (-1) := rfl
  have e20 : ∀ j, minerS s nm (nI f) (nI c) 20 j = if 12 * nm ≤ j ∧ j < 12 * nm + 12 then 0 else s 20 j := fun j => by
    by_cases q : 12 * nm ≤ j ∧ j < 12 * nm + 12
    · rw [if_pos q]
      exact if_pos ⟨rfl, q⟩
    · rw [if_neg q]
      exact if_neg (fun z => q z.2)
  generalize hz : minerS s nm (nI f) (nI c) = z at *
  have eo : ∀ q : Nat, q ≠ 12 → q ≠ 13 → q ≠ 14 → q ≠ 15 → q ≠ 16 → q ≠ 17 → q ≠ 18 → q ≠ 19 → q ≠ 20 → q ≠ 52 → q ≠ 55 → z q = s q := by
    intro q a1 a2 a3 a4 a5 a6 a7 a8 a9 a10 a11
    subst hz
    unfold minerS minerU
    rw [su_o a11]
    funext i
    rw [sr_b (fun x => a10 x.1), sr_b (fun x => a9 x.1), su_o a7, su_o a3, su_o a2, su_o a1, su_o a8, su_o a6, su_o a5, su_o a4]
  have g13 : SN (z 13) (nm + 1) = SN (s 13) nm := by
    rw [e13]
    show SN (upd (s 13) nm 0) nm + tn (upd (s 13) nm 0 nm) = _
    rw [SN_o nm (Nat.le_refl _), upd_a, tn_0]
    omega
  have g16 : SN (z 16) (nm + 1) = SN (s 16) nm + c := by
    rw [e16]
    show SN (upd (s 16) nm (nI c)) nm + tn (upd (s 16) nm (nI c) nm) = _
    rw [SN_o nm (Nat.le_refl _), upd_a, tn_nI (by omega)]
  have o0 := eo 0 (by decide) (by decide) (by decide) (by decide) (by decide) (by decide) (by decide) (by decide) (by decide) (by decide) (by decide)
  have o1 := eo 1 (by decide) (by decide) (by decide) (by decide) (by decide) (by decide) (by decide) (by decide) (by decide) (by decide) (by decide)
  have o2 := eo 2 (by decide) (by decide) (by decide) (by decide) (by decide) (by decide) (by decide) (by decide) (by decide) (by decide) (by decide)
  have o3 := eo 3 (by decide) (by decide) (by decide) (by decide) (by decide) (by decide) (by decide) (by decide) (by decide) (by decide) (by decide)
  have o4 := eo 4 (by decide) (by decide) (by decide) (by decide) (by decide) (by decide) (by decide) (by decide) (by decide) (by decide) (by decide)
  have o5 := eo 5 (by decide) (by decide) (by decide) (by decide) (by decide) (by decide) (by decide) (by decide) (by decide) (by decide) (by decide)
  have o6 := eo 6 (by decide) (by decide) (by decide) (by decide) (by decide) (by decide) (by decide) (by decide) (by decide) (by decide) (by decide)
  have o7 := eo 7 (by decide) (by decide) (by decide) (by decide) (by decide) (by decide) (by decide) (by decide) (by decide) (by decide) (by decide)
  have o8 := eo 8 (by decide) (by decide) (by decide) (by decide) (by decide) (by decide) (by decide) (by decide) (by decide) (by decide) (by decide)
  have o9 := eo 9 (by decide) (by decide) (by decide) (by decide) (by decide) (by decide) (by decide) (by decide) (by decide) (by decide) (by decide)
  have o10 := eo 10 (by decide) (by decide) (by decide) (by decide) (by decide) (by decide) (by decide) (by decide) (by decide) (by decide) (by decide)
  have o11 := eo 11 (by decide) (by decide) (by decide) (by decide) (by decide) (by decide) (by decide) (by decide) (by decide) (by decide) (by decide)
  have o21 := eo 21 (by decide) (by decide) (by decide) (by decide) (by decide) (by decide) (by decide) (by decide) (by decide) (by decide) (by decide)
  have o22 := eo 22 (by decide) (by decide) (by decide) (by decide) (by decide) (by decide) (by decide) (by decide) (by decide) (by decide) (by decide)
  have o23 := eo 23 (by decide) (by decide) (by decide) (by decide) (by decide) (by decide) (by decide) (by decide) (by decide) (by decide) (by decide)
  have o24 := eo 24 (by decide) (by decide) (by decide) (by decide) (by decide) (by decide) (by decide) (by decide) (by decide) (by decide) (by decide)
  have o25 := eo 25 (by decide) (by decide) (by decide) (by decide) (by decide) (by decide) (by decide) (by decide) (by decide) (by decide) (by decide)
  have o26 := eo 26 (by decide) (by decide) (by decide) (by decide) (by decide) (by decide) (by decide) (by decide) (by decide) (by decide) (by decide)
  have o27 := eo 27 (by decide) (by decide) (by decide) (by decide) (by decide) (by decide) (by decide) (by decide) (by decide) (by decide) (by decide)
  have o31 := eo 31 (by decide) (by decide) (by decide) (by decide) (by decide) (by decide) (by decide) (by decide) (by decide) (by decide) (by decide)
  have o33 := eo 33 (by decide) (by decide) (by decide) (by decide) (by decide) (by decide) (by decide) (by decide) (by decide) (by decide) (by decide)
  have o34 := eo 34 (by decide) (by decide) (by decide) (by decide) (by decide) (by decide) (by decide) (by decide) (by decide) (by decide) (by decide)
  have o35 := eo 35 (by decide) (by decide) (by decide) (by decide) (by decide) (by decide) (by decide) (by decide) (by decide) (by decide) (by decide)
  have o50 := eo 50 (by decide) (by decide) (by decide) (by decide) (by decide) (by decide) (by decide) (by decide) (by decide) (by decide) (by decide)
  have o53 := eo 53 (by decide) (by decide) (by decide) (by decide) (by decide) (by decide) (by decide) (by decide) (by decide) (by decide) (by decide)
  have e12 : z 12 0 = nI (nm + 1) := by rw [← hz]; rfl
  have htot : tot z (nm + 1) = tot s nm := by
    unfold tot
    rw [g13, o6, o7, o9]
  have n10 : tn (10 : Int32) = 10 := by decide
  refine ⟨⟨?_, h1.cg (by omega) o5 o50, ?_, h3.cg o11, ?_, ?_, ?_, ?_, ?_⟩, fun t1 ht1 => ?_, ?_, ?_, ?_⟩
  · obtain ⟨a1, a2, a3, a4, a5, a6, a7⟩ := h0
    unfold K0
    rw [o0, o1, o2, o3, o4, o21, o33]
    exact ⟨by omega, a2, a3, a4, a5, a6, e12, a7.2⟩
  · unfold K2
    rw [htot, g13, o6, o7, o9, o10, e13]
    refine ⟨h2.1, h2.2.1, h2.2.2.1, h2.2.2.2.1, fun i hi => ?_, by have := h2.2.2.2.2.2.1; omega, by have := h2.2.2.2.2.2.2; omega⟩
    by_cases q : i = nm
    · subst q; rw [upd_a]; exact Nn.z
    · rw [upd_b q]; exact h2.2.2.2.2.1 i (by omega)
  · unfold K4
    rw [g16, e14, e15, e16, e17, e18]
    refine ⟨fun i hi => ?_, by have := h4.2; omega⟩
    by_cases q : i = nm
    · subst q
      rw [upd_a, upd_a, upd_a, upd_a, upd_a, tn_0, n10, tn_nI (show f < 2 ^ 31 by omega)]
      exact ⟨⟨Nn.z, by omega⟩, ⟨Nn.of (by omega), by omega⟩, Nn.of (by omega), ⟨by unfold Nn; decide, by omega⟩, Nn.z, by omega⟩
    · rw [upd_b q, upd_b q, upd_b q, upd_b q, upd_b q]
      obtain ⟨g1, g2, g3, g4, g5, g6⟩ := h4.1 i (by omega)
      exact ⟨g1, ⟨g2.1, by have := g2.2; omega⟩, g3, g4, g5, by omega⟩
  · obtain ⟨p1, p2, p3, p4⟩ := h5
    refine ⟨fun i b hi hb => ?_, fun i hi => ?_, fun i hi => ?_, fun i b hi hb hb2 => ?_⟩
    · rw [e20]
      split
      · exact Nn.z
      · exact p1 i b (by omega) hb
    · by_cases q : i = nm
      · subst q
        have : SN (fun b => z 20 (12 * i + b)) 12 ≤ 0 * 12 := SN_b 12 (fun b hb => by rw [e20, if_pos (by omega), tn_0]; omega)
        omega
      · rw [SN_c (g := fun b => s 20 (12 * i + b)) 12 (fun b hb => by show z 20 (12 * i + b) = s 20 (12 * i + b); rw [e20, if_neg (by omega)])]
        exact p2 i (by omega)
    · rw [e20]
      split
      · rfl
      · exact p3 i (by omega)
    · rw [e20]
      split
      · rfl
      · exact p4 i b (by omega) (by omega) hb2
  · unfold K6 cov
    rw [o0, o22, o23, o24, o25, o26, o27, e17]
    refine ⟨fun i hi => ?_, h6.2⟩
    obtain ⟨g1, g2, g3, g4, g5, g6⟩ := h6.1 i hi
    exact ⟨⟨g1.1, by omega⟩, g2, g3, g4, g5, fun q => ⟨by rw [upd_b (by omega)]; exact (g6 q).1, (g6 q).2⟩⟩
  · unfold K7
    rw [o22, o31, o53]
    intro i hi
    obtain ⟨⟨q, q1, q2, q3⟩, g⟩ := h7 i hi
    exact ⟨⟨q, by omega, q2, q3⟩, g⟩
  · unfold K8
    rw [o34, o35]
    intro i hi
    obtain ⟨⟨a, b⟩, g⟩ := h8 i hi
    exact ⟨⟨a, by omega⟩, g⟩
  · subst ht1
    obtain ⟨⟨a, b, c1, d, e, p, hp, hp2⟩, t1, t2, t3, t4⟩ := hT
    have e00 : ∀ j, j ≠ 0 → su (su t 2 (12 + nm) 10) 0 0 (nI (nm + 1)) 0 j = t 0 j := fun j hj => su_b hj
    have e2 : ∀ j, su (su t 2 (12 + nm) 10) 0 0 (nI (nm + 1)) 2 j = if j = 12 + nm then 10 else t 2 j := fun j => by
      rw [su_o (by decide), su_s]
      rfl
    refine ⟨⟨su_a, ?_, ?_, ?_, ?_, p, ?_, by omega⟩, ?_, ⟨fun i hi => ?_, fun i hi hi2 => ?_⟩, fun i hi => ?_, ?_⟩
    · rw [e00 1 (by decide)]; exact b
    · rw [e00 2 (by decide)]; exact c1
    · rw [e00 3 (by decide), htot]; exact d
    · rw [e00 4 (by decide), o8]; exact e
    · rw [e00 5 (by decide)]; exact hp
    · unfold T1
      rw [o34, o35]
      exact t1
    · rw [e2, if_neg (by omega), e19]
      by_cases q : i = nm
      · subst q
        rw [upd_a]
        exact ⟨0, t2.2 i (Nat.le_refl _) (by omega), by decide, by omega⟩
      · rw [upd_b q]
        exact t2.1 i (by omega)
    · rw [e2, if_neg (by omega)]
      exact t2.2 i (by omega) hi2
    · rw [e2, e17]
      by_cases q : i = nm
      · subst q
        rw [if_pos rfl, upd_a]
        exact ⟨by unfold Nn; decide, by decide, fun z => absurd z (by decide)⟩
      · rw [if_neg (by omega), upd_b q]
        exact t3 i (by omega)
    · unfold T4
      rw [o31, o53]
      exact t4
  · rw [e15, upd_a, tn_nI (by omega)]
  · rw [e17, upd_a]; exact n10
  · rw [e13, upd_a]; exact tn_0
theorem free_n {c : Nat} : ∀ n, (freeC s c nc n = 1 ∧ ∀ j, j < n → heldC s (nI (c + j)) nc = -1) ∨ (freeC s c nc n = 0 ∧ ∃ j, j < n ∧ ¬ heldC s (nI (c + j)) nc = -1)
  | 0 => Or.inl ⟨rfl, fun j hj => absurd hj (Nat.not_lt_zero j)⟩
  | n + 1 => by
    unfold freeC
    rcases free_n (c := c) n with ⟨a, b⟩ | ⟨a, j, b, d⟩
    · rw [a, if_neg (by decide)]
      by_cases q : heldC s (nI (c + n)) nc = -1
      · rw [if_pos q]
        refine Or.inl ⟨rfl, fun j hj => ?_⟩
        by_cases e : j = n
        · subst e; exact q
        · exact b j (by omega)
      · rw [if_neg q]
        exact Or.inr ⟨rfl, n, by omega, q⟩
    · rw [a, if_pos rfl]
      exact Or.inr ⟨rfl, j, by omega, d⟩
theorem P_peg (hJ : Js s nm nc nr k) (hT : K9 s t nm nc nr k) {x c m : Nat} (hn : nc < 30) (hx : x < nm) (hm1 : 1 ≤ m) (hm : m ≤ 10) (hcm : c + m ≤ 40) (hd : ¬ s 17 x = 0) (hfr : ∀ j, j < m → heldC s (nI (c + j)) nc = -1) : Js (pegS s nc (nI x) (nI c) (nI m)) nm (nc + 1) nr (k + 1) ∧ (∀ t1, t1 = su t 0 1 (nI (nc + 1)) → K9 (pegS s nc (nI x) (nI c) (nI m)) t1 nm (nc + 1) nr (k + 1)) ∧ heldC (pegS s nc (nI x) (nI c) (nI m)) (nI c) (nc + 1) = nI nc ∧ heldC (pegS s nc (nI x) (nI c) (nI m)) (nI (c + m - 1)) (nc + 1) = nI nc ∧ tn (pegS s nc (nI x) (nI c) (nI m) 26 nc) = tn (pegS s nc (nI x) (nI c) (nI m) 0 0) ∧ tn (pegS s nc (nI x) (nI c) (nI m) 27 nc) = tn (pegS s nc (nI x) (nI c) (nI m) 3 0) := by
  have hJ0 := hJ
  obtain ⟨h0, h1, h2, h3, h4, h5, h6, h7, h8⟩ := hJ
  have h12 := h0.1
  have e22 : pegS s nc (nI x) (nI c) (nI m) 22 = upd (s 22) nc (nI x) := rfl
  have e23 : pegS s nc (nI x) (nI c) (nI m) 23 = upd (s 23) nc (nI c) := rfl
  have e24 : pegS s nc (nI x) (nI c) (nI m) 24 = upd (s 24) nc (nI m) := rfl
  have e25 : pegS s nc (nI x) (nI c) (nI m) 25 = upd (s 25) nc 1 := rfl
  have e26 : pegS s nc (nI x) (nI c) (nI m) 26 = upd (s 26) nc (s 0 0) := rfl
  have e27 : pegS s nc (nI x) (nI c) (nI m) 27 = upd (s 27) nc (s 3 0) := rfl
  have e31 : pegS s nc (nI x) (nI c) (nI m) 31 = upd (s 31) nc 0 := rfl
  have e53 : pegS s nc (nI x) (nI c) (nI m) 53 = upd (s 53) nc (-1) := rfl
  have e21 : pegS s nc (nI x) (nI c) (nI m) 21 0 = nI (nc + 1) := rfl
  have o0 : pegS s nc (nI x) (nI c) (nI m) 0 = s 0 := rfl
  have o1 : pegS s nc (nI x) (nI c) (nI m) 1 = s 1 := rfl
  have o2 : pegS s nc (nI x) (nI c) (nI m) 2 = s 2 := rfl
  have o3 : pegS s nc (nI x) (nI c) (nI m) 3 = s 3 := rfl
  have o4 : pegS s nc (nI x) (nI c) (nI m) 4 = s 4 := rfl
  have o8 : pegS s nc (nI x) (nI c) (nI m) 8 = s 8 := rfl
  have o12 : pegS s nc (nI x) (nI c) (nI m) 12 = s 12 := rfl
  have o17 : pegS s nc (nI x) (nI c) (nI m) 17 = s 17 := rfl
  have o19 : pegS s nc (nI x) (nI c) (nI m) 19 = s 19 := rfl
  have o33 : pegS s nc (nI x) (nI c) (nI m) 33 = s 33 := rfl
  have o34 : pegS s nc (nI x) (nI c) (nI m) 34 = s 34 := rfl
  have o35 : pegS s nc (nI x) (nI c) (nI m) 35 = s 35 := rfl
  have k1 : K1 (pegS s nc (nI x) (nI c) (nI m)) (k + 1) := h1.cg (by omega) rfl rfl
  have k2 : K2 (pegS s nc (nI x) (nI c) (nI m)) nm (k + 1) := h2.cg (by omega) rfl rfl rfl rfl rfl
  have k3 : K3 (pegS s nc (nI x) (nI c) (nI m)) := h3.cg rfl
  have k4 : K4 (pegS s nc (nI x) (nI c) (nI m)) nm (k + 1) := h4.cg (by omega) rfl rfl rfl rfl rfl
  have k5 : K5 (pegS s nc (nI x) (nI c) (nI m)) nm := h5.cg rfl
  have k8 : K8 (pegS s nc (nI x) (nI c) (nI m)) nm nr := h8.cg rfl rfl
  have htot : tot (pegS s nc (nI x) (nI c) (nI m)) nm = tot s nm := tot_c rfl rfl rfl rfl
  generalize pegS s nc (nI x) (nI c) (nI m) = z at *
  have cold : ∀ i q, i < nc → (cov z i q ↔ cov s i q) := fun i q hi => by
    unfold cov
    rw [e23, e24, e25, upd_b (show i ≠ nc by omega), upd_b (show i ≠ nc by omega), upd_b (show i ≠ nc by omega)]
  have cnew : ∀ q, cov z nc q ↔ c ≤ q ∧ q < c + m := fun q => by
    unfold cov
    rw [e23, e24, e25, upd_a, upd_a, upd_a, tn_nI (by omega), tn_nI (by omega)]
    exact ⟨fun h => h.2, fun h => ⟨by decide, h⟩⟩
  have cfree : ∀ i q, i < nc → c ≤ q → q < c + m → ¬ cov s i q := fun i q hi h1 h2 hv => by
    have hh := hfr (q - c) (by omega)
    rw [show c + (q - c) = q by omega, held_is (by omega) h12.2.1 h6 hi hv] at hh
    exact nI_m1 (by omega) hh
  have n1 : tn (1 : Int32) = 1 := by decide
  have k6 : K6 z nm (nc + 1) := by
    refine ⟨fun i hi => ?_, fun i j q hi hj ci cj => ?_⟩
    · rw [o0, o17, e22, e23, e24, e25, e26, e27]
      by_cases q : i = nc
      · subst q
        rw [upd_a, upd_a, upd_a, upd_a, upd_a, upd_a, tn_nI (show x < 2 ^ 31 by omega), tn_nI (show c < 2 ^ 31 by omega), tn_nI (show m < 2 ^ 31 by omega)]
        exact ⟨⟨Nn.of (by omega), hx⟩, ⟨Nn.of (by omega), Nn.of (by omega), hm1, hm, hcm⟩, ⟨h0.2.1.1, Nat.le_refl _⟩, ⟨h0.2.2.2.2.1.1, h0.2.2.2.2.1.2.2⟩, Or.inr rfl, fun _ => ⟨hd, Nat.le_add_right _ _⟩⟩
      · rw [upd_b q, upd_b q, upd_b q, upd_b q, upd_b q, upd_b q]
        exact h6.1 i (by omega)
    · by_cases qi : i = nc
      · by_cases qj : j = nc
        · omega
        · subst qi
          have h1 := (cnew q).mp ci
          exact absurd ((cold j q (by omega)).mp cj) (cfree j q (by omega) h1.1 h1.2)
      · by_cases qj : j = nc
        · subst qj
          have h1 := (cnew q).mp cj
          exact absurd ((cold i q (by omega)).mp ci) (cfree i q (by omega) h1.1 h1.2)
        · exact h6.2 i j q (by omega) (by omega) ((cold i q (by omega)).mp ci) ((cold j q (by omega)).mp cj)
  refine ⟨⟨?_, k1, k2, k3, k4, k5, k6, ?_, k8⟩, fun t1 ht1 => ?_, held_is (by omega) (by omega) k6 (by omega) ((cnew c).mpr ⟨Nat.le_refl _, by omega⟩), held_is (by omega) (by omega) k6 (by omega) ((cnew _).mpr ⟨by omega, by omega⟩), ?_, ?_⟩
  · obtain ⟨a1, a2, a3, a4, a5, a6, a7⟩ := h0
    unfold K0
    rw [o0, o1, o2, o3, o4, o12, o33]
    exact ⟨by omega, a2, a3, a4, a5, a6, a7.1, e21, a7.2.2⟩
  · unfold K7
    rw [e22, e31, e53]
    intro i hi
    by_cases q : i = nc
    · subst q
      rw [upd_a, upd_a, upd_a, tn_0]
      exact ⟨⟨0, by omega, by decide, fun h => absurd h (by omega)⟩, Nn.z, by omega⟩
    · rw [upd_b q, upd_b q, upd_b q]
      exact h7 i (by omega)
  · subst ht1
    obtain ⟨⟨a, b, c1, d, e, p, hp, hp2⟩, t1, t2, t3, t4⟩ := hT
    have e00 : ∀ j, j ≠ 1 → su t 0 1 (nI (nc + 1)) 0 j = t 0 j := fun j hj => su_b hj
    refine ⟨⟨?_, su_a, ?_, ?_, ?_, p, ?_, by omega⟩, ?_, ?_, ?_, ?_⟩
    · rw [e00 0 (by decide)]; exact a
    · rw [e00 2 (by decide)]; exact c1
    · rw [e00 3 (by decide), htot]; exact d
    · rw [e00 4 (by decide), o8]; exact e
    · rw [e00 5 (by decide)]; exact hp
    · unfold T1
      rw [o34, o35]
      exact t1
    · unfold T2
      rw [o19]
      exact t2
    · unfold T3
      rw [o17]
      exact t3
    · refine ⟨fun i hi => ?_, fun i hi hi2 => t4.2 i (by omega) hi2⟩
      rw [e31, e53]
      by_cases q : i = nc
      · subst q
        rw [upd_a, upd_a]
        exact ⟨(t4.2 i (Nat.le_refl _) hn).1, (t4.2 i (Nat.le_refl _) hn).2⟩
      · rw [upd_b q, upd_b q]
        exact t4.1 i (by omega)
  · rw [e26, upd_a, o0]
  · rw [e27, upd_a, o3]
theorem P_right (hJ : Js s nm nc nr k) (hT : K9 s t nm nc nr k) {x i : Nat} (hn : nr < 20) (hx : x < nm) (hi1 : 1 ≤ i) (hi : i ≤ 200) : Js (su (rightU s nr (nI x) (nI i)) 55 2 (s 55 2 + 1)) nm nc (nr + 1) (k + 1) ∧ ∀ t1, t1 = su (su t 1 nr (nI (i + 1000 * x))) 0 2 (nI (nr + 1)) → K9 (su (rightU s nr (nI x) (nI i)) 55 2 (s 55 2 + 1)) t1 nm nc (nr + 1) (k + 1) := by
  obtain ⟨h0, h1, h2, h3, h4, h5, h6, h7, h8⟩ := hJ
  have h12 := h0.1
  have e34 : su (rightU s nr (nI x) (nI i)) 55 2 (s 55 2 + 1) 34 = upd (s 34) nr (nI x) := rfl
  have e35 : su (rightU s nr (nI x) (nI i)) 55 2 (s 55 2 + 1) 35 = upd (s 35) nr (nI i) := rfl
  refine ⟨⟨?_, h1.cg (by omega) rfl rfl, h2.cg (by omega) rfl rfl rfl rfl rfl, h3.cg rfl, h4.cg (by omega) rfl rfl rfl rfl rfl, h5.cg rfl, h6.cg rfl rfl rfl rfl rfl rfl rfl rfl, h7.cg rfl rfl rfl, ?_⟩, fun t1 ht1 => ?_⟩
  · obtain ⟨a1, a2, a3, a4, a5, a6, a7⟩ := h0
    exact ⟨by omega, a2, a3, a4, a5, a6, a7.1, a7.2.1, rfl⟩
  · unfold K8
    rw [e34, e35]
    intro j hj
    by_cases q : j = nr
    · subst q
      rw [upd_a, upd_a, tn_nI (by omega), tn_nI (by omega)]
      exact ⟨⟨Nn.of (by omega), hx⟩, Nn.of (by omega), hi1, hi⟩
    · rw [upd_b q, upd_b q]
      exact h8 j (by omega)
  · subst ht1
    obtain ⟨⟨a, b, c1, d, e, p, hp, hp2⟩, t1, t2, t3, t4⟩ := hT
    have e00 : ∀ j, j ≠ 2 → su (su t 1 nr (nI (i + 1000 * x))) 0 2 (nI (nr + 1)) 0 j = t 0 j := fun j hj => su_b hj
    have e1 : ∀ j, su (su t 1 nr (nI (i + 1000 * x))) 0 2 (nI (nr + 1)) 1 j = if j = nr then nI (i + 1000 * x) else t 1 j := fun j => by
      rw [su_o (by decide), su_s]
      rfl
    refine ⟨⟨?_, ?_, su_a, ?_, ?_, p, ?_, by omega⟩, fun j hj => ?_, t2, t3, t4⟩
    · rw [e00 0 (by decide)]; exact a
    · rw [e00 1 (by decide)]; exact b
    · rw [e00 3 (by decide)]; exact d
    · rw [e00 4 (by decide)]; exact e
    · rw [e00 5 (by decide)]; exact hp
    · rw [e1, e34, e35]
      by_cases q : j = nr
      · subst q
        rw [if_pos rfl, upd_a, upd_a, tn_nI (by omega), tn_nI (by omega)]
      · rw [if_neg q, upd_b q, upd_b q]
        exact t1 j (by omega)
end GRW
