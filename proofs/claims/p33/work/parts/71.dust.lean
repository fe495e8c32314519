/-! dust: brass, sales to the bank, salting, in numbers -/
theorem SN_put {f : Nat → Int32} {i n x : Nat} {v : Int32} (hi : i < n) (hv : tn v = x) : SN (upd f i v) n + tn (f i) = SN f n + x := by
  rw [← hv]
  exact SN_u n hi
theorem bm64 {n : Nat} (h : n < 1000000000000) : (n : Int).bmod (2 ^ 64) = n := Int.bmod_eq_of_le (by omega) (by omega)
theorem bm32 {n : Nat} (h : n < 1000000000) : (n : Int).bmod (2 ^ 32) = n := Int.bmod_eq_of_le (by omega) (by omega)
theorem br_n {d b a : Nat} (hd : d < 1000000) (hb : b < 1000000) (ha0 : 0 < a) (ha : a < 1000000) (hba : b ≤ a) : brF (nI d) (nI b) (nI a) = nI (d * b / a) := by
  have hdb : d * b < 1000000000000 := Nat.lt_of_lt_of_le (Nat.mul_lt_mul_of_lt_of_le hd (Nat.le_of_lt hb) (by omega)) (by omega)
  have hq : d * b / a ≤ d := by
    refine Nat.div_le_of_le_mul ?_
    rw [Nat.mul_comm a d]
    exact Nat.mul_le_mul_left d hba
  have h1 : ((nI d).toInt64 * (nI b).toInt64).toInt = ((d * b : Nat) : Int) := by
    rw [Int64.toInt_mul, Int32.toInt_toInt64, Int32.toInt_toInt64, nI_toInt (by omega), nI_toInt (by omega), ← Int.natCast_mul, bm64 hdb]
  have h2 : ((nI d).toInt64 * (nI b).toInt64 / (nI a).toInt64).toInt = ((d * b / a : Nat) : Int) := by
    rw [Int64.toInt_div, h1, Int32.toInt_toInt64, nI_toInt (by omega), ← Int.ofNat_tdiv, bm64 (Nat.lt_of_le_of_lt hq (by omega))]
  refine Int32.toInt_inj.mp ?_
  show ((nI d).toInt64 * (nI b).toInt64 / (nI a).toInt64).toInt32.toInt = _
  rw [Int64.toInt_toInt32, h2, nI_toInt (Nat.lt_of_le_of_lt hq (by omega)), bm32 (Nat.lt_of_le_of_lt hq (by omega))]
section DU
variable {s t : SS} {nm nc nr k : Nat}
theorem P_brass (hJ : Js s nm nc nr k) (hT : K9 s t nm nc nr k) {x m : Nat} (hx : x < nm) (hb : tn (s 14 x) + m ≤ 100000) : Js (brassU s (nI x) (nI m)) nm nc nr (k + 1) ∧ K9 (brassU s (nI x) (nI m)) t nm nc nr (k + 1) ∧ s 14 x + nI m = nI (tn (s 14 x) + m) := by
  have hJ0 := hJ
  obtain ⟨h0, h1, h2, h3, h4, h5, h6, h7, h8⟩ := hJ
  have h12 := h0.1
  have m14 := hJ0.m14 hx
  have ea : s 14 x + nI m = nI (tn (s 14 x) + m) := by rw [← nI_add, ← m14.1.e]
  have e14 : ∀ j, brassU s (nI x) (nI m) 14 j = if j = x then nI (tn (s 14 x) + m) else s 14 j := fun j => by
    unfold brassU
    rw [tn_nI (by omega), ea, su_s]
    rfl
  refine ⟨⟨h0.cg rfl rfl rfl rfl rfl rfl rfl rfl, h1.cg (by omega) rfl rfl, h2.cg (by omega) rfl rfl rfl rfl rfl, h3.cg rfl, ⟨fun i hi => ?_, ?_⟩, h5.cg rfl, h6.cg rfl rfl rfl rfl rfl rfl rfl rfl, h7.cg rfl rfl rfl, h8.cg rfl rfl⟩, hT.cg (by omega) rfl rfl rfl rfl rfl rfl rfl (fun _ _ z => z), ea⟩
  · obtain ⟨g1, g2, g3, g4, g5⟩ := h4.1 i hi
    refine ⟨?_, ⟨g2.1, by have := g2.2; show tn (s 15 i) ≤ _; omega⟩, g3, g4, ⟨g5.1, by have := g5.2; show tn (s 18 i) ≤ k + 1; omega⟩⟩
    rw [e14]
    split
    · exact ⟨Nn.of (by omega), by rw [tn_nI (by omega)]; exact hb⟩
    · exact g1
  · have := h4.2
    show SN (s 16) nm ≤ _
    omega
theorem P_caught (hJ : Js s nm nc nr k) (hT : K9 s t nm nc nr k) (hk : k ≤ 130) {x : Nat} (hx : x < nm) : Js (su s 18 x (s 18 x + 1)) nm nc nr (k + 1) ∧ K9 (su s 18 x (s 18 x + 1)) t nm nc nr (k + 1) ∧ tn (su s 18 x (s 18 x + 1) 18 x) = tn (s 18 x) + 1 := by
  have hJ0 := hJ
  obtain ⟨h0, h1, h2, h3, h4, h5, h6, h7, h8⟩ := hJ
  have m18 := hJ0.m18 hx
  have n1 : tn (1 : Int32) = 1 := by decide
  have ha := m18.1.add (y := 1) (by unfold Nn; decide) (by omega)
  have e18 : ∀ j, su s 18 x (s 18 x + 1) 18 j = if j = x then s 18 x + 1 else s 18 j := fun j => by rw [su_s]; rfl
  refine ⟨⟨h0.cg rfl rfl rfl rfl rfl rfl rfl rfl, h1.cg (by omega) rfl rfl, h2.cg (by omega) rfl rfl rfl rfl rfl, h3.cg rfl, ⟨fun i hi => ?_, ?_⟩, h5.cg rfl, h6.cg rfl rfl rfl rfl rfl rfl rfl rfl, h7.cg rfl rfl rfl, h8.cg rfl rfl⟩, hT.cg (by omega) rfl rfl rfl rfl rfl rfl rfl (fun _ _ z => z), ?_⟩
  · obtain ⟨g1, g2, g3, g4, g5⟩ := h4.1 i hi
    refine ⟨g1, ⟨g2.1, by have := g2.2; show tn (s 15 i) ≤ _; omega⟩, g3, g4, ?_⟩
    rw [e18]
    split
    · exact ⟨ha.1, by omega⟩
    · exact ⟨g5.1, by have := g5.2; omega⟩
  · have := h4.2
    show SN (s 16) nm ≤ _
    omega
  · rw [e18, if_pos rfl]; omega
/-- what is bad: is the miner caught? -/
theorem sus_n (hJ : Js s nm nc nr k) (hk : k ≤ 130) {x : Nat} (hx : x < nm) : s 13 x + s 14 x < s 14 x * 20 ↔ tn (s 13 x) + tn (s 14 x) < tn (s 14 x) * 20 := by
  have m13 := hJ.m13 hx
  have m14 := hJ.m14 hx
  have h1 := m13.1.add m14.1 (by omega)
  have h2 : s 14 x * 20 = nI (tn (s 14 x) * 20) := by rw [← pk_mul, ← m14.1.e]; rfl
  rw [h2, h1.1.ltc (by omega), h1.2]
theorem P_sell (hJ : Js s nm nc nr k) (hT : K9 s t nm nc nr k) (hk : k ≤ 130) {x d : Nat} (hx : x < nm) (hd1 : 1 ≤ d) (hd : d ≤ tn (s 13 x) + tn (s 14 x)) (hs : ¬ tn (s 13 x) + tn (s 14 x) < tn (s 14 x) * 20) : sellRC s (nI x) (nI d) = nI (d * tn (s 4 0) / 10) ∧ Js (sellUC s (nI x) (nI d)) nm nc nr (k + 1) ∧ K9 (sellUC s (nI x) (nI d)) t nm nc nr (k + 1) ∧ ∃ p, p ≤ d ∧ p ≤ tn (s 14 x) ∧ d - p ≤ tn (s 13 x) ∧ tn (sellUC s (nI x) (nI d) 14 x) = tn (s 14 x) - p ∧ tn (sellUC s (nI x) (nI d) 13 x) = tn (s 13 x) - (d - p) ∧ tn (sellUC s (nI x) (nI d) 16 x) = tn (s 16 x) + d * tn (s 4 0) / 10 ∧ tn (sellUC s (nI x) (nI d) 7 0) = tn (s 7 0) + (d - p) ∧ tn (sellUC s (nI x) (nI d) 18 x) = tn (s 18 x) ∧ d / 10 ≤ d * tn (s 4 0) / 10 ∧ d * tn (s 4 0) / 10 ≤ 10 * d := by
  have hJ0 := hJ
  obtain ⟨h0, h1, h2, h3, h4, h5, h6, h7, h8⟩ := hJ
  have h12 := h0.1
  have m13 := hJ0.m13 hx
  have m14 := hJ0.m14 hx
  have m16 := hJ0.m16 hx
  obtain ⟨-, -, -, -, -, ⟨r1, r2, r3⟩, -⟩ := h0
  have tx : tn (nI x) = x := tn_nI (by omega)
  have hsum := m13.1.add m14.1 (by omega)
  have hg0 : 0 < tn (s 13 x) + tn (s 14 x) := by omega
  have hp0 : 0 < s 13 x + s 14 x := by
    have := (Nn.z).lt hsum.1
    rw [tn_0] at this
    exact this.mpr (by omega)
  have hbr : brC s x (nI d) = nI (d * tn (s 14 x) / (tn (s 13 x) + tn (s 14 x))) := by
    unfold brC
    rw [if_pos hp0]
    have := br_n (d := d) (b := tn (s 14 x)) (a := tn (s 13 x) + tn (s 14 x)) (by omega) (by omega) hg0 (by omega) (by omega)
    rw [← m14.1.e, ← nI_add, ← m13.1.e, ← m14.1.e] at this
    exact this
  have hp1 : d * tn (s 14 x) / (tn (s 13 x) + tn (s 14 x)) ≤ d := by
    refine Nat.div_le_of_le_mul ?_
    rw [Nat.mul_comm _ d]
    exact Nat.mul_le_mul_left d (by omega)
  have hp2 : d * tn (s 14 x) / (tn (s 13 x) + tn (s 14 x)) ≤ tn (s 14 x) := by
    refine Nat.div_le_of_le_mul ?_
    exact Nat.mul_le_mul_right _ hd
  have hp3 : d - d * tn (s 14 x) / (tn (s 13 x) + tn (s 14 x)) ≤ tn (s 13 x) := by
    have : d - tn (s 13 x) ≤ d * tn (s 14 x) / (tn (s 13 x) + tn (s 14 x)) := by
      rw [Nat.le_div_iff_mul_le hg0]
      generalize tn (s 13 x) = g at *
      generalize tn (s 14 x) = b at *
      by_cases q : d ≤ g
      · rw [Nat.sub_eq_zero_of_le q, Nat.zero_mul]
        exact Nat.zero_le _
      · obtain ⟨e, rfl⟩ : ∃ e, d = g + e := ⟨d - g, by omega⟩
        rw [Nat.add_sub_cancel_left, Nat.mul_add, Nat.add_mul, Nat.mul_comm e g]
        have : g * e ≤ g * b := Nat.mul_le_mul_left g (by omega)
        omega
    omega
  generalize hpe : d * tn (s 14 x) / (tn (s 13 x) + tn (s 14 x)) = p at *
  have hpay1 : d * tn (s 4 0) ≤ d * 100 := Nat.mul_le_mul_left d r3
  have hpay0 : d * 1 ≤ d * tn (s 4 0) := Nat.mul_le_mul_left d r2
  have hpay : nI d * s 4 0 / 10 = nI (d * tn (s 4 0) / 10) := by
    have e : nI d * s 4 0 = nI (d * tn (s 4 0)) := by rw [← pk_mul, ← r1.e]
    rw [e]
    exact pk_div (d := 10) (by omega) (by omega) (by omega)
  have hpb : d * tn (s 4 0) / 10 ≤ 10 * d := by omega
  have hpc : d / 10 ≤ d * tn (s 4 0) / 10 := by omega
  generalize d * tn (s 4 0) / 10 = pay at *
  have hns : ¬ s 13 x + s 14 x < s 14 x * 20 := fun z => hs ((sus_n hJ0 hk hx).mp z)
  have hR : sellRC s (nI x) (nI d) = nI pay := by
    unfold sellRC
    rw [tx, if_neg hns, hpay]
  have hdp : nI d - nI p = nI (d - p) := pk_sub hp1
  have v14 : s 14 x - nI p = nI (tn (s 14 x) - p) := by rw [← pk_sub hp2, ← m14.1.e]
  have v13 : s 13 x - nI (d - p) = nI (tn (s 13 x) - (d - p)) := by rw [← pk_sub hp3, ← m13.1.e]
  have v16 : s 16 x + nI pay = nI (tn (s 16 x) + pay) := by rw [← nI_add, ← m16.1.e]
  have v7 : s 7 0 + nI (d - p) = nI (tn (s 7 0) + (d - p)) := by rw [← nI_add, ← h2.2.2.2.1.e]
  have hU : sellUC s (nI x) (nI d) = su (su (su (su s 14 x (nI (tn (s 14 x) - p))) 13 x (nI (tn (s 13 x) - (d - p)))) 16 x (nI (tn (s 16 x) + pay))) 7 0 (nI (tn (s 7 0) + (d - p))) := by
    unfold sellUC
    rw [tx, if_neg hns, hbr, hdp, v14, v13, hpay, v16, v7]
  have htt := hJ0.tt
  have h7b : tn (s 7 0) ≤ tot s nm := by unfold tot; omega
  have f7 : tn (nI (tn (s 7 0) + (d - p))) = tn (s 7 0) + (d - p) := tn_nI (by omega)
  have f13 : tn (nI (tn (s 13 x) - (d - p))) = tn (s 13 x) - (d - p) := tn_nI (by omega)
  have f14 : tn (nI (tn (s 14 x) - p)) = tn (s 14 x) - p := tn_nI (by omega)
  have f16 : tn (nI (tn (s 16 x) + pay)) = tn (s 16 x) + pay := tn_nI (by omega)
  refine ⟨hR, ?_⟩
  rw [hU]
  have e13 : (su (su (su (su s 14 x (nI (tn (s 14 x) - p))) 13 x (nI (tn (s 13 x) - (d - p)))) 16 x (nI (tn (s 16 x) + pay))) 7 0 (nI (tn (s 7 0) + (d - p)))) 13 = upd (s 13) x (nI (tn (s 13 x) - (d - p))) := rfl
  have e14 : (su (su (su (su s 14 x (nI (tn (s 14 x) - p))) 13 x (nI (tn (s 13 x) - (d - p)))) 16 x (nI (tn (s 16 x) + pay))) 7 0 (nI (tn (s 7 0) + (d - p)))) 14 = upd (s 14) x (nI (tn (s 14 x) - p)) := rfl
  have e16 : (su (su (su (su s 14 x (nI (tn (s 14 x) - p))) 13 x (nI (tn (s 13 x) - (d - p)))) 16 x (nI (tn (s 16 x) + pay))) 7 0 (nI (tn (s 7 0) + (d - p)))) 16 = upd (s 16) x (nI (tn (s 16 x) + pay)) := rfl
  have e7 : (su (su (su (su s 14 x (nI (tn (s 14 x) - p))) 13 x (nI (tn (s 13 x) - (d - p)))) 16 x (nI (tn (s 16 x) + pay))) 7 0 (nI (tn (s 7 0) + (d - p)))) 7 = upd (s 7) 0 (nI (tn (s 7 0) + (d - p))) := rfl
  have o : ∀ q : Nat, q ≠ 7 → q ≠ 13 → q ≠ 14 → q ≠ 16 → (su (su (su (su s 14 x (nI (tn (s 14 x) - p))) 13 x (nI (tn (s 13 x) - (d - p)))) 16 x (nI (tn (s 16 x) + pay))) 7 0 (nI (tn (s 7 0) + (d - p)))) q = s q := fun q q7 q13 q14 q16 => by rw [su_o q7, su_o q16, su_o q13, su_o q14]
  generalize (su (su (su (su s 14 x (nI (tn (s 14 x) - p))) 13 x (nI (tn (s 13 x) - (d - p)))) 16 x (nI (tn (s 16 x) + pay))) 7 0 (nI (tn (s 7 0) + (d - p)))) = z at *
  have s13 := SN_put (f := s 13) hx f13
  have s16 := SN_put (f := s 16) hx f16
  have l13 := SN_le (f := s 13) nm hx
  have htot : tot z nm = tot s nm := by
    unfold tot
    rw [e13, e7, upd_a, f7, o 9 (by decide) (by decide) (by decide) (by decide), o 6 (by decide) (by decide) (by decide) (by decide)]
    omega
  refine ⟨⟨hJ0.1.cg (o 0 (by decide) (by decide) (by decide) (by decide)) (o 1 (by decide) (by decide) (by decide) (by decide)) (o 2 (by decide) (by decide) (by decide) (by decide)) (o 3 (by decide) (by decide) (by decide) (by decide)) (o 4 (by decide) (by decide) (by decide) (by decide)) (by rw [o 12 (by decide) (by decide) (by decide) (by decide)]) (by rw [o 21 (by decide) (by decide) (by decide) (by decide)]) (by rw [o 33 (by decide) (by decide) (by decide) (by decide)]), h1.cg (by omega) (o 5 (by decide) (by decide) (by decide) (by decide)) (o 50 (by decide) (by decide) (by decide) (by decide)), ?_, h3.cg (o 11 (by decide) (by decide) (by decide) (by decide)), ?_, h5.cg (o 20 (by decide) (by decide) (by decide) (by decide)), h6.cg (o 0 (by decide) (by decide) (by decide) (by decide)) (o 17 (by decide) (by decide) (by decide) (by decide)) (o 22 (by decide) (by decide) (by decide) (by decide)) (o 23 (by decide) (by decide) (by decide) (by decide)) (o 24 (by decide) (by decide) (by decide) (by decide)) (o 25 (by decide) (by decide) (by decide) (by decide)) (o 26 (by decide) (by decide) (by decide) (by decide)) (o 27 (by decide) (by decide) (by decide) (by decide)), h7.cg (o 22 (by decide) (by decide) (by decide) (by decide)) (o 31 (by decide) (by decide) (by decide) (by decide)) (o 53 (by decide) (by decide) (by decide) (by decide)), h8.cg (o 34 (by decide) (by decide) (by decide) (by decide)) (o 35 (by decide) (by decide) (by decide) (by decide))⟩, hT.cg (by omega) htot (o 8 (by decide) (by decide) (by decide) (by decide)) (o 19 (by decide) (by decide) (by decide) (by decide)) (o 31 (by decide) (by decide) (by decide) (by decide)) (o 53 (by decide) (by decide) (by decide) (by decide)) (o 34 (by decide) (by decide) (by decide) (by decide)) (o 35 (by decide) (by decide) (by decide) (by decide)) (fun _ _ h => by rw [o 17 (by decide) (by decide) (by decide) (by decide)]; exact h), p, hp1, hp2, hp3, ?_, ?_, ?_, ?_, ?_, hpc, hpb⟩
  · unfold K2
    rw [htot, o 6 (by decide) (by decide) (by decide) (by decide), o 9 (by decide) (by decide) (by decide) (by decide), o 10 (by decide) (by decide) (by decide) (by decide), e7, e13, upd_a]
    refine ⟨h2.1, h2.2.1, h2.2.2.1, Nn.of (by omega), fun i hi => ?_, by omega, by have := h2.2.2.2.2.2.2; omega⟩
    unfold upd
    split
    · exact Nn.of (by omega)
    · exact h2.2.2.2.2.1 i hi
  · unfold K4
    rw [o 15 (by decide) (by decide) (by decide) (by decide), o 17 (by decide) (by decide) (by decide) (by decide), o 18 (by decide) (by decide) (by decide) (by decide), e14, e16]
    refine ⟨fun i hi => ?_, by have := h4.2; omega⟩
    obtain ⟨g1, g2, g3, g4, g5⟩ := h4.1 i hi
    refine ⟨?_, ⟨g2.1, by have := g2.2; omega⟩, ?_, g4, ⟨g5.1, by have := g5.2; omega⟩⟩
    · unfold upd
      split
      · exact ⟨Nn.of (by omega), by omega⟩
      · exact g1
    · unfold upd
      split
      · exact Nn.of (by omega)
      · exact g3
  · rw [e14, upd_a]; exact f14
  · rw [e13, upd_a]; exact f13
  · rw [e16, upd_a]; exact f16
  · rw [e7, upd_a]; exact f7
  · rw [o 18 (by decide) (by decide) (by decide) (by decide)]
theorem P_salt (hJ : Js s nm nc nr k) (hT : K9 s t nm nc nr k) (hk : k ≤ 130) {x c m : Nat} (hx : x < nm) (hc : c < 40) (hm : m ≤ tn (s 13 x)) : Js (saltUC s nc (nI x) (nI c) (nI m)) nm nc nr (k + 1) ∧ (∀ t1, t1 = su t 0 4 1 → K9 (saltUC s nc (nI x) (nI c) (nI m)) t1 nm nc nr (k + 1)) ∧ grF (saltUC s nc (nI x) (nI c) (nI m)) (nI c) = nI (tn (s 9 c) + m) ∧ tn (saltUC s nc (nI x) (nI c) (nI m) 9 c) = tn (s 9 c) + m ∧ SN (saltUC s nc (nI x) (nI c) (nI m) 9) 40 = SN (s 9) 40 + m ∧ tn (saltUC s nc (nI x) (nI c) (nI m) 13 x) = tn (s 13 x) - m := by
  have hJ0 := hJ
  obtain ⟨h0, h1, h2, h3, h4, h5, h6, h7, h8⟩ := hJ
  have h12 := h0.1
  have m13 := hJ0.m13 hx
  have g9 := hJ0.g9 hc
  have htt := hJ0.tt
  have tx : tn (nI x) = x := tn_nI (by omega)
  have tc : tn (nI c) = c := tn_nI (by omega)
  have v13 : s 13 x - nI m = nI (tn (s 13 x) - m) := by rw [← pk_sub hm, ← m13.1.e]
  have v9 : s 9 c + nI m = nI (tn (s 9 c) + m) := by rw [← nI_add, ← g9.1.e]
  have f13 : tn (nI (tn (s 13 x) - m)) = tn (s 13 x) - m := tn_nI (by omega)
  have f9 : tn (nI (tn (s 9 c) + m)) = tn (s 9 c) + m := tn_nI (by omega)
  have hU : ∀ q : Nat, q ≠ 54 → saltUC s nc (nI x) (nI c) (nI m) q = su (su (su (su s 13 x (nI (tn (s 13 x) - m))) 9 c (nI (tn (s 9 c) + m))) 8 0 1) 52 (40 * x + c) (s 0 0) q := fun q hq => by
    unfold saltUC dropF
    rw [spW_o hq, if_pos (cell_in hc), tx, tc, v13, show su s 13 x (nI (tn (s 13 x) - m)) 9 c = s 9 c from rfl, v9]
  have e13 : saltUC s nc (nI x) (nI c) (nI m) 13 = upd (s 13) x (nI (tn (s 13 x) - m)) := hU 13 (by decide)
  have e9 : saltUC s nc (nI x) (nI c) (nI m) 9 = upd (s 9) c (nI (tn (s 9 c) + m)) := hU 9 (by decide)
  have e8 : saltUC s nc (nI x) (nI c) (nI m) 8 0 = 1 := by rw [hU 8 (by decide)]; rfl
  have o : ∀ q : Nat, q ≠ 54 → q ≠ 13 → q ≠ 9 → q ≠ 8 → q ≠ 52 → saltUC s nc (nI x) (nI c) (nI m) q = s q := fun q q54 q13 q9 q8 q52 => by rw [hU q q54, su_o q52, su_o q8, su_o q9, su_o q13]
  have hgr : grF (saltUC s nc (nI x) (nI c) (nI m)) (nI c) = nI (tn (s 9 c) + m) := by
    rw [(gr_nat hc).1, e9, upd_a]
  generalize saltUC s nc (nI x) (nI c) (nI m) = z at *
  have s13 := SN_put (f := s 13) hx f13
  have s9 := SN_put (f := s 9) hc f9
  have l13 := SN_le (f := s 13) nm hx
  have htot : tot z nm = tot s nm := by
    unfold tot
    rw [e13, e9, o 7 (by decide) (by decide) (by decide) (by decide) (by decide), o 6 (by decide) (by decide) (by decide) (by decide) (by decide)]
    omega
  refine ⟨⟨h0.cg (o 0 (by decide) (by decide) (by decide) (by decide) (by decide)) (o 1 (by decide) (by decide) (by decide) (by decide) (by decide)) (o 2 (by decide) (by decide) (by decide) (by decide) (by decide)) (o 3 (by decide) (by decide) (by decide) (by decide) (by decide)) (o 4 (by decide) (by decide) (by decide) (by decide) (by decide)) (by rw [o 12 (by decide) (by decide) (by decide) (by decide) (by decide)]) (by rw [o 21 (by decide) (by decide) (by decide) (by decide) (by decide)]) (by rw [o 33 (by decide) (by decide) (by decide) (by decide) (by decide)]), h1.cg (by omega) (o 5 (by decide) (by decide) (by decide) (by decide) (by decide)) (o 50 (by decide) (by decide) (by decide) (by decide) (by decide)), ?_, h3.cg (o 11 (by decide) (by decide) (by decide) (by decide) (by decide)), h4.cg (by omega) (o 14 (by decide) (by decide) (by decide) (by decide) (by decide)) (o 15 (by decide) (by decide) (by decide) (by decide) (by decide)) (o 16 (by decide) (by decide) (by decide) (by decide) (by decide)) (o 17 (by decide) (by decide) (by decide) (by decide) (by decide)) (o 18 (by decide) (by decide) (by decide) (by decide) (by decide)), h5.cg (o 20 (by decide) (by decide) (by decide) (by decide) (by decide)), h6.cg (o 0 (by decide) (by decide) (by decide) (by decide) (by decide)) (o 17 (by decide) (by decide) (by decide) (by decide) (by decide)) (o 22 (by decide) (by decide) (by decide) (by decide) (by decide)) (o 23 (by decide) (by decide) (by decide) (by decide) (by decide)) (o 24 (by decide) (by decide) (by decide) (by decide) (by decide)) (o 25 (by decide) (by decide) (by decide) (by decide) (by decide)) (o 26 (by decide) (by decide) (by decide) (by decide) (by decide)) (o 27 (by decide) (by decide) (by decide) (by decide) (by decide)), h7.cg (o 22 (by decide) (by decide) (by decide) (by decide) (by decide)) (o 31 (by decide) (by decide) (by decide) (by decide) (by decide)) (o 53 (by decide) (by decide) (by decide) (by decide) (by decide)), h8.cg (o 34 (by decide) (by decide) (by decide) (by decide) (by decide)) (o 35 (by decide) (by decide) (by decide) (by decide) (by decide))⟩, fun t1 ht1 => ?_, hgr, ?_, ?_, ?_⟩
  · unfold K2
    rw [htot, o 6 (by decide) (by decide) (by decide) (by decide) (by decide), o 7 (by decide) (by decide) (by decide) (by decide) (by decide), o 10 (by decide) (by decide) (by decide) (by decide) (by decide), e9, e13]
    refine ⟨fun j hj => ?_, h2.2.1, h2.2.2.1, h2.2.2.2.1, fun i hi => ?_, by omega, by have := h2.2.2.2.2.2.2; omega⟩
    · unfold upd
      split
      · exact Nn.of (by omega)
      · exact h2.1 j hj
    · unfold upd
      split
      · exact Nn.of (by omega)
      · exact h2.2.2.2.2.1 i hi
  · subst ht1
    obtain ⟨⟨a, b, c1, d, e, p, hp, hp2⟩, t1, t2, t3, t4⟩ := hT
    have e00 : ∀ j, j ≠ 4 → su t 0 4 1 0 j = t 0 j := fun j hj => su_b hj
    refine ⟨⟨?_, ?_, ?_, ?_, ⟨?_, Or.inr e8⟩, p, ?_, by omega⟩, ?_, ?_, ?_, ?_⟩
    · rw [e00 0 (by decide)]; exact a
    · rw [e00 1 (by decide)]; exact b
    · rw [e00 2 (by decide)]; exact c1
    · rw [e00 3 (by decide), htot]; exact d
    · rw [su_a, e8]
    · rw [e00 5 (by decide)]; exact hp
    · unfold T1
      rw [o 34 (by decide) (by decide) (by decide) (by decide) (by decide), o 35 (by decide) (by decide) (by decide) (by decide) (by decide)]
      exact t1
    · unfold T2
      rw [o 19 (by decide) (by decide) (by decide) (by decide) (by decide)]
      exact t2
    · unfold T3
      rw [o 17 (by decide) (by decide) (by decide) (by decide) (by decide)]
      exact t3
    · unfold T4
      rw [o 31 (by decide) (by decide) (by decide) (by decide) (by decide), o 53 (by decide) (by decide) (by decide) (by decide) (by decide)]
      exact t4
  · rw [e9, upd_a]; exact f9
  · rw [e9]; omega
  · rw [e13, upd_a]; exact f13
end DU
