/-! work, in numbers -/
section WK
variable {s t : SS} {nm nc nr k : Nat}
/-- what backers get of it, by the first n -/
def shN (s : SS) (x got : Nat) : Nat → Nat
  | 0 => 0
  | b + 1 => shN s x got b + got * tn (s 20 (12 * x + b)) / 100
theorem shN_b {x got : Nat} : ∀ n, 100 * shN s x got n ≤ got * SN (fun b => s 20 (12 * x + b)) n
  | 0 => Nat.zero_le _
  | n + 1 => by
    have h1 := shN_b (x := x) (got := got) n
    have e1 : shN s x got (n + 1) = shN s x got n + got * tn (s 20 (12 * x + n)) / 100 := rfl
    have e2 : SN (fun b => s 20 (12 * x + b)) (n + 1) = SN (fun b => s 20 (12 * x + b)) n + tn (s 20 (12 * x + n)) := rfl
    have h2 := Nat.div_mul_le_self (got * tn (s 20 (12 * x + n))) 100
    rw [e1, e2, Nat.mul_add got]
    omega
theorem sh_n {x got : Nat} (hg : got ≤ 1000) (h12 : nm ≤ 12) (h13 : ∀ i, i < nm → Nn (s 13 i)) (h20 : ∀ b, b < 12 → Nn (s 20 (12 * x + b))) (hp : SN (fun b => s 20 (12 * x + b)) 12 ≤ 100) : ∀ n, n ≤ nm → (∀ i, shW s x (nI got) n 13 i = if i < n then nI (tn (s 13 i) + got * tn (s 20 (12 * x + i)) / 100) else s 13 i) ∧ shL s x (nI got) n = nI (got - shN s x got n) ∧ shN s x got n ≤ got
  | 0, _ => ⟨fun i => (if_neg (Nat.not_lt_zero i)).symm, rfl, Nat.zero_le _⟩
  | n + 1, hn => by
    obtain ⟨a, b, c⟩ := sh_n hg h12 h13 h20 hp n (by omega)
    have hpn := h20 n (by omega)
    have hpl : tn (s 20 (12 * x + n)) ≤ 100 := Nat.le_trans (SN_le (f := fun b => s 20 (12 * x + b)) 12 (show n < 12 by omega)) hp
    have hmul : got * tn (s 20 (12 * x + n)) ≤ 1000 * 100 := Nat.mul_le_mul hg hpl
    have ev : nI got * s 20 (12 * x + n) / 100 = nI (got * tn (s 20 (12 * x + n)) / 100) := by
      have e : nI got * s 20 (12 * x + n) = nI (got * tn (s 20 (12 * x + n))) := by rw [← pk_mul, ← hpn.e]
      rw [e]
      exact pk_div (d := 100) (by omega) (by omega) (by omega)
    have hs := shN_b (s := s) (x := x) (got := got) (n + 1)
    have hm := SN_m (f := fun b => s 20 (12 * x + b)) (show n + 1 ≤ 12 by omega)
    have hm2 : got * SN (fun b => s 20 (12 * x + b)) (n + 1) ≤ got * 100 := Nat.mul_le_mul_left got (by omega)
    have e1 : shN s x got (n + 1) = shN s x got n + got * tn (s 20 (12 * x + n)) / 100 := rfl
    refine ⟨fun i => ?_, ?_, by omega⟩
    · show su (shW s x (nI got) n) 13 n (shW s x (nI got) n 13 n + nI got * s 20 (12 * x + n) / 100) 13 i = _
      rw [ev, a n, if_neg (Nat.lt_irrefl n)]
      by_cases q : i = n
      · subst q
        rw [su_a, if_pos (Nat.lt_succ_self i), ← nI_add, ← (h13 i (by omega)).e]
      · rw [su_b q, a i]
        by_cases q2 : i < n
        · rw [if_pos q2, if_pos (by omega)]
        · rw [if_neg q2, if_neg (by omega)]
    · show shL s x (nI got) n - nI got * s 20 (12 * x + n) / 100 = _
      rw [ev, b, pk_sub (by omega), e1, Nat.sub_sub]
theorem shW_s {x got : Nat} (f : Nat → Int32) (h13 : ∀ i, i < nm → tn (s 13 i) ≤ 1000000) (hg : got ≤ 1000) (hp : ∀ b, b < nm → tn (s 20 (12 * x + b)) ≤ 100) (hf : ∀ i, i < nm → f i = nI (tn (s 13 i) + got * tn (s 20 (12 * x + i)) / 100)) : ∀ n, n ≤ nm → SN f n = SN (s 13) n + shN s x got n
  | 0, _ => rfl
  | n + 1, hn => by
    have h1 := shW_s f h13 hg hp hf n (by omega)
    have h2 := h13 n (by omega)
    have hmul : got * tn (s 20 (12 * x + n)) ≤ 1000 * 100 := Nat.mul_le_mul hg (hp n (by omega))
    show SN f n + tn (f n) = SN (s 13) n + tn (s 13 n) + (shN s x got n + got * tn (s 20 (12 * x + n)) / 100)
    rw [hf n (by omega), tn_nI (by omega)]
    omega
theorem neg_n {x : Int32} {a : Nat} (hx : Nn x) (h : a ≤ tn x) : x + -(nI a) = nI (tn x - a) := by
  rw [← Int32.sub_eq_add_neg, ← pk_sub h, ← hx.e]
theorem dig_n (hJ : Js s nm nc nr k) (hk : k ≤ 130) {c g : Nat} (hc : c < 40) (hg : g < 4) : workRC s (nI c) (nI g) = nI (rcN g (tn (s 9 c)) (tn (s 10 c))) ∧ (∀ j, j < 40 → Nn (digC s (nI c) (nI g) 9 j)) ∧ Nn (digC s (nI c) (nI g) 6 0) ∧ SN (digC s (nI c) (nI g) 9) 40 + tn (digC s (nI c) (nI g) 6 0) + rcN g (tn (s 9 c)) (tn (s 10 c)) = SN (s 9) 40 + tn (s 6 0) ∧ (c = 39 ∨ digC s (nI c) (nI g) 6 0 = s 6 0) := by
  have htt := hJ.tt
  obtain ⟨g1, g2⟩ := gr_nat (z := s) hc
  have n9 := hJ.g9 hc
  have n10 := hJ.2.2.1.2.1 c hc
  have n6 := hJ.2.2.1.2.2.1
  obtain ⟨m1, m2, m3, m4⟩ := most_nat g hg
  have h6b : tn (s 6 0) ≤ tot s nm := by unfold tot; omega
  have em : minF (s 9 c) (mostF (nI g)) = nI (min (tn (s 9 c)) (msN g)) := by
    have := min_nat (a := tn (s 9 c)) (b := msN g) (by omega) (by omega)
    rw [← n9.1.e, ← m1] at this
    exact this
  have er : rcF (nI g) (nI (min (tn (s 9 c)) (msN g))) (s 10 c) = nI (rcN g (tn (s 9 c)) (tn (s 10 c))) := by
    have := rc_nat (k := g) (x := tn (s 9 c)) (c := tn (s 10 c)) hg (by omega) n10.2
    rw [← n10.1.e] at this
    exact this
  have hle := rcN_le (k := g) (x := tn (s 9 c)) (c := tn (s 10 c))
  have tc : tn (nI c) = c := tn_nI (by omega)
  refine ⟨by unfold workRC; rw [tn_nI (show g < 2 ^ 31 by omega), g1, g2, em, er], ?_⟩
  generalize rcN g (tn (s 9 c)) (tn (s 10 c)) = got at *
  have htk : min (tn (s 9 c)) (msN g) ≤ tn (s 9 c) := Nat.min_le_left _ _
  generalize min (tn (s 9 c)) (msN g) = tk at *
  have e1 : dropF s (nI c) (-(nI tk)) = su s 9 c (nI (tn (s 9 c) - tk)) := by
    unfold dropF
    rw [if_pos (cell_in hc), tc, neg_n n9.1 htk]
  have eD : digC s (nI c) (nI g) = dropF (su s 9 c (nI (tn (s 9 c) - tk))) (nI (c + 1)) (nI (tk - got)) := by
    unfold digC
    rw [g1, g2, em, er, e1, nI_1, pk_sub hle]
  rw [eD]
  have f1 : tn (nI (tn (s 9 c) - tk)) = tn (s 9 c) - tk := tn_nI (by omega)
  have q1 := SN_put (f := s 9) hc f1
  by_cases h39 : c = 39
  · have ed : dropF (su s 9 c (nI (tn (s 9 c) - tk))) (nI (c + 1)) (nI (tk - got)) = su (su s 9 c (nI (tn (s 9 c) - tk))) 6 0 (nI (tn (s 6 0) + (tk - got))) := by
      unfold dropF
      rw [if_neg (by rw [h39]; decide), show su s 9 c (nI (tn (s 9 c) - tk)) 6 0 = s 6 0 from rfl, ← nI_add, ← n6.e]
    rw [ed]
    have f2 : tn (nI (tn (s 6 0) + (tk - got))) = tn (s 6 0) + (tk - got) := tn_nI (by omega)
    have e9 : su (su s 9 c (nI (tn (s 9 c) - tk))) 6 0 (nI (tn (s 6 0) + (tk - got))) 9 = upd (s 9) c (nI (tn (s 9 c) - tk)) := rfl
    have e6 : su (su s 9 c (nI (tn (s 9 c) - tk))) 6 0 (nI (tn (s 6 0) + (tk - got))) 6 0 = nI (tn (s 6 0) + (tk - got)) := rfl
    rw [e9, e6]
    refine ⟨fun j hj => ?_, Nn.of (by omega), by omega, Or.inl h39⟩
    unfold upd
    split
    · exact Nn.of (by omega)
    · exact (hJ.g9 hj).1
  · have n91 := hJ.g9 (c := c + 1) (by omega)
    have ed : dropF (su s 9 c (nI (tn (s 9 c) - tk))) (nI (c + 1)) (nI (tk - got)) = su (su s 9 c (nI (tn (s 9 c) - tk))) 9 (c + 1) (nI (tn (s 9 (c + 1)) + (tk - got))) := by
      unfold dropF
      rw [if_pos (cell_in (by omega)), tn_nI (show c + 1 < 2 ^ 31 by omega), su_b (show c + 1 ≠ c by omega), ← nI_add, ← n91.1.e]
    rw [ed]
    have f2 : tn (nI (tn (s 9 (c + 1)) + (tk - got))) = tn (s 9 (c + 1)) + (tk - got) := tn_nI (by omega)
    have q2 := SN_put (f := upd (s 9) c (nI (tn (s 9 c) - tk))) (i := c + 1) (n := 40) (by omega) f2
    rw [upd_b (show c + 1 ≠ c by omega)] at q2
    have e9 : su (su s 9 c (nI (tn (s 9 c) - tk))) 9 (c + 1) (nI (tn (s 9 (c + 1)) + (tk - got))) 9 = upd (upd (s 9) c (nI (tn (s 9 c) - tk))) (c + 1) (nI (tn (s 9 (c + 1)) + (tk - got))) := by rw [su_s, su_s]
    have e6 : su (su s 9 c (nI (tn (s 9 c) - tk))) 9 (c + 1) (nI (tn (s 9 (c + 1)) + (tk - got))) 6 0 = s 6 0 := rfl
    rw [e9, e6]
    refine ⟨fun j hj => ?_, n6, by omega, Or.inr rfl⟩
    unfold upd
    split
    · exact Nn.of (by omega)
    · split
      · exact Nn.of (by omega)
      · exact (hJ.g9 hj).1
theorem P_work (hJ : Js s nm nc nr k) (hT : K9 s t nm nc nr k) (hk : k ≤ 130) {x c g : Nat} (hx : x < nm) (hc : c < 40) (hg : g < 4) : ∃ got, workRC s (nI c) (nI g) = nI got ∧ got ≤ bestN g ∧ Js (workUC s nm nc (nI x) (nI c) (nI g)) nm nc nr (k + 1) ∧ (∀ t1, t1 = su (su t 2 x (nI (tn (s 0 0) + 1))) 0 4 1 → K9 (workUC s nm nc (nI x) (nI c) (nI g)) t1 nm nc nr (k + 1)) ∧ SN (workUC s nm nc (nI x) (nI c) (nI g) 13) nm = SN (s 13) nm + got ∧ SN (workUC s nm nc (nI x) (nI c) (nI g) 9) 40 + tn (workUC s nm nc (nI x) (nI c) (nI g) 6 0) + got = SN (s 9) 40 + tn (s 6 0) ∧ (c = 39 ∨ tn (workUC s nm nc (nI x) (nI c) (nI g) 6 0) = tn (s 6 0)) ∧ (∃ kept, kept ≤ got ∧ tn (workUC s nm nc (nI x) (nI c) (nI g) 13 x) = tn (s 13 x) + kept ∧ got * (100 - PS s x) ≤ 100 * kept) ∧ (∀ h, h < nc → heldC s (nI c) nc = nI h → tn (workUC s nm nc (nI x) (nI c) (nI g) 26 h) = tn (workUC s nm nc (nI x) (nI c) (nI g) 0 0)) ∧ workUC s nm nc (nI x) (nI c) (nI g) 19 x = workUC s nm nc (nI x) (nI c) (nI g) 0 0 ∧ tn (workUC s nm nc (nI x) (nI c) (nI g) 0 0) = tn (s 0 0) := by
  have hJ0 := hJ
  obtain ⟨d1, d2, d3, d4, d5⟩ := dig_n hJ hk hc hg
  have hbest := rcN_best (k := g) (x := tn (s 9 c)) (c := tn (s 10 c)) hg
  refine ⟨rcN g (tn (s 9 c)) (tn (s 10 c)), d1, hbest, ?_⟩
  generalize rcN g (tn (s 9 c)) (tn (s 10 c)) = got at *
  obtain ⟨h0, h1, h2, h3, h4, h5, h6, h7, h8⟩ := hJ
  have h12 := h0.1
  have hb1 : bestN g ≤ 1000 := (by decide : ∀ g, g < 4 → bestN g ≤ 1000) g hg
  have tx : tn (nI x) = x := tn_nI (by omega)
  have tg : tn (nI g) = g := tn_nI (by omega)
  have tc : tn (nI c) = c := tn_nI (by omega)
  have do_ : ∀ {q : Nat}, q ≠ 9 → q ≠ 6 → digC s (nI c) (nI g) q = s q := fun {q} a b => digC_o a b
  generalize hD : digC s (nI c) (nI g) = Dg at *
  have hU : workUC s nm nc (nI x) (nI c) (nI g) = shaF (wkE (su (su Dg 8 0 1) 19 x (s 0 0)) (heldC s (nI c) nc) (s 0 0)) x (nI got) nm := by
    unfold workUC
    rw [tg, tx, hD, d1]
  have zo : ∀ {q : Nat}, q ≠ 9 → q ≠ 6 → q ≠ 8 → q ≠ 19 → q ≠ 26 → wkE (su (su Dg 8 0 1) 19 x (s 0 0)) (heldC s (nI c) nc) (s 0 0) q = s q := fun {q} a1 a2 a3 a4 a5 => by rw [wkE_o a5, su_o a4, su_o a3, do_ a1 a2]
  have z9 : wkE (su (su Dg 8 0 1) 19 x (s 0 0)) (heldC s (nI c) nc) (s 0 0) 9 = Dg 9 := by rw [wkE_o (by decide), su_o (by decide), su_o (by decide)]
  have z6 : wkE (su (su Dg 8 0 1) 19 x (s 0 0)) (heldC s (nI c) nc) (s 0 0) 6 = Dg 6 := by rw [wkE_o (by decide), su_o (by decide), su_o (by decide)]
  have z8 : wkE (su (su Dg 8 0 1) 19 x (s 0 0)) (heldC s (nI c) nc) (s 0 0) 8 0 = 1 := by rw [wkE_o (by decide), su_o (by decide)]; exact su_a
  have z19 : wkE (su (su Dg 8 0 1) 19 x (s 0 0)) (heldC s (nI c) nc) (s 0 0) 19 = upd (s 19) x (s 0 0) := by rw [wkE_o (by decide), su_s, su_o (by decide), do_ (by decide) (by decide)]
  have z26 : ∀ i, i < nc → wkE (su (su Dg 8 0 1) 19 x (s 0 0)) (heldC s (nI c) nc) (s 0 0) 26 i = if heldC s (nI c) nc = nI i then s 0 0 else s 26 i := fun i hi => by
    unfold wkE
    by_cases q : heldC s (nI c) nc = -1
    · rw [if_pos q, if_neg (fun z => nI_m1 (n := i) (by omega) (z.symm.trans q)), su_o (by decide), su_o (by decide), do_ (by decide) (by decide)]
    · rw [if_neg q]
      rcases heldC_in (z := s) (x := nI c) nc with h9 | ⟨j, hj, h9⟩
      · exact absurd h9 q
      · rw [h9, tn_nI (by omega)]
        by_cases e : i = j
        · subst e
          rw [su_a, if_pos rfl]
        · rw [su_b e, if_neg (fun z => e (nI_inj (by omega) (by omega) z).symm), su_o (by decide), su_o (by decide), do_ (by decide) (by decide)]
  generalize wkE (su (su Dg 8 0 1) 19 x (s 0 0)) (heldC s (nI c) nc) (s 0 0) = z at *
  have y13 := zo (q := 13) (by decide) (by decide) (by decide) (by decide) (by decide)
  have y20 := zo (q := 20) (by decide) (by decide) (by decide) (by decide) (by decide)
  obtain ⟨w1, w2, w3⟩ := sh_n (s := z) (nm := nm) (x := x) (got := got) (by omega) h12.1 (by rw [y13]; exact h2.2.2.2.2.1) (by rw [y20]; exact fun b hb => h5.1 x b hx hb) (by rw [y20]; exact h5.2.1 x hx) nm (Nat.le_refl _)
  have hmx : ∀ i, i < nm → tn (s 13 i) ≤ 1000000 := fun i hi => by have := (hJ0.m13 hi).2; omega
  have hpx : ∀ b, b < nm → tn (s 20 (12 * x + b)) ≤ 100 := fun b hb => Nat.le_trans (SN_le (f := fun b => s 20 (12 * x + b)) 12 (show b < 12 by omega)) (h5.2.1 x hx)
  have hsum := shW_s (s := z) (nm := nm) (x := x) (got := got) (fun i => shW z x (nI got) nm 13 i) (by rw [y13]; exact hmx) (by omega) (by rw [y20]; exact hpx) (fun i hi => by show shW z x (nI got) nm 13 i = _; rw [w1 i, if_pos hi]) nm (Nat.le_refl _)
  have hself : tn (z 20 (12 * x + x)) = 0 := by rw [y20, h5.2.2.1 x hx, tn_0]
  have m13 := hJ0.m13 hx
  have wx : shW z x (nI got) nm 13 x = nI (tn (s 13 x)) := by
    rw [w1 x, if_pos hx, hself, Nat.mul_zero, Nat.zero_div, Nat.add_zero, y13]
  have eU13 : shaF z x (nI got) nm 13 = upd (fun i => shW z x (nI got) nm 13 i) x (nI (tn (s 13 x) + (got - shN z x got nm))) := by
    unfold shaF
    rw [su_s, wx, w2, nI_add]
  have fx : tn (nI (tn (s 13 x) + (got - shN z x got nm))) = tn (s 13 x) + (got - shN z x got nm) := tn_nI (by omega)
  have hput := SN_put (f := fun i => shW z x (nI got) nm 13 i) hx fx
  have hput0 : tn ((fun i => shW z x (nI got) nm 13 i) x) = tn (s 13 x) := by
    show tn (shW z x (nI got) nm 13 x) = _
    rw [wx, tn_nI (tn_lt _)]
  rw [hput0, hsum, y13] at hput
  have uo : ∀ {q : Nat}, q ≠ 13 → shaF z x (nI got) nm q = z q := fun {q} a => shaF_o a
  rw [hU]
  have s13 : SN (shaF z x (nI got) nm 13) nm = SN (s 13) nm + got := by
    rw [eU13]
    omega
  have hN13 : ∀ i, i < nm → Nn (shaF z x (nI got) nm 13 i) := fun i hi => by
    rw [eU13]
    unfold upd
    split
    · exact Nn.of (by omega)
    · show Nn (shW z x (nI got) nm 13 i)
      have h9 := hpx i hi
      have h10 := hmx i hi
      have hmul : got * tn (s 20 (12 * x + i)) ≤ 1000 * 100 := Nat.mul_le_mul (by omega) h9
      rw [w1 i, if_pos hi, y13, y20]
      exact Nn.of (by omega)
  have x13 : shaF z x (nI got) nm 13 x = nI (tn (s 13 x) + (got - shN z x got nm)) := by rw [eU13, upd_a]
  have hkept : got * (100 - PS s x) ≤ 100 * (got - shN z x got nm) := by
    have a1 := shN_b (s := z) (x := x) (got := got) nm
    rw [y20] at a1
    have a2 := SN_m (f := fun b => s 20 (12 * x + b)) h12.1
    have a3 : got * SN (fun b => s 20 (12 * x + b)) nm ≤ got * PS s x := Nat.mul_le_mul_left got a2
    have a4 := h5.2.1 x hx
    have a5 : PS s x ≤ 100 := a4
    obtain ⟨e, he⟩ : ∃ e, 100 = PS s x + e := ⟨100 - PS s x, by omega⟩
    have a6 : got * 100 = got * PS s x + got * e := by rw [← Nat.mul_add, ← he]
    rw [show 100 - PS s x = e by omega]
    omega
  generalize shaF z x (nI got) nm = u at *
  have uz : ∀ {q : Nat}, q ≠ 13 → q ≠ 9 → q ≠ 6 → q ≠ 8 → q ≠ 19 → q ≠ 26 → u q = s q := fun {q} a1 a2 a3 a4 a5 a6 => (uo a1).trans (zo a2 a3 a4 a5 a6)
  have u9 : u 9 = Dg 9 := (uo (by decide)).trans z9
  have u6 : u 6 = Dg 6 := (uo (by decide)).trans z6
  have u8 : u 8 0 = 1 := by rw [uo (by decide)]; exact z8
  have u19 : u 19 = upd (s 19) x (s 0 0) := (uo (by decide)).trans z19
  have u26 : ∀ i, i < nc → u 26 i = if heldC s (nI c) nc = nI i then s 0 0 else s 26 i := fun i hi => by rw [uo (by decide)]; exact z26 i hi
  have o0 := uz (q := 0) (by decide) (by decide) (by decide) (by decide) (by decide) (by decide)
  have htot : tot u nm = tot s nm := by
    unfold tot
    rw [s13, u9, u6, uz (q := 7) (by decide) (by decide) (by decide) (by decide) (by decide) (by decide)]
    omega
  refine ⟨⟨h0.cg o0 (uz (by decide) (by decide) (by decide) (by decide) (by decide) (by decide)) (uz (by decide) (by decide) (by decide) (by decide) (by decide) (by decide)) (uz (by decide) (by decide) (by decide) (by decide) (by decide) (by decide)) (uz (by decide) (by decide) (by decide) (by decide) (by decide) (by decide)) (by rw [uz (q := 12) (by decide) (by decide) (by decide) (by decide) (by decide) (by decide)]) (by rw [uz (q := 21) (by decide) (by decide) (by decide) (by decide) (by decide) (by decide)]) (by rw [uz (q := 33) (by decide) (by decide) (by decide) (by decide) (by decide) (by decide)]), h1.cg (by omega) (uz (by decide) (by decide) (by decide) (by decide) (by decide) (by decide)) (uz (by decide) (by decide) (by decide) (by decide) (by decide) (by decide)), ?_, h3.cg (uz (by decide) (by decide) (by decide) (by decide) (by decide) (by decide)), h4.cg (by omega) (uz (by decide) (by decide) (by decide) (by decide) (by decide) (by decide)) (uz (by decide) (by decide) (by decide) (by decide) (by decide) (by decide)) (uz (by decide) (by decide) (by decide) (by decide) (by decide) (by decide)) (uz (by decide) (by decide) (by decide) (by decide) (by decide) (by decide)) (uz (by decide) (by decide) (by decide) (by decide) (by decide) (by decide)), h5.cg (uz (by decide) (by decide) (by decide) (by decide) (by decide) (by decide)), ?_, h7.cg (uz (by decide) (by decide) (by decide) (by decide) (by decide) (by decide)) (uz (by decide) (by decide) (by decide) (by decide) (by decide) (by decide)) (uz (by decide) (by decide) (by decide) (by decide) (by decide) (by decide)), h8.cg (uz (by decide) (by decide) (by decide) (by decide) (by decide) (by decide)) (uz (by decide) (by decide) (by decide) (by decide) (by decide) (by decide))⟩, fun t1 ht1 => ?_, s13, ?_, ?_, ⟨got - shN z x got nm, by omega, ?_, hkept⟩, fun h hh hh2 => ?_, ?_, ?_⟩
  · unfold K2
    rw [htot, s13, u9, u6, uz (q := 10) (by decide) (by decide) (by decide) (by decide) (by decide) (by decide), uz (q := 7) (by decide) (by decide) (by decide) (by decide) (by decide) (by decide)]
    exact ⟨d2, h2.2.1, d3, h2.2.2.2.1, hN13, by have := h2.2.2.2.2.2.1; omega, by have := h2.2.2.2.2.2.2; omega⟩
  · unfold K6 cov
    rw [o0, uz (q := 17) (by decide) (by decide) (by decide) (by decide) (by decide) (by decide), uz (q := 22) (by decide) (by decide) (by decide) (by decide) (by decide) (by decide), uz (q := 23) (by decide) (by decide) (by decide) (by decide) (by decide) (by decide), uz (q := 24) (by decide) (by decide) (by decide) (by decide) (by decide) (by decide), uz (q := 25) (by decide) (by decide) (by decide) (by decide) (by decide) (by decide), uz (q := 27) (by decide) (by decide) (by decide) (by decide) (by decide) (by decide)]
    refine ⟨fun i hi => ?_, h6.2⟩
    obtain ⟨g1, g2, g3, g4, g5, g6⟩ := h6.1 i hi
    rw [u26 i hi]
    by_cases q : heldC s (nI c) nc = nI i
    · rw [if_pos q]
      exact ⟨g1, g2, ⟨h0.2.1.1, Nat.le_refl _⟩, g4, g5, fun w => ⟨(g6 w).1, Nat.le_add_right _ _⟩⟩
    · rw [if_neg q]
      exact ⟨g1, g2, g3, g4, g5, g6⟩
  · subst ht1
    obtain ⟨⟨a, b, c1, d, e, p, hp, hp2⟩, t1, t2, t3, t4⟩ := hT
    have e00 : ∀ j, j ≠ 4 → su (su t 2 x (nI (tn (s 0 0) + 1))) 0 4 1 0 j = t 0 j := fun j hj => su_b hj
    have e2 : ∀ j, su (su t 2 x (nI (tn (s 0 0) + 1))) 0 4 1 2 j = if j = x then nI (tn (s 0 0) + 1) else t 2 j := fun j => by
      rw [su_o (by decide), su_s]
      rfl
    refine ⟨⟨?_, ?_, ?_, ?_, ⟨?_, Or.inr u8⟩, p, ?_, by omega⟩, ?_, ⟨fun i hi => ?_, fun i hi hi2 => ?_⟩, fun i hi => ?_, ?_⟩
    · rw [e00 0 (by decide)]; exact a
    · rw [e00 1 (by decide)]; exact b
    · rw [e00 2 (by decide)]; exact c1
    · rw [e00 3 (by decide), htot]; exact d
    · rw [su_a, u8]
    · rw [e00 5 (by decide)]; exact hp
    · unfold T1
      rw [uz (q := 34) (by decide) (by decide) (by decide) (by decide) (by decide) (by decide), uz (q := 35) (by decide) (by decide) (by decide) (by decide) (by decide) (by decide)]
      exact t1
    · rw [e2, u19]
      by_cases q : i = x
      · subst q
        rw [if_pos rfl, upd_a]
        exact ⟨tn (s 0 0) + 1, rfl, by rw [nI_prd (by omega), Nat.add_sub_cancel]; exact h0.2.1.1.e, by have := h0.2.1.2; omega⟩
      · rw [if_neg q, upd_b q]
        exact t2.1 i hi
    · rw [e2, if_neg (by omega)]
      exact t2.2 i hi hi2
    · rw [e2, if_neg (by omega), uz (q := 17) (by decide) (by decide) (by decide) (by decide) (by decide) (by decide)]
      exact t3 i hi
    · unfold T4
      rw [uz (q := 31) (by decide) (by decide) (by decide) (by decide) (by decide) (by decide), uz (q := 53) (by decide) (by decide) (by decide) (by decide) (by decide) (by decide)]
      exact t4
  · rw [u9, u6]; exact d4
  · rw [u6]
    rcases d5 with d5 | d5
    · exact Or.inl d5
    · exact Or.inr (by rw [d5])
  · rw [x13]; exact fx
  · rw [u26 h hh, if_pos hh2, o0]
  · rw [u19, upd_a, o0]
  · rw [o0]
end WK
