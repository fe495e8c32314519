/-! what each call does, in numbers -/
section OPS
variable {s t : SS} {nm nc nr k : Nat}
theorem P_flow (hJ : Js s nm nc nr k) (hT : K9 s t nm nc nr k) {x : Nat} (hx : x ≤ 1000) : Js (flowU s (nI x)) nm nc nr k ∧ K9 (flowU s (nI x)) t nm nc nr k ∧ tn (flowU s (nI x) 1 0) = x := by
  obtain ⟨h0, h1, h2, h3, h4, h5, h6, h7, h8⟩ := hJ
  have e : flowU s (nI x) 1 0 = nI x := su_a
  have e2 : tn (flowU s (nI x) 1 0) = x := by rw [e, tn_nI (by omega)]
  refine ⟨⟨?_, h1.cg (Nat.le_refl _) rfl rfl, h2.cg (Nat.le_refl _) rfl rfl rfl rfl rfl, h3.cg rfl, h4.cg (Nat.le_refl _) rfl rfl rfl rfl rfl, h5.cg rfl, h6.cg rfl rfl rfl rfl rfl rfl rfl rfl, h7.cg rfl rfl rfl, h8.cg rfl rfl⟩, hT.cg (Nat.le_refl _) rfl rfl rfl rfl rfl rfl rfl (fun _ _ z => z), e2⟩
  obtain ⟨a1, a2, a3, a4⟩ := h0
  exact ⟨a1, a2, ⟨by rw [e]; exact Nn.of (by omega), by omega⟩, a4⟩
theorem P_rate (hJ : Js s nm nc nr k) (hT : K9 s t nm nc nr k) {x : Nat} (h1x : 1 ≤ x) (hx : x ≤ 100) : Js (rateU s (nI x)) nm nc nr k ∧ K9 (rateU s (nI x)) t nm nc nr k ∧ tn (rateU s (nI x) 4 0) = x := by
  obtain ⟨h0, h1, h2, h3, h4, h5, h6, h7, h8⟩ := hJ
  have e : rateU s (nI x) 4 0 = nI x := su_a
  have e2 : tn (rateU s (nI x) 4 0) = x := by rw [e, tn_nI (by omega)]
  refine ⟨⟨?_, h1.cg (Nat.le_refl _) rfl rfl, h2.cg (Nat.le_refl _) rfl rfl rfl rfl rfl, h3.cg rfl, h4.cg (Nat.le_refl _) rfl rfl rfl rfl rfl, h5.cg rfl, h6.cg rfl rfl rfl rfl rfl rfl rfl rfl, h7.cg rfl rfl rfl, h8.cg rfl rfl⟩, hT.cg (Nat.le_refl _) rfl rfl rfl rfl rfl rfl rfl (fun _ _ z => z), e2⟩
  obtain ⟨a1, a2, a3, a4, a5, a6, a7⟩ := h0
  exact ⟨a1, a2, a3, a4, a5, ⟨by rw [e]; exact Nn.of (by omega), by omega, by omega⟩, a7⟩
theorem P_meet (hJ : Js s nm nc nr k) (hT : K9 s t nm nc nr k) {m d y n : Nat} (hm1 : 1 ≤ m) (hm : m ≤ 10) (hd1 : 1 ≤ d) (hd : d ≤ 100) (hy : y ≤ 12) (hn : n ≤ 12) : Js (meetU s nm (nI m) (nI d) (nI y) (nI n)) nm nc nr k ∧ K9 (meetU s nm (nI m) (nI d) (nI y) (nI n)) t nm nc nr k ∧ tn (meetU s nm (nI m) (nI d) (nI y) (nI n) 2 0) = (if n < y then m else tn (s 2 0)) := by
  unfold meetU
  by_cases q : n < y
  · rw [if_pos ((nI_ltI (by omega) (by omega)).mpr q), if_pos q]
    obtain ⟨h0, h1, h2, h3, h4, h5, h6, h7, h8⟩ := hJ
    have e : su (su s 2 0 (nI m)) 3 0 (nI d) 2 0 = nI m := (congrFun (su_o (by decide)) 0).trans su_a
    have e3 : su (su s 2 0 (nI m)) 3 0 (nI d) 3 0 = nI d := su_a
    refine ⟨⟨?_, h1.cg (Nat.le_refl _) rfl rfl, h2.cg (Nat.le_refl _) rfl rfl rfl rfl rfl, h3.cg rfl, h4.cg (Nat.le_refl _) rfl rfl rfl rfl rfl, h5.cg rfl, h6.cg rfl rfl rfl rfl rfl rfl rfl rfl, h7.cg rfl rfl rfl, h8.cg rfl rfl⟩, hT.cg (Nat.le_refl _) rfl rfl rfl rfl rfl rfl rfl (fun _ _ z => z), by rw [e, tn_nI (by omega)]⟩
    obtain ⟨a1, a2, a3, a4, a5, a6, a7⟩ := h0
    refine ⟨a1, a2, a3, ⟨?_, ?_⟩, ⟨?_, ?_⟩, a6, a7⟩
    · rw [e]; exact Nn.of (by omega)
    · rw [e, tn_nI (by omega)]; exact ⟨hm1, hm⟩
    · rw [e3]; exact Nn.of (by omega)
    · rw [e3, tn_nI (by omega)]; exact ⟨hd1, hd⟩
  · rw [if_neg (fun z => q ((nI_ltI (by omega) (by omega)).mp z)), if_neg q]
    exact ⟨hJ, hT, rfl⟩
/-- the first free place -/
theorem fs_n {z : SS} (h : ∀ i, i < 20 → Nn (z 50 i)) : ∀ n, n ≤ 20 → (fsE z n < n ∧ z 50 (fsE z n) = 0) ∨ (fsE z n = n ∧ frN z n = n)
  | 0, _ => Or.inr ⟨rfl, rfl⟩
  | n + 1, hn => by
    unfold fsE frN
    rcases fs_n h n (by omega) with ⟨a, b⟩ | ⟨a, b⟩
    · rw [if_pos a]
      exact Or.inl ⟨by omega, b⟩
    · rw [if_neg (by omega)]
      by_cases c : z 50 n = 0
      · rw [if_pos c]
        exact Or.inl ⟨by omega, c⟩
      · rw [if_neg c]
        have h1 := (Nn.z).lt (h n (by omega))
        rw [tn_0] at h1
        have h2 : ¬ tn (z 50 n) = 0 := fun q => c ((h n (by omega)).eq0.mpr q)
        rw [if_pos (h1.mpr (by omega))]
        exact Or.inr ⟨rfl, by omega⟩
theorem fr_u {z : SS} {i : Nat} {m d : Int32} (h0 : z 50 i = 0) (hm : 0 < m) : ∀ n, frN (su (su z 50 i m) 51 i d) n = frN z n + if i < n then 1 else 0
  | 0 => rfl
  | n + 1 => by
    have ih := fr_u (z := z) (m := m) (d := d) h0 hm n
    unfold frN
    rw [ih]
    have e : su (su z 50 i m) 51 i d 50 n = if n = i then m else z 50 n := by
      rw [su_o (by decide), su_s]
      rfl
    rw [e]
    by_cases c : n = i
    · subst c
      rw [if_pos rfl, if_pos hm, h0, if_neg (Nat.lt_irrefl n), if_neg (show ¬ (0 : Int32) < 0 by decide), if_pos (show n < n + 1 by omega)]
    · rw [if_neg c]
      by_cases q : i < n
      · rw [if_pos q, if_pos (show i < n + 1 by omega)]
        split <;> omega
      · rw [if_neg q, if_neg (show ¬ i < n + 1 by omega)]
        split <;> omega
theorem P_freight (hJ : Js s nm nc nr k) (hT : K9 s t nm nc nr k) {m : Nat} {d : Int32} (hm1 : 1 ≤ m) (hm : m ≤ 60) (hf : frN s 20 < 20) : Js (sndF s (nI m) d) nm nc nr (k + 1) ∧ K9 (sndF s (nI m) d) t nm nc nr (k + 1) ∧ frN (sndF s (nI m) d) 20 = frN s 20 + 1 := by
  obtain ⟨h0, h1, h2, h3, h4, h5, h6, h7, h8⟩ := hJ
  rcases fs_n h1.2.1 20 (Nat.le_refl _) with ⟨a, b⟩ | ⟨a, b⟩
  · unfold sndF
    rw [if_pos a]
    generalize fsE s 20 = i at a b
    refine ⟨⟨h0.cg rfl rfl rfl rfl rfl rfl rfl rfl, ?_, h2.cg (by omega) rfl rfl rfl rfl rfl, h3.cg rfl, h4.cg (by omega) rfl rfl rfl rfl rfl, h5.cg rfl, h6.cg rfl rfl rfl rfl rfl rfl rfl rfl, h7.cg rfl rfl rfl, h8.cg rfl rfl⟩, hT.cg (by omega) rfl rfl rfl rfl rfl rfl rfl (fun _ _ z => z), ?_⟩
    · have e50 : su (su s 50 i (nI m)) 51 i d 50 = upd (s 50) i (nI m) := by rw [su_o (by decide), su_s]
      have hs := SN_u (f := s 50) (i := i) (v := nI m) 20 a
      rw [b, tn_0, tn_nI (by omega)] at hs
      refine ⟨h1.1, fun j hj => ?_, ?_⟩
      · rw [e50]
        unfold upd
        split
        · exact Nn.of (by omega)
        · exact h1.2.1 j hj
      · rw [e50]
        have := h1.2.2
        show tn (s 5 0) + _ ≤ _
        omega
    · rw [fr_u b ((nI_p (by omega)).mpr (by omega)), if_pos a]
  · omega
theorem P_rumour (hJ : Js s nm nc nr k) (hT : K9 s t nm nc nr k) {c b : Nat} (hc : c < 40) (hb : b ≤ 100) : Js (rumourU s (nI c) (nI b)) nm nc nr k ∧ K9 (rumourU s (nI c) (nI b)) t nm nc nr k ∧ tn (rumourU s (nI c) (nI b) 11 c) = b := by
  obtain ⟨h0, h1, h2, h3, h4, h5, h6, h7, h8⟩ := hJ
  have e : ∀ j, rumourU s (nI c) (nI b) 11 j = if j = c then nI b else s 11 j := fun j => by
    unfold rumourU
    rw [tn_nI (by omega), su_s]
    rfl
  refine ⟨⟨h0.cg rfl rfl rfl rfl rfl rfl rfl rfl, h1.cg (Nat.le_refl _) rfl rfl, h2.cg (Nat.le_refl _) rfl rfl rfl rfl rfl, fun j hj => ?_, h4.cg (Nat.le_refl _) rfl rfl rfl rfl rfl, h5.cg rfl, h6.cg rfl rfl rfl rfl rfl rfl rfl rfl, h7.cg rfl rfl rfl, h8.cg rfl rfl⟩, hT.cg (Nat.le_refl _) rfl rfl rfl rfl rfl rfl rfl (fun _ _ z => z), by rw [e, if_pos rfl, tn_nI (by omega)]⟩
  rw [e]
  split
  · exact ⟨Nn.of (by omega), by rw [tn_nI (by omega)]; exact hb⟩
  · exact h3 j hj
theorem P_buy (hJ : Js s nm nc nr k) (hT : K9 s t nm nc nr k) {x m : Nat} (hk : k ≤ 130) (hx : x < nm) (hm : m ≤ 60) (hf : m ≤ tn (s 5 0)) (hc : m * PR (tn (s 5 0)) ≤ tn (s 16 x)) : Js (buyU s (nI x) (nI m)) nm nc nr (k + 1) ∧ K9 (buyU s (nI x) (nI m)) t nm nc nr (k + 1) ∧ tn (buyU s (nI x) (nI m) 5 0) = tn (s 5 0) - m ∧ tn (buyU s (nI x) (nI m) 15 x) = tn (s 15 x) + m ∧ tn (buyU s (nI x) (nI m) 16 x) = tn (s 16 x) - m * PR (tn (s 5 0)) := by
  have hJ0 := hJ
  obtain ⟨h0, h1, h2, h3, h4, h5, h6, h7, h8⟩ := hJ
  have h12 := h0.1
  have m15 := hJ0.m15 hx
  have m16 := hJ0.m16 hx
  have tx : tn (nI x) = x := tn_nI (by omega)
  have s5 := h1.1.sub (y := nI m) (Nn.of (by omega)) (by rw [tn_nI (by omega)]; exact hf)
  have s15 := m15.1.add (y := nI m) (Nn.of (by omega)) (by rw [tn_nI (by omega)]; omega)
  have hpr := PR_b (tn (s 5 0))
  have hmul : m * PR (tn (s 5 0)) < 2 ^ 31 := by have := tn_lt (s 16 x); omega
  have ep : nI m * priceF (s 5 0) = nI (m * PR (tn (s 5 0))) := by rw [price_n h1.1, pk_mul]
  have s16 := m16.1.sub (y := nI (m * PR (tn (s 5 0)))) (Nn.of hmul) (by rw [tn_nI hmul]; exact hc)
  rw [tn_nI (show m < 2 ^ 31 by omega)] at s5 s15
  rw [tn_nI hmul] at s16
  have e5 : buyU s (nI x) (nI m) 5 0 = s 5 0 - nI m := rfl
  have e15 : ∀ j, buyU s (nI x) (nI m) 15 j = if j = x then s 15 x + nI m else s 15 j := fun j => by
    unfold buyU
    rw [tx, su_o (by decide), su_s]
    rfl
  have e16 : buyU s (nI x) (nI m) 16 = upd (s 16) x (s 16 x - nI (m * PR (tn (s 5 0)))) := by
    unfold buyU
    rw [tx, ep, su_s]
    rfl
  have hs := SN_u (f := s 16) (i := x) (v := s 16 x - nI (m * PR (tn (s 5 0)))) nm hx
  have hle := SN_le (f := s 16) nm hx
  refine ⟨⟨h0.cg rfl rfl rfl rfl rfl rfl rfl rfl, ⟨by rw [e5]; exact s5.1, h1.2.1, ?_⟩, h2.cg (by omega) rfl rfl rfl rfl rfl, h3.cg rfl, ⟨fun i hi => ?_, ?_⟩, h5.cg rfl, h6.cg rfl rfl rfl rfl rfl rfl rfl rfl, h7.cg rfl rfl rfl, h8.cg rfl rfl⟩, hT.cg (by omega) rfl rfl rfl rfl rfl rfl rfl (fun _ _ z => z), ?_, ?_, ?_⟩
  · rw [e5]
    have := h1.2.2
    show tn (s 5 0 - nI m) + SN (s 50) 20 ≤ _
    omega
  · obtain ⟨g1, g2, g3, g4, g5⟩ := h4.1 i hi
    refine ⟨g1, ?_, ?_, g4, ⟨g5.1, by have := g5.2; show tn (s 18 i) ≤ k + 1; omega⟩⟩
    · rw [e15]
      split
      · exact ⟨s15.1, by omega⟩
      · exact ⟨g2.1, by omega⟩
    · rw [e16]
      unfold upd
      split
      · exact s16.1
      · exact g3
  · rw [e16]
    have := h4.2
    omega
  · rw [e5]; exact s5.2
  · rw [e15, if_pos rfl]; exact s15.2
  · rw [e16, show upd (s 16) x (s 16 x - nI (m * PR (tn (s 5 0)))) x = s 16 x - nI (m * PR (tn (s 5 0))) from if_pos rfl]
    exact s16.2
theorem P_ground (hJ : Js s nm nc nr k) {c m g : Nat} (hc : c < 40) (hm : m ≤ 100000) (hg : g ≤ 9) : Js (groundU s (nI c) (nI m) (nI g)) nm nc nr (k + 1) ∧ tn (groundU s (nI c) (nI m) (nI g) 9 c) = m ∧ tot (groundU s (nI c) (nI m) (nI g)) nm + tn (s 9 c) = tot s nm + m := by
  have hJ0 := hJ
  obtain ⟨h0, h1, h2, h3, h4, h5, h6, h7, h8⟩ := hJ
  have tc : tn (nI c) = c := tn_nI (by omega)
  have e9 : groundU s (nI c) (nI m) (nI g) 9 = upd (s 9) c (nI m) := by
    unfold groundU
    rw [tc, su_o (by decide), su_s]
  have e10 : groundU s (nI c) (nI m) (nI g) 10 = upd (s 10) c (nI g) := by
    unfold groundU
    rw [tc, su_s]
    rfl
  have hs := SN_u (f := s 9) (i := c) (v := nI m) 40 hc
  rw [tn_nI (show m < 2 ^ 31 by omega)] at hs
  have ht : tot (groundU s (nI c) (nI m) (nI g)) nm + tn (s 9 c) = tot s nm + m := by
    unfold tot
    rw [e9]
    show SN (upd (s 9) c (nI m)) 40 + tn (s 6 0) + SN (s 13) nm + tn (s 7 0) + tn (s 9 c) = _
    omega
  refine ⟨⟨h0.cg rfl rfl rfl rfl rfl rfl rfl rfl, h1.cg (by omega) rfl rfl, ⟨fun j hj => ?_, fun j hj => ?_, h2.2.2.1, h2.2.2.2.1, h2.2.2.2.2.1, ?_, ?_⟩, h3.cg rfl, h4.cg (by omega) rfl rfl rfl rfl rfl, h5.cg rfl, h6.cg rfl rfl rfl rfl rfl rfl rfl rfl, h7.cg rfl rfl rfl, h8.cg rfl rfl⟩, ?_, ht⟩
  · rw [e9]
    unfold upd
    split
    · exact Nn.of (by omega)
    · exact h2.1 j hj
  · rw [e10]
    unfold upd
    split
    · exact ⟨Nn.of (by omega), by rw [tn_nI (by omega)]; exact hg⟩
    · exact h2.2.1 j hj
  · have := h2.2.2.2.2.2.1
    omega
  · have := h2.2.2.2.2.2.2
    show SN (s 13) nm ≤ _
    omega
  · rw [e9, show upd (s 9) c (nI m) c = nI m from if_pos rfl, tn_nI (by omega)]
end OPS
