theorem V7t {z z' : SS} {k i0 nm : Nat} {v : Int32} (h : z' k = upd (z k) i0 v) (hi : i0 < nm) : ∀ i, nm ≤ i → z' k i = z k i := fun i hn => by
  rw [h]
  exact if_neg (by omega)
theorem k_err {z : SS} {nm nc nr nf ns dd cc : Nat} (h : Iv z nm nc nr nf ns dd cc) (e : Int32) : Nx z (su z 45 0 e) nm nc nr (cc + 1) := by
  obtain ⟨h1, h2, h3, h4, h5, h6, h7, h8, h9⟩ := h
  exact ⟨Sim.rfl'.right rfl, _, _, _, ⟨h1.cg (cc + 1) (by omega) rfl rfl rfl rfl rfl rfl rfl, V2.cg h2 rfl rfl rfl, h3.cg rfl rfl rfl rfl, h4.cg rfl rfl rfl, h5.cg rfl rfl, h6.cg rfl rfl rfl rfl rfl, h7.cg (fun _ _ => rfl) (fun _ _ => rfl) (fun _ _ => rfl) rfl rfl rfl, h8.cg rfl rfl rfl rfl, h9.cg rfl rfl rfl rfl rfl rfl rfl rfl⟩⟩
theorem k_ask {z : SS} {nm nc nr nf ns dd cc : Nat} (h : Iv z nm nc nr nf ns dd cc) : Nx z (su z 45 0 0) nm nc nr (cc + 1) ∧ su z 45 0 0 45 0 = 0 := ⟨k_err h 0, rfl⟩
theorem mi_lt {x : Int32} {z : SS} {nm : Nat} (h : (0 : Int32) ≤ x ∧ x ≤ z 12 0 - 1) (hm : z 12 0 = nI nm) (h12 : nm ≤ 12) : tn x < nm := in_lt (vp_cnt (N := nm) h hm (Nat.le_refl _) (by omega))
theorem cl_lt {x : Int32} {z : SS} {nc : Nat} (h : (0 : Int32) ≤ x ∧ x ≤ z 21 0 - 1) (hm : z 21 0 = nI nc) (h30 : nc ≤ 30) : tn x < nc := in_lt (vp_cnt (N := nc) h hm (Nat.le_refl _) (by omega))
theorem ri_lt {x : Int32} {z : SS} {nr : Nat} (h : (0 : Int32) ≤ x ∧ x ≤ z 33 0 - 1) (hm : z 33 0 = nI nr) (h20 : nr ≤ 20) : tn x < nr := in_lt (vp_cnt (N := nr) h hm (Nat.le_refl _) (by omega))
theorem ce_lt {x : Int32} (h : (0 : Int32) ≤ x ∧ x ≤ 39) : tn x < 40 ∧ x = nI (tn x) := ⟨in_lt (vp_rng (n := 39) rfl (by decide) h), in_nI (vp_rng (n := 39) (N := 40) rfl (by decide) h) (by decide)⟩

theorem k_ground {z : SS} {nm nc nr nf ns dd cc : Nat} {c m g : Int32} (h : Iv z nm nc nr nf ns dd cc) : Nx (groundU z c m g) (groundU (su z 45 0 0) c m g) nm nc nr (cc + 1) ∧ (groundU (su z 45 0 0) c m g) 45 0 = 0 := by
  obtain ⟨h1, h2, h3, h4, h5, h6, h7, h8, h9⟩ := h
  exact ⟨⟨(((Sim.rfl'.right (k := 45) (i := 0) (v := 0) rfl)).put _ _ _).put _ _ _, _, _, _, ⟨h1.cg (cc + 1) (by omega) rfl rfl rfl rfl rfl rfl rfl, V2.cg h2 rfl rfl rfl, h3.cg rfl rfl rfl rfl, h4.cg rfl rfl rfl, h5.cg rfl rfl, h6.cg rfl rfl rfl rfl rfl, h7.cg (fun _ _ => rfl) (fun _ _ => rfl) (fun _ _ => rfl) rfl rfl rfl, h8.cg rfl rfl rfl rfl, h9.cg rfl rfl rfl rfl rfl rfl rfl rfl⟩⟩, rfl⟩

theorem k_flow {z : SS} {nm nc nr nf ns dd cc : Nat} {x : Int32} (h : Iv z nm nc nr nf ns dd cc) : Nx (flowU z x) (flowU (su z 45 0 0) x) nm nc nr (cc + 1) ∧ (flowU (su z 45 0 0) x) 45 0 = 0 := by
  obtain ⟨h1, h2, h3, h4, h5, h6, h7, h8, h9⟩ := h
  exact ⟨⟨((Sim.rfl'.right (k := 45) (i := 0) (v := 0) rfl)).put _ _ _, _, _, _, ⟨h1.cg (cc + 1) (by omega) rfl rfl rfl rfl rfl rfl rfl, V2.cg h2 rfl rfl rfl, h3.cg rfl rfl rfl rfl, h4.cg rfl rfl rfl, h5.cg rfl rfl, h6.cg rfl rfl rfl rfl rfl, h7.cg (fun _ _ => rfl) (fun _ _ => rfl) (fun _ _ => rfl) rfl rfl rfl, h8.cg rfl rfl rfl rfl, h9.cg rfl rfl rfl rfl rfl rfl rfl rfl⟩⟩, rfl⟩

theorem k_rate {z : SS} {nm nc nr nf ns dd cc : Nat} {x : Int32} (h : Iv z nm nc nr nf ns dd cc) (he : rateE z x = 0) : Nx (rateU z x) (rateU (su z 45 0 0) x) nm nc nr (cc + 1) ∧ (rateU (su z 45 0 0) x) 45 0 = 0 := by
  obtain ⟨h1, h2, h3, h4, h5, h6, h7, h8, h9⟩ := h
  have hx := e1 he
  have hv := vp_rng1 (n := 100) (N := 101) rfl (by decide) hx
  exact ⟨⟨((Sim.rfl'.right (k := 45) (i := 0) (v := 0) rfl)).put _ _ _, _, _, _, ⟨⟨h1.1, h1.2.1, h1.2.2.1, h1.2.2.2.1, ⟨h1.2.2.2.2.1.1, by have := h1.2.2.2.2.1.2; omega⟩, h1.2.2.2.2.2.1, ⟨tn x, in_nI hv (by decide), by have := in_lt hv; omega⟩⟩, V2.cg h2 rfl rfl rfl, h3.cg rfl rfl rfl rfl, h4.cg rfl rfl rfl, h5.cg rfl rfl, h6.cg rfl rfl rfl rfl rfl, h7.cg (fun _ _ => rfl) (fun _ _ => rfl) (fun _ _ => rfl) rfl rfl rfl, h8.cg rfl rfl rfl rfl, h9.cg rfl rfl rfl rfl rfl rfl rfl rfl⟩⟩, rfl⟩

theorem k_rumour {z : SS} {nm nc nr nf ns dd cc : Nat} {c b : Int32} (h : Iv z nm nc nr nf ns dd cc) (he : rumourE z c b = 0) : Nx (rumourU z c b) (rumourU (su z 45 0 0) c b) nm nc nr (cc + 1) ∧ (rumourU (su z 45 0 0) c b) 45 0 = 0 := by
  obtain ⟨h1, h2, h3, h4, h5, h6, h7, h8, h9⟩ := h
  obtain ⟨hc, hb⟩ := e12 he
  have hv := vp_rng (n := 100) (N := 101) rfl (by decide) hb
  exact ⟨⟨((Sim.rfl'.right (k := 45) (i := 0) (v := 0) rfl)).put _ _ _, _, _, _, ⟨h1.cg (cc + 1) (by omega) rfl rfl rfl rfl rfl rfl rfl, ⟨h2.1, fun i hi => (by
    show ∃ b1, su (su z 45 0 0) 11 (tn c) b 11 i = nI b1 ∧ b1 ≤ 100
    by_cases e : i = tn c
    · subst e; exact ⟨tn b, su_a.trans (in_nI hv (by decide)), by have := in_lt hv; omega⟩
    · rw [su_b e]; exact h2.2.1 i hi), h2.2.2⟩, h3.cg rfl rfl rfl rfl, h4.cg rfl rfl rfl, h5.cg rfl rfl, h6.cg rfl rfl rfl rfl rfl, h7.cg (fun _ _ => rfl) (fun _ _ => rfl) (fun _ _ => rfl) rfl rfl rfl, h8.cg rfl rfl rfl rfl, h9.cg rfl rfl rfl rfl rfl rfl rfl rfl⟩⟩, rfl⟩

theorem k_brass {z : SS} {nm nc nr nf ns dd cc : Nat} {x m : Int32} (h : Iv z nm nc nr nf ns dd cc) (he : brassE z x m = 0) : Nx (brassU z x m) (brassU (su z 45 0 0) x m) nm nc nr (cc + 1) ∧ (brassU (su z 45 0 0) x m) 45 0 = 0 := by
  obtain ⟨h1, h2, h3, h4, h5, h6, h7, h8, h9⟩ := h
  have hx := mi_lt (e3 he).1 h1.1.1 h1.1.2
  exact ⟨⟨((Sim.rfl'.right (k := 45) (i := 0) (v := 0) rfl)).put _ _ _, _, _, _, ⟨h1.cg (cc + 1) (by omega) rfl rfl rfl rfl rfl rfl rfl, V2.cg h2 rfl rfl rfl, h3.cg rfl rfl rfl rfl, h4.cg rfl rfl rfl, h5.cg rfl rfl, h6.cg rfl rfl rfl rfl rfl, h7.cg (fun _ _ => rfl) (V7t rfl hx) (fun _ _ => rfl) rfl rfl rfl, h8.cg rfl rfl rfl rfl, h9.cg rfl rfl rfl rfl rfl rfl rfl rfl⟩⟩, rfl⟩

theorem k_buy {z : SS} {nm nc nr nf ns dd cc : Nat} {x m : Int32} (h : Iv z nm nc nr nf ns dd cc) : Nx (buyU z x m) (buyU (su z 45 0 0) x m) nm nc nr (cc + 1) ∧ (buyU (su z 45 0 0) x m) 45 0 = 0 := by
  obtain ⟨h1, h2, h3, h4, h5, h6, h7, h8, h9⟩ := h
  exact ⟨⟨((((Sim.rfl'.right (k := 45) (i := 0) (v := 0) rfl)).put _ _ _).put _ _ _).put _ _ _, _, _, _, ⟨h1.cg (cc + 1) (by omega) rfl rfl rfl rfl rfl rfl rfl, V2.cg h2 rfl rfl rfl, h3.cg rfl rfl rfl rfl, h4.cg rfl rfl rfl, h5.cg rfl rfl, h6.cg rfl rfl rfl rfl rfl, h7.cg (fun _ _ => rfl) (fun _ _ => rfl) (fun _ _ => rfl) rfl rfl rfl, h8.cg rfl rfl rfl rfl, h9.cg rfl rfl rfl rfl rfl rfl rfl rfl⟩⟩, rfl⟩

theorem k_end {z : SS} {nm nc nr nf ns dd cc : Nat} {x y : Int32} (h : Iv z nm nc nr nf ns dd cc) : Nx (endU z x y) (endU (su z 45 0 0) x y) nm nc nr (cc + 1) ∧ (endU (su z 45 0 0) x y) 45 0 = 0 := by
  obtain ⟨h1, h2, h3, h4, h5, h6, h7, h8, h9⟩ := h
  exact ⟨⟨((Sim.rfl'.right (k := 45) (i := 0) (v := 0) rfl)).put _ _ _, _, _, _, ⟨h1.cg (cc + 1) (by omega) rfl rfl rfl rfl rfl rfl rfl, V2.cg h2 rfl rfl rfl, h3.cg rfl rfl rfl rfl, h4.cg rfl rfl rfl, h5.cg rfl rfl, h6.cg rfl rfl rfl rfl rfl, ⟨h7.1, fun j b hj hb => (by
    show su (su z 45 0 0) 20 (12 * tn y + tn x) 0 20 (12 * j + b) = 0
    by_cases e : 12 * j + b = 12 * tn y + tn x
    · rw [e, su_a]
    · rw [su_b e]; exact h7.2.1 j b hj hb), h7.2.2⟩, h8.cg rfl rfl rfl rfl, h9.cg rfl rfl rfl rfl rfl rfl rfl rfl⟩⟩, rfl⟩

theorem k_meet {z : SS} {nm nc nr nf ns dd cc : Nat} {m d y n_ : Int32} (h : Iv z nm nc nr nf ns dd cc) : Nx (meetU z nm m d y n_) (meetU (su z 45 0 0) nm m d y n_) nm nc nr (cc + 1) ∧ (meetU (su z 45 0 0) nm m d y n_) 45 0 = 0 := by
  by_cases hq : n_ < y
  · rw [show meetU z nm m d y n_ = su (su z 2 0 m) 3 0 d from if_pos hq, show meetU (su z 45 0 0) nm m d y n_ = su (su (su z 45 0 0) 2 0 m) 3 0 d from if_pos hq]
    obtain ⟨h1, h2, h3, h4, h5, h6, h7, h8, h9⟩ := h
    exact ⟨⟨(((Sim.rfl'.right (k := 45) (i := 0) (v := 0) rfl)).put _ _ _).put _ _ _, _, _, _, ⟨h1.cg (cc + 1) (by omega) rfl rfl rfl rfl rfl rfl rfl, V2.cg h2 rfl rfl rfl, h3.cg rfl rfl rfl rfl, h4.cg rfl rfl rfl, h5.cg rfl rfl, h6.cg rfl rfl rfl rfl rfl, h7.cg (fun _ _ => rfl) (fun _ _ => rfl) (fun _ _ => rfl) rfl rfl rfl, h8.cg rfl rfl rfl rfl, h9.cg rfl rfl rfl rfl rfl rfl rfl rfl⟩⟩, rfl⟩
  · rw [show meetU z nm m d y n_ = z from if_neg hq, show meetU (su z 45 0 0) nm m d y n_ = (su z 45 0 0) from if_neg hq]
    exact k_ask h

theorem k_sell {z : SS} {nm nc nr nf ns dd cc : Nat} {x d : Int32} (h : Iv z nm nc nr nf ns dd cc) (he : sellE z x d = 0) : Nx (sellUC z x d) (sellU (su z 45 0 0) x d) nm nc nr (cc + 1) ∧ (sellU (su z 45 0 0) x d) 45 0 = 0 ∧ sellRC z x d = sellR z x d := by
  obtain ⟨g1, g2, g3⟩ := e3 he
  obtain ⟨r, hr, hr100⟩ := h.1.2.2.2.2.2.2
  obtain ⟨q1, q2⟩ := sell_eq (z := z) (x := x) g2 hr hr100 (fun e => g3 (Or.inr e))
  have hx := mi_lt g1 h.1.1.1 h.1.1.2
  obtain ⟨h1, h2, h3, h4, h5, h6, h7, h8, h9⟩ := h
  rw [q2]
  refine (fun a => ⟨a.1, a.2, q1⟩ : (Nx (sellU z x d) (sellU (su z 45 0 0) x d) nm nc nr (cc + 1) ∧ (sellU (su z 45 0 0) x d) 45 0 = 0) → _) ?_
  by_cases hq : z 13 (tn x) + z 14 (tn x) < 20 * z 14 (tn x)
  · rw [show sellU z x d = su z 18 (tn x) (z 18 (tn x) + 1) from if_pos hq, show sellU (su z 45 0 0) x d = su (su z 45 0 0) 18 (tn x) (z 18 (tn x) + 1) from if_pos hq]
    exact ⟨⟨((Sim.rfl'.right (k := 45) (i := 0) (v := 0) rfl)).put _ _ _, _, _, _, ⟨h1.cg (cc + 1) (by omega) rfl rfl rfl rfl rfl rfl rfl, V2.cg h2 rfl rfl rfl, h3.cg rfl rfl rfl rfl, h4.cg rfl rfl rfl, h5.cg rfl rfl, h6.cg rfl rfl rfl rfl rfl, h7.cg (fun _ _ => rfl) (fun _ _ => rfl) (V7t rfl hx) rfl rfl rfl, h8.cg rfl rfl rfl rfl, h9.cg rfl rfl rfl rfl rfl rfl rfl rfl⟩⟩, rfl⟩
  · rw [show sellU z x d = su (su (su (su z 14 (tn x) (z 14 (tn x) - brF d (z 14 (tn x)) (z 13 (tn x) + z 14 (tn x)))) 13 (tn x) (z 13 (tn x) - (d - brF d (z 14 (tn x)) (z 13 (tn x) + z 14 (tn x))))) 7 0 (z 7 0 + (d - brF d (z 14 (tn x)) (z 13 (tn x) + z 14 (tn x))))) 16 (tn x) (z 16 (tn x) + payF d (z 4 0)) from if_neg hq, show sellU (su z 45 0 0) x d = su (su (su (su (su z 45 0 0) 14 (tn x) (z 14 (tn x) - brF d (z 14 (tn x)) (z 13 (tn x) + z 14 (tn x)))) 13 (tn x) (z 13 (tn x) - (d - brF d (z 14 (tn x)) (z 13 (tn x) + z 14 (tn x))))) 7 0 (z 7 0 + (d - brF d (z 14 (tn x)) (z 13 (tn x) + z 14 (tn x))))) 16 (tn x) (z 16 (tn x) + payF d (z 4 0)) from if_neg hq]
    exact ⟨⟨(((((Sim.rfl'.right (k := 45) (i := 0) (v := 0) rfl)).put _ _ _).put _ _ _).put _ _ _).put _ _ _, _, _, _, ⟨h1.cg (cc + 1) (by omega) rfl rfl rfl rfl rfl rfl rfl, V2.cg h2 rfl rfl rfl, h3.cg rfl rfl rfl rfl, h4.cg rfl rfl rfl, h5.cg rfl rfl, h6.cg rfl rfl rfl rfl rfl, h7.cg (V7t rfl hx) (V7t rfl hx) (fun _ _ => rfl) rfl rfl rfl, h8.cg rfl rfl rfl rfl, h9.cg rfl rfl rfl rfl rfl rfl rfl rfl⟩⟩, rfl⟩

theorem pct_k {z : SS} {nm nc j : Nat} (h7 : V7 z nm nc) (h12 : nm ≤ 12) : sumN (fun b => z 20 (12 * j + b)) 12 = sumN (fun b => z 20 (12 * j + b)) nm := pct_eq h12 (fun b hb hb2 => h7.2.1 j b (Or.inr hb) hb2)
theorem k_backE {z : SS} {nm nc nr nf ns dd cc : Nat} {x y p m : Int32} (h : Iv z nm nc nr nf ns dd cc) : backEC z x y p m = backE z nm x y p m := by
  unfold backEC backE
  rw [pct_k h.2.2.2.2.2.2.1 h.1.1.2]
theorem k_back {z : SS} {nm nc nr nf ns dd cc : Nat} {x y p m : Int32} (h : Iv z nm nc nr nf ns dd cc) (he : backE z nm x y p m = 0) : Nx (backUC z x y p m) (backU (su z 45 0 0) nm x y p m) nm nc nr (cc + 1) ∧ (backU (su z 45 0 0) nm x y p m) 45 0 = 0 := by
  obtain ⟨⟨g1, g2⟩, -, -⟩ := e3 he
  have hx := mi_lt g1 h.1.1.1 h.1.1.2
  have hy := mi_lt g2 h.1.1.1 h.1.1.2
  obtain ⟨h1, h2, h3, h4, h5, h6, h7, h8, h9⟩ := h
  rw [back_eq]
  have h12 := h1.1.2
  exact ⟨⟨((((Sim.rfl'.right (k := 45) (i := 0) (v := 0) rfl)).put _ _ _).put _ _ _).put _ _ _, _, _, _, ⟨h1.cg (cc + 1) (by omega) rfl rfl rfl rfl rfl rfl rfl, V2.cg h2 rfl rfl rfl, h3.cg rfl rfl rfl rfl, h4.cg rfl rfl rfl, h5.cg rfl rfl, h6.cg rfl rfl rfl rfl rfl, ⟨h7.1, fun j b hj hb => (by
    show su (su z 45 0 0) 20 (12 * tn y + tn x) p 20 (12 * j + b) = 0
    rw [su_b (by omega)]; exact h7.2.1 j b hj hb), h7.2.2⟩, h8.cg rfl rfl rfl rfl, h9.cg rfl rfl rfl rfl rfl rfl rfl rfl⟩⟩, rfl⟩

theorem fr_nf {z : SS} {nf : Nat} (h3 : V3 z nf) : frN z 20 = nf := by
  have h := h3.1.length_eq
  rw [slL_len] at h
  rw [h]
  unfold frL
  rw [List.length_map, List.length_range]
theorem k_freightE {z : SS} {nm nc nr nf ns dd cc : Nat} {m d : Int32} (h : Iv z nm nc nr nf ns dd cc) : freightEC z m d = freightE z nf m d := by
  have hf := fr_nf h.2.2.1
  have h20 := h.1.2.2.2.1.2
  unfold freightEC freightE
  rw [hf]
  by_cases g1 : 1 ≤ m ∧ m ≤ 1000
  · by_cases g2 : z 0 0 + 1 ≤ d ∧ d ≤ 5000
    · by_cases g3 : nf = 20
      · simp [g1.1, g1.2, g2.1, g2.2, g3]
      · have g4 : nf < 20 := by omega
        simp [g1.1, g1.2, g2.1, g2.2, g3, g4]
    · rw [if_neg (fun q => q g1), if_pos g2, if_pos (fun q => g2 q.2)]
  · rw [if_pos g1, if_pos (fun q => g1 q.1)]
theorem mrg_s {s t : SS} {k : Nat} (h : 46 ≤ k) : mrg s t k = s k := if_pos h
theorem mrg_t {s t : SS} {k : Nat} (h : k < 46) : mrg s t k = t k := if_neg (by omega)
theorem snd_o {z : SS} {m d : Int32} {k : Nat} (h50 : k ≠ 50) (h51 : k ≠ 51) : sndF z m d k = z k := by
  unfold sndF
  split
  · rw [su_o h51, su_o h50]
  · rfl
theorem k_freight {z : SS} {nm nc nr nf ns dd cc : Nat} {m d : Int32} (h : Iv z nm nc nr nf ns dd cc) (he : freightE z nf m d = 0) : Nx (sndF z m d) (freightU (su z 45 0 0) nf m d) nm nc nr (cc + 1) ∧ (freightU (su z 45 0 0) nf m d) 45 0 = 0 := by
  have hf := fr_nf h.2.2.1
  obtain ⟨⟨g1, g2⟩, g3⟩ := e02 he
  obtain ⟨h1, h2, h3, h4, h5, h6, h7, h8, h9⟩ := h
  have h20 := h1.2.2.2.1.2
  have hm : 0 < m := Int32.lt_of_lt_of_le (by decide) g1.1
  obtain ⟨s1, s2⟩ := send_eq (m := m) (d := d) h3.2 (by rw [hf]; omega) hm
  have hS : Sim (sndF z m d) (freightU (su z 45 0 0) nf m d) := by
    intro k hk
    rw [snd_o (fun e => by subst e; cases hk) (fun e => by subst e; cases hk)]
    exact ((((Sim.rfl'.right (k := 45) (i := 0) (v := 0) rfl).right (k := 37) (i := nf) (v := m) rfl).right (k := 38) (i := nf) (v := d) rfl).right (k := 36) (i := 0) (v := nI (nf + 1)) rfl) k hk
  refine ⟨⟨hS, nf + 1, _, _, ⟨⟨h1.1, h1.2.1, h1.2.2.1, ⟨rfl, by omega⟩, ⟨h1.2.2.2.2.1.1, by have := h1.2.2.2.2.1.2; omega⟩, h1.2.2.2.2.2.1, h1.2.2.2.2.2.2⟩, V2.cg h2 rfl rfl rfl, ⟨?_, ?_⟩, h4.cg rfl rfl rfl, h5.cg rfl rfl, h6.cg rfl rfl rfl rfl ((mrg_s (by decide)).trans (snd_o (by decide) (by decide))), h7.cg (fun _ _ => rfl) (fun _ _ => rfl) (fun _ _ => rfl) rfl rfl rfl, h8.cg rfl rfl rfl ((mrg_s (by decide)).trans (snd_o (by decide) (by decide))), h9.cg rfl rfl rfl rfl rfl rfl rfl ((mrg_s (by decide)).trans (snd_o (by decide) (by decide)))⟩⟩, rfl⟩
  · rw [slL_c (z := sndF z m d) (fun i _ => ⟨by rw [mrg_s (by decide)], fun _ => by rw [mrg_s (by decide)]⟩), frL_s, frL_c (z := z) (fun i hi => ⟨by rw [mrg_t (by decide)]; exact if_neg (by omega), by rw [mrg_t (by decide)]; exact if_neg (by omega)⟩)]
    refine s1.trans ?_
    rw [show mrg (sndF z m d) (freightU (su z 45 0 0) nf m d) 37 nf = m from by rw [mrg_t (by decide)]; exact if_pos rfl, show mrg (sndF z m d) (freightU (su z 45 0 0) nf m d) 38 nf = d from by rw [mrg_t (by decide)]; exact if_pos rfl]
    exact h3.1.append_right _
  · exact fun i => by rw [mrg_s (k := 50) (by decide)]; exact s2 i
