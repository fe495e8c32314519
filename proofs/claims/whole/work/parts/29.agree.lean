theorem cell_in {x : Nat} (hx : x < 40) : (0 : Int32) ≤ nI x ∧ nI x ≤ 39 := ⟨nI_pos' (by omega), (nI_leI (b := 39) (by omega) (by omega)).mpr (by omega)⟩
theorem dig_eq {z : SS} {x : Nat} {m : Int32} (hx : x < 40) : digC z (nI x) m = digF z (nI x) m ∧ rcF m (minF (grF z (nI x)) (mostF m)) (claF z (nI x)) = recF m (z 9 x) (z 10 x) := by
  obtain ⟨e1, e2⟩ := gr_nat (z := z) hx
  have et : tn (nI x) = x := nI_clamp (by omega)
  have hr : rcF m (minF (grF z (nI x)) (mostF m)) (claF z (nI x)) = recF m (z 9 x) (z 10 x) := by rw [e1, e2, rec_rc]
  refine ⟨?_, hr⟩
  unfold digC digF
  rw [hr, e1, et]
  have ed : dropF z (nI x) (-(minF (z 9 x) (mostF m))) = su z 9 x (z 9 x - takF m (z 9 x)) := by
    unfold dropF
    rw [if_pos (cell_in hx), et, Int32.sub_eq_add_neg]
    rfl
  rw [ed]
  by_cases h : x = 39
  · subst h
    unfold dropF
    rw [if_neg (by decide), if_pos (show nI 39 = 39 from rfl)]
    rfl
  · have hne : ¬ nI x = 39 := fun e => h ((nI_eq (b := 39) (by omega) (by omega)).mp e)
    unfold dropF
    rw [if_neg hne, nI_1, if_pos (cell_in (by omega)), show tn (nI (x + 1)) = x + 1 from nI_clamp (by omega)]
    rfl
/-- the orders of some writes -/
theorem upd_comm {f : Nat → Int32} {i j : Nat} {v w : Int32} (h : i ≠ j) : upd (upd f i v) j w = upd (upd f j w) i v := by
  funext k
  unfold upd
  by_cases h1 : k = j
  · rw [if_pos h1]
    by_cases h2 : k = i
    · exact absurd (h2.symm.trans h1) h
    · rw [if_neg h2, if_pos h1]
  · rw [if_neg h1]
    by_cases h2 : k = i
    · rw [if_pos h2, if_pos h2]
    · rw [if_neg h2, if_neg h2, if_neg h1]
theorem su_comm {z : SS} {k k' i j : Nat} {v w : Int32} (h : k ≠ k') : su (su z k i v) k' j w = su (su z k' j w) k i v := by
  funext q
  unfold su
  by_cases h1 : q = k'
  · subst h1
    rw [if_pos rfl]
    by_cases h2 : q = k
    · exact absurd h2.symm h
    · rw [if_neg h2, if_neg h2, if_pos rfl]
  · rw [if_neg h1]
    by_cases h2 : q = k
    · subst h2
      rw [if_pos rfl, if_pos rfl, if_neg h1]
    · rw [if_neg h2, if_neg h2, if_neg h1]
/-- a day of the miners -/
theorem la_eq {z : SS} {n : Nat} (hh : ∀ i, i < n → ∃ h, z 17 i = nI h ∧ h ≤ 10) : ∀ m, m ≤ n → laW z m = eaW z m ∧ ∀ i, m ≤ i → eaW z m 17 i = z 17 i
  | 0, _ => ⟨rfl, fun i _ => rfl⟩
  | m + 1, hm => by
    obtain ⟨h1, h2⟩ := la_eq hh m (by omega)
    obtain ⟨h, e, h10⟩ := hh m (by omega)
    have e17 := (h2 m (Nat.le_refl _)).trans e
    have e3 : laW z (m + 1) = eaW z (m + 1) := by
      unfold laW eaW
      rw [h1]
      by_cases hd : eaW z m 17 m = 0
      · rw [if_pos hd]
        unfold eatC
        rw [if_pos hd]
      · rw [if_neg hd, eat_eq hd e17 h10]
    refine ⟨e3, fun i hi => ?_⟩
    have h3 := h2 i (by omega)
    show (if eaW z m 17 m = 0 then eaW z m else eatF (eaW z m) m : SS) 17 i = _
    split
    · exact h3
    · unfold eatF
      split
      · rw [su_b (by omega), su_o (by decide)]; exact h3
      · rw [su_b (by omega)]; exact h3
/-- rumours fade alike -/
theorem fd_eq {z : SS} {n : Nat} (hb : ∀ i, i < n → ∃ b, z 11 i = nI b ∧ b ≤ 100) : ∀ m, m ≤ n → fdV z m = fdW z m ∧ ∀ i, m ≤ i → fdW z m 11 i = z 11 i
  | 0, _ => ⟨rfl, fun i _ => rfl⟩
  | m + 1, hm => by
    obtain ⟨h1, h2⟩ := fd_eq hb m (by omega)
    obtain ⟨b, e, h100⟩ := hb m (by omega)
    have e11 := (h2 m (Nat.le_refl _)).trans e
    refine ⟨?_, fun i hi => ?_⟩
    · unfold fdV fdW
      rw [h1, e11, fade_eq h100]
    · unfold fdW
      rw [su_b (by omega)]
      exact h2 i (by omega)
theorem br_eq {z : SS} {i : Nat} {d : Int32} (h : 0 < z 13 i + z 14 i) : brC z i d = brF d (z 14 i) (z 13 i + z 14 i) := if_pos h
