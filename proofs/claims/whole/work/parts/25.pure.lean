/-! the two sides' pictures: where they agree -/
theorem rec_rc {m g c : Int32} : recF m g c = rcF m (minF g (mostF m)) c := rfl
/-- a claim's sizes are small -/
def SzOK (z : SS) (n : Nat) : Prop := ∀ i, i < n → 1 ≤ tn (z 24 i) ∧ tn (z 24 i) ≤ 10 ∧ z 24 i = nI (tn (z 24 i)) ∧ z 23 i = nI (tn (z 23 i)) ∧ tn (z 23 i) + tn (z 24 i) ≤ 40
theorem cov_iff {x f s : Int32} {a b : Nat} (hf : f = nI a) (hs : s = nI b) (hb : 1 ≤ b) (hab : a + b ≤ 40) : x ≤ f + s - 1 ↔ x < f + s := by
  subst hf hs
  rw [nI_add, ltc (by omega)]
/-- the claim i is held and has the cell x -/
def hasP (z : SS) (x : Int32) (i : Nat) : Prop := ¬ z 25 i = 0 ∧ (z 23 i ≤ x ∧ x < z 23 i + z 24 i)
theorem heldC_p {z : SS} {x : Int32} : ∀ n, ¬ heldC z x n = -1 → ∃ i, i < n ∧ heldC z x n = nI i ∧ hasP z x i
  | 0, h => absurd rfl h
  | n + 1, h => by
    unfold heldC at h ⊢
    by_cases h1 : heldC z x n = -1
    · rw [if_pos h1] at h ⊢
      by_cases h2 : ¬ z 25 n = 0 ∧ (z 23 n ≤ x ∧ x < z 23 n + z 24 n)
      · rw [if_pos h2]
        exact ⟨n, by omega, rfl, h2⟩
      · rw [if_neg h2] at h
        exact absurd rfl h
    · rw [if_neg h1]
      obtain ⟨i, hi, h3, h4⟩ := heldC_p n h1
      exact ⟨i, by omega, h3, h4⟩
theorem held_eq {z : SS} {x : Int32} : ∀ n, SzOK z n → (∀ i j, i < n → j < n → hasP z x i → hasP z x j → i = j) → heldC z x n = heldM z x n
  | 0, _, _ => rfl
  | n + 1, hs, hu => by
    have ih := held_eq (z := z) (x := x) n (fun i hi => hs i (by omega)) (fun i j hi hj => hu i j (by omega) (by omega))
    obtain ⟨s1, s2, s3, s4, s5⟩ := hs n (by omega)
    have hc := cov_iff (x := x) s4 s3 s1 s5
    unfold heldC heldM
    rw [← ih]
    by_cases h1 : heldC z x n = -1
    · rw [if_pos h1]
      by_cases h2 : ¬ z 25 n = 0 ∧ (z 23 n ≤ x ∧ x < z 23 n + z 24 n)
      · rw [if_pos h2, if_pos ⟨h2.1, h2.2.1, hc.mpr h2.2.2⟩]
      · rw [if_neg h2, if_neg (fun q => h2 ⟨q.1, q.2.1, hc.mp q.2.2⟩), h1]
    · rw [if_neg h1]
      obtain ⟨i, hi, h3, h4⟩ := heldC_p n h1
      rw [if_neg (fun q => absurd (hu i n (by omega) (by omega) h4 ⟨q.1, q.2.1, hc.mp q.2.2⟩) (by omega))]
theorem free_eq {z : SS} {c nc : Nat} : ∀ n, (∀ i, i < n → heldC z (nI (c + i)) nc = heldM z (nI (c + i)) nc) → freeC z c nc n = freeM z c nc n
  | 0, _ => rfl
  | n + 1, h => by
    unfold freeC freeM
    rw [free_eq n (fun i hi => h i (by omega)), h n (by omega)]
theorem may_eq {z : SS} {nc : Nat} {x c m : Int32} (h : heldC z c nc = heldM z c nc) (hm : m = nI (tn m)) (hm3 : tn m < 4) : mayG z (tn m) x (heldC z c nc) = mayF z nc x c m := by
  unfold mayG mayF
  rw [h]
  have : (tn m = 0) = (m = 0) := by
    refine propext ⟨fun e => by rw [hm, e]; rfl, fun e => by rw [e]; rfl⟩
  simp only [this]
theorem eat_eq {z : SS} {j h : Nat} (hd : ¬ z 17 j = 0) (hh : z 17 j = nI h) (h10 : h ≤ 10) : eatC z j = eatF z j := by
  unfold eatC eatF
  rw [if_neg hd, minF_comm]
  have e : maxF 0 (z 17 j - 2) = if z 17 j < 2 then 0 else z 17 j - 2 := by
    rw [hh]
    exact (by decide : ∀ h, h ≤ 10 → maxF 0 (nI h - 2) = if nI h < 2 then 0 else nI h - 2) h h10
  rw [e]
theorem fade_eq {b : Nat} (hb : b ≤ 100) : maxF 0 (nI b - nI b / 10 - 1) = fadeF (nI b) := (by decide +kernel : ∀ b, b ≤ 100 → maxF 0 (nI b - nI b / 10 - 1) = fadeF (nI b)) b hb
theorem sum_tail {f : Nat → Int32} {n : Nat} (h : ∀ i, n ≤ i → f i = 0) : ∀ d, sumN f (n + d) = sumN f n
  | 0 => rfl
  | d + 1 => by
    show sumN f (n + d) + f (n + d) = _
    rw [sum_tail h d, h _ (by omega), Int32.add_zero]
theorem fre_le {z : SS} {n : Nat} : ∀ d, frN z n ≤ frN z (n + d)
  | 0 => Nat.le_refl _
  | d + 1 => by
    have := fre_le (z := z) (n := n) d
    show frN z n ≤ frN z (n + d + 1)
    conv => rhs; unfold frN
    split <;> omega
