/-- a salting that counts for the latest sale of the claim c -/
def sltP (z : SS) (c k : Nat) : Prop := (z 40 k = z 29 c ∧ (z 23 c ≤ z 41 k ∧ z 41 k ≤ z 23 c + z 24 c - 1)) ∧ (z 32 c - 30 ≤ z 42 k ∧ z 42 k ≤ z 32 c)
theorem sltW_iff {z : SS} {c : Nat} : ∀ n, (sltW z c n = 0 ∨ sltW z c n = 1) ∧ (¬ sltW z c n = 0 ↔ ∃ k, k < n ∧ sltP z c k)
  | 0 => ⟨Or.inl rfl, ⟨fun h => absurd rfl h, fun ⟨k, hk, _⟩ => absurd hk (Nat.not_lt_zero k)⟩⟩
  | n + 1 => by
    obtain ⟨h1, h2⟩ := sltW_iff (z := z) (c := c) n
    by_cases h0 : sltW z c n = 0
    · have hno : ¬ ∃ k, k < n ∧ sltP z c k := fun q => h2.mpr q h0
      by_cases hp : sltP z c n
      · have e : sltW z c (n + 1) = 1 := by
          show (if ¬ sltW z c n = 0 then _ else if _ then _ else _) = _
          rw [if_neg (fun q => q h0)]
          exact if_pos hp
        rw [e]
        exact ⟨Or.inr rfl, ⟨fun _ => ⟨n, by omega, hp⟩, fun _ => by decide⟩⟩
      · have e : sltW z c (n + 1) = 0 := by
          show (if ¬ sltW z c n = 0 then _ else if _ then _ else _) = _
          rw [if_neg (fun q => q h0)]
          exact if_neg hp
        rw [e]
        refine ⟨Or.inl rfl, ⟨fun q => absurd rfl q, fun ⟨k, hk, hk2⟩ => ?_⟩⟩
        by_cases hkn : k = n
        · subst hkn
          exact absurd hk2 hp
        · exact absurd ⟨k, by omega, hk2⟩ hno
    · have e : sltW z c (n + 1) = 1 := by
        show (if ¬ sltW z c n = 0 then _ else if _ then _ else _) = _
        exact if_pos h0
      rw [e]
      obtain ⟨k, hk, hk2⟩ := h2.mp h0
      exact ⟨Or.inr rfl, ⟨fun _ => ⟨k, by omega, hk2⟩, fun _ => by decide⟩⟩
theorem slC_iff {z : SS} {i c : Nat} {d : Int32} : ∀ n, ¬ slC z i c d n = 0 ↔ ∃ k, k < n ∧ (¬ z 52 (40 * i + (c + k)) = -1 ∧ d - z 52 (40 * i + (c + k)) ≤ 30)
  | 0 => ⟨fun h => absurd rfl h, fun ⟨k, hk, _⟩ => absurd hk (Nat.not_lt_zero k)⟩
  | n + 1 => by
    have h2 := slC_iff (z := z) (i := i) (c := c) (d := d) n
    by_cases h0 : slC z i c d n = 0
    · have hno := fun q => h2.mpr q h0
      by_cases hp : ¬ z 52 (40 * i + (c + n)) = -1 ∧ d - z 52 (40 * i + (c + n)) ≤ 30
      · have e : slC z i c d (n + 1) = 1 := by
          show (if _ then (if _ then _ else _) else _) = _
          rw [if_pos h0, if_pos hp]
        rw [e]
        exact ⟨fun _ => ⟨n, by omega, hp⟩, fun _ => by decide⟩
      · have e : slC z i c d (n + 1) = 0 := by
          show (if _ then (if _ then _ else _) else _) = _
          rw [if_pos h0, if_neg hp]
        rw [e]
        refine ⟨fun q => absurd rfl q, fun ⟨k, hk, hk2⟩ => ?_⟩
        by_cases hkn : k = n
        · subst hkn
          exact absurd hk2 hp
        · exact absurd ⟨k, by omega, hk2⟩ hno
    · have e : slC z i c d (n + 1) = 1 := by
        show (if _ then _ else _) = _
        rw [if_neg h0]
      rw [e]
      obtain ⟨k, hk, hk2⟩ := h2.mp h0
      exact ⟨fun _ => ⟨k, by omega, hk2⟩, fun _ => by decide⟩
/-- the later saltings spoil the sales of the day -/
theorem spW_54 {z : SS} {x c : Int32} {i : Nat} : ∀ n, (i < n → spW z x c n 54 i = if z 53 i = x ∧ z 32 i = z 0 0 ∧ (z 23 i ≤ c ∧ c < z 23 i + z 24 i) then 1 else z 54 i) ∧ (n ≤ i → spW z x c n 54 i = z 54 i)
  | 0 => ⟨fun h => absurd h (Nat.not_lt_zero _), fun _ => rfl⟩
  | n + 1 => by
    obtain ⟨h1, h2⟩ := spW_54 (z := z) (x := x) (c := c) (i := i) n
    have o23 : spW z x c n 23 = z 23 := spW_o (by decide) n
    have o24 : spW z x c n 24 = z 24 := spW_o (by decide) n
    have hu : spW z x c (n + 1) = if z 53 n = x ∧ z 32 n = z 0 0 ∧ (z 23 n ≤ c ∧ c < z 23 n + z 24 n) then su (spW z x c n) 54 n 1 else spW z x c n := by
      show (if z 53 n = x ∧ z 32 n = z 0 0 ∧ (spW z x c n 23 n ≤ c ∧ c < spW z x c n 23 n + spW z x c n 24 n) then _ else _) = _
      rw [o23, o24]
    rw [hu]
    by_cases e : i = n
    · subst e
      refine ⟨fun _ => ?_, fun q => absurd q (by omega)⟩
      split
      · exact su_a
      · exact h2 (Nat.le_refl _)
    · refine ⟨fun q => ?_, fun q => ?_⟩
      · rw [← h1 (by omega)]
        split
        · rw [su_b e]
        · rfl
      · rw [← h2 (by omega)]
        split
        · rw [su_b e]
        · rfl
