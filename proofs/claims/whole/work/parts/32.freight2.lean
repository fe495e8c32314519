/-- slots hold nothing or something -/
def SlOK (z : SS) : Prop := ∀ i, z 50 i = 0 ∨ 0 < z 50 i
theorem fsE_0 {z : SS} : ∀ n, (fsE z n < n → z 50 (fsE z n) = 0 ∧ ∀ i, i < fsE z n → ¬ z 50 i = 0) ∧ (¬ fsE z n < n → fsE z n = n ∧ ∀ i, i < n → ¬ z 50 i = 0)
  | 0 => ⟨fun h => absurd h (Nat.not_lt_zero _), fun _ => ⟨rfl, fun i h => absurd h (Nat.not_lt_zero _)⟩⟩
  | n + 1 => by
    obtain ⟨h1, h2⟩ := fsE_0 (z := z) n
    by_cases h : fsE z n < n
    · have e : fsE z (n + 1) = fsE z n := if_pos h
      rw [e]
      exact ⟨fun _ => h1 h, fun q => absurd (by omega) q⟩
    · obtain ⟨h3, h4⟩ := h2 h
      by_cases h0 : z 50 n = 0
      · have e : fsE z (n + 1) = n := by
          show (if _ then _ else if _ then _ else _) = n
          rw [if_neg h, if_pos h0]
        rw [e]
        exact ⟨fun _ => ⟨h0, h4⟩, fun q => absurd (by omega) q⟩
      · have e : fsE z (n + 1) = n + 1 := by
          show (if _ then _ else if _ then _ else _) = n + 1
          rw [if_neg h, if_neg h0]
        rw [e]
        refine ⟨fun q => absurd q (by omega), fun _ => ⟨rfl, fun i hi => ?_⟩⟩
        by_cases hn : i = n
        · rw [hn]; exact h0
        · exact h4 i (by omega)
theorem frN_full {z : SS} (hz : SlOK z) : ∀ n, (∀ i, i < n → ¬ z 50 i = 0) → frN z n = n
  | 0, _ => rfl
  | n + 1, h => by
    unfold frN
    rw [if_pos ((hz n).resolve_left (h n (by omega))), frN_full hz n (fun i hi => h i (by omega))]
theorem snd_perm {z : SS} {e : Nat} {m d : Int32} (h0 : z 50 e = 0) (hm : 0 < m) : ∀ k, (slL (su (su z 50 e m) 51 e d) (e + 1 + k)).Perm (slL z (e + 1 + k) ++ [(m, d)])
  | 0 => by
    have h1 : slL (su (su z 50 e m) 51 e d) e = slL z e := slL_c (fun i hi => ⟨by rw [su_o (by decide), su_b (by omega)], fun _ => by rw [su_b (by omega), su_o (by decide)]⟩)
    have h2 : slL (su (su z 50 e m) 51 e d) (e + 1) = slL z e ++ [(m, d)] := by
      show (if 0 < _ then _ else _) = _
      rw [su_o (show (50 : Nat) ≠ 51 by decide), su_a, if_pos hm, h1, su_a]
    have h3 : slL z (e + 1) = slL z e := by
      show (if 0 < _ then _ else _) = _
      rw [h0, if_neg (by decide)]
    show (slL _ (e + 1)).Perm (slL z (e + 1) ++ _)
    rw [h2, h3]
  | k + 1 => by
    have ih := snd_perm (z := z) (e := e) (m := m) (d := d) h0 hm k
    have e1 : slL (su (su z 50 e m) 51 e d) (e + 1 + k + 1) = if 0 < z 50 (e + 1 + k) then slL (su (su z 50 e m) 51 e d) (e + 1 + k) ++ [(z 50 (e + 1 + k), z 51 (e + 1 + k))] else slL (su (su z 50 e m) 51 e d) (e + 1 + k) := by
      show (if 0 < _ then _ else _) = _
      rw [su_o (show (50 : Nat) ≠ 51 by decide), su_b (by omega), su_b (by omega), su_o (show (51 : Nat) ≠ 50 by decide)]
    have e2 : slL z (e + 1 + k + 1) = if 0 < z 50 (e + 1 + k) then slL z (e + 1 + k) ++ [(z 50 (e + 1 + k), z 51 (e + 1 + k))] else slL z (e + 1 + k) := rfl
    show (slL _ (e + 1 + k + 1)).Perm (slL z (e + 1 + k + 1) ++ _)
    rw [e1, e2]
    by_cases hp : 0 < z 50 (e + 1 + k)
    · rw [if_pos hp, if_pos hp]
      refine (ih.append_right _).trans ?_
      rw [List.append_assoc, List.append_assoc]
      exact List.Perm.append_left _ (List.Perm.swap _ _ [])
    · rw [if_neg hp, if_neg hp]
      exact ih
/-- a freight is sent -/
theorem send_eq {z : SS} {m d : Int32} (hz : SlOK z) (hf : frN z 20 < 20) (hm : 0 < m) : (slL (sndF z m d) 20).Perm (slL z 20 ++ [(m, d)]) ∧ SlOK (sndF z m d) := by
  have h := fsE_0 (z := z) 20
  have hlt : fsE z 20 < 20 := by
    by_cases q : fsE z 20 < 20
    · exact q
    · have := frN_full hz 20 (h.2 q).2
      omega
  have h0 := (h.1 hlt).1
  unfold sndF
  rw [if_pos hlt]
  refine ⟨?_, fun i => ?_⟩
  · have := snd_perm (z := z) (e := fsE z 20) (m := m) (d := d) h0 hm (20 - (fsE z 20 + 1))
    rw [show fsE z 20 + 1 + (20 - (fsE z 20 + 1)) = 20 by omega] at this
    exact this
  · rw [su_o (by decide)]
    by_cases e : i = fsE z 20
    · rw [e, su_a]
      exact Or.inr hm
    · rw [su_b e]
      exact hz i
