theorem arrS_app {d : Int32} {q : Int32 × Int32} : ∀ (l : List (Int32 × Int32)) (x : Int32), arrS d (l ++ [q]) x = if q.2 = d then arrS d l x + q.1 else arrS d l x
  | [], x => rfl
  | a :: l, x => arrS_app l _
abbrev notD (d : Int32) : Int32 × Int32 → Bool := fun q => !(q.2 == d)
theorem fil_app {d : Int32} {q : Int32 × Int32} {l : List (Int32 × Int32)} : (l ++ [q]).filter (notD d) = if q.2 = d then l.filter (notD d) else l.filter (notD d) ++ [q] := by
  rw [List.filter_append]
  by_cases h : q.2 = d
  · rw [if_pos h]
    simp [notD, h]
  · rw [if_neg h]
    simp [notD, h]
/-- the class unloads -/
theorem ul_all {z : SS} {d : Int32} : ∀ n, ulW z d n 5 0 = arrS d (slL z n) (z 5 0) ∧ (∀ i, n ≤ i → ulW z d n 50 i = z 50 i) ∧ slL (ulW z d n) n = (slL z n).filter (notD d)
  | 0 => ⟨rfl, fun i _ => rfl, rfl⟩
  | n + 1 => by
    obtain ⟨h1, h2, h3⟩ := ul_all (z := z) (d := d) n
    have e50 := h2 n (Nat.le_refl _)
    have e51 : ulW z d n 51 = z 51 := ulW_o (by decide) (by decide) n
    by_cases hp : 0 < z 50 n
    · have hs : slL z (n + 1) = slL z n ++ [(z 50 n, z 51 n)] := if_pos hp
      rw [hs, arrS_app, fil_app]
      by_cases hd : z 51 n = d
      · have hu : ulW z d (n + 1) = su (su (ulW z d n) 5 0 (ulW z d n 5 0 + ulW z d n 50 n)) 50 n 0 := if_pos ⟨by rw [e50]; exact hp, hd⟩
        rw [hu, if_pos hd, if_pos hd]
        refine ⟨?_, fun i hi => ?_, ?_⟩
        · rw [su_o (by decide), su_a, h1, e50]
        · rw [su_b (by omega), su_o (by decide)]
          exact h2 i (by omega)
        · have : slL (su (su (ulW z d n) 5 0 (ulW z d n 5 0 + ulW z d n 50 n)) 50 n 0) (n + 1) = slL (su (su (ulW z d n) 5 0 (ulW z d n 5 0 + ulW z d n 50 n)) 50 n 0) n := by
            show (if 0 < _ then _ else _) = _
            rw [su_a, if_neg (by decide)]
          rw [this, ← h3]
          exact slL_c (fun i hi => ⟨by rw [su_b (by omega), su_o (by decide)], fun _ => by rw [su_o (by decide), su_o (by decide)]⟩)
      · have hu : ulW z d (n + 1) = ulW z d n := if_neg (fun q => hd q.2)
        rw [hu, if_neg hd, if_neg hd]
        refine ⟨h1, fun i hi => h2 i (by omega), ?_⟩
        show (if 0 < ulW z d n 50 n then _ else _) = _
        rw [e50, if_pos hp, h3, e51]
    · have hs : slL z (n + 1) = slL z n := if_neg hp
      have hu : ulW z d (n + 1) = ulW z d n := if_neg (fun q => hp (by rw [← e50]; exact q.1))
      rw [hs, hu]
      refine ⟨h1, fun i hi => h2 i (by omega), ?_⟩
      show (if 0 < ulW z d n 50 n then _ else _) = _
      rw [e50, if_neg hp]
      exact h3
theorem frL_s {z : SS} {n : Nat} : frL z (n + 1) = frL z n ++ [(z 37 n, z 38 n)] := by
  unfold frL
  rw [List.range_succ, List.map_append]
  rfl
theorem frL_c {z z' : SS} {n : Nat} (h : ∀ i, i < n → z' 37 i = z 37 i ∧ z' 38 i = z 38 i) : frL z' n = frL z n := by
  induction n with
  | zero => rfl
  | succ n ih =>
    obtain ⟨h1, h2⟩ := h n (by omega)
    rw [frL_s, frL_s, ih (fun i hi => h i (by omega)), h1, h2]
/-- the reference's freights arrive -/
theorem ar_all {z : SS} : ∀ n, (arS z n).1 5 0 = arrS (z 0 0) (frL z n) (z 5 0) ∧ (∀ i, n ≤ i → (arS z n).1 37 i = z 37 i ∧ (arS z n).1 38 i = z 38 i) ∧ frL (arS z n).1 (arS z n).2 = (frL z n).filter (notD (z 0 0))
  | 0 => ⟨rfl, fun i _ => ⟨rfl, rfl⟩, rfl⟩
  | n + 1 => by
    obtain ⟨h1, h2, h3⟩ := ar_all (z := z) n
    obtain ⟨e37, e38⟩ := h2 n (Nat.le_refl _)
    have hle := arS_le (z := z) n
    rw [frL_s, arrS_app, fil_app]
    by_cases hd : z 38 n = z 0 0
    · have hu : arS z (n + 1) = (su (arS z n).1 5 0 ((arS z n).1 5 0 + (arS z n).1 37 n), (arS z n).2) := if_pos (e38.trans hd)
      rw [hu, if_pos hd, if_pos hd]
      refine ⟨?_, fun i hi => ?_, ?_⟩
      · dsimp only
        rw [su_a, h1, e37]
      · dsimp only
        rw [su_o (by decide), su_o (by decide)]
        exact h2 i (by omega)
      · dsimp only
        rw [← h3]
        exact frL_c (fun i hi => ⟨by rw [su_o (by decide)], by rw [su_o (by decide)]⟩)
    · have hu : arS z (n + 1) = (su (su (arS z n).1 37 (arS z n).2 ((arS z n).1 37 n)) 38 (arS z n).2 ((arS z n).1 38 n), (arS z n).2 + 1) := if_neg (fun q => hd (e38.symm.trans q))
      rw [hu, if_neg hd, if_neg hd]
      refine ⟨?_, fun i hi => ?_, ?_⟩
      · dsimp only
        rw [su_o (by decide), su_o (by decide)]
        exact h1
      · dsimp only
        rw [su_o (by decide), su_b (by omega), su_b (by omega), su_o (by decide)]
        exact h2 i (by omega)
      · dsimp only
        rw [frL_s, ← h3, su_o (show (37 : Nat) ≠ 38 by decide), su_a, su_a, e37, e38]
        congr 1
        exact frL_c (fun i hi => ⟨by rw [su_o (by decide), su_b (by omega)], by rw [su_b (by omega), su_o (by decide)]⟩)
