theorem upd_id {f : Nat → Int32} {i : Nat} : upd f i (f i) = f := by
  funext k
  unfold upd
  by_cases h : k = i
  · rw [if_pos h, h]
  · rw [if_neg h]
theorem su_id {z : SS} {k i : Nat} {v : Int32} (h : z k i = v) : su z k i v = z := by
  subst h
  funext q
  unfold su
  by_cases h : q = k
  · subst h
    rw [if_pos rfl, upd_id]
  · rw [if_neg h]
/-- claims lapse alike -/
theorem lp_eq {z : SS} {n : Nat} (h01 : ∀ i, i < n → z 25 i = 0 ∨ z 25 i = 1) : ∀ m, m ≤ n → lpW z m = clW z m ∧ ∀ i, m ≤ i → clW z m 25 i = z 25 i
  | 0, _ => ⟨rfl, fun i _ => rfl⟩
  | m + 1, hm => by
    obtain ⟨h1, h2⟩ := lp_eq h01 m (by omega)
    have h25 := h2 m (Nat.le_refl _)
    have o : ∀ k, k ≠ 25 → clW z m k = z k := fun k hk => clW_o hk m
    refine ⟨?_, fun i hi => ?_⟩
    · unfold lpW clW
      rw [h1]
      unfold lpF
      rw [o 22 (by decide), o 17 (by decide), o 27 (by decide), o 0 (by decide), o 26 (by decide), h25]
      by_cases hd : z 17 (tn (z 22 m)) = 0
      · rw [if_pos (Or.inl hd), if_neg (fun q => q.2.1 hd)]
      · by_cases hw : z 27 m < z 0 0 - z 26 m
        · rw [if_pos (Or.inr hw), if_neg (fun q => absurd hw (Int32.not_lt.mpr q.2.2))]
        · rw [if_neg (fun q => q.elim hd hw)]
          rcases h01 m (by omega) with h0 | h0
          · rw [if_neg (fun q => q.1 h0)]
            exact (su_id (h25.trans h0)).symm
          · rw [if_pos ⟨fun e => absurd (e.symm.trans h0) (by decide), hd, Int32.not_lt.mp hw⟩]
            exact (su_id (h25.trans h0)).symm
    · unfold clW
      rw [su_b (by omega)]
      exact h2 i (by omega)
/-! freights: the class's slots and the reference's list hold the same, in some order -/
/-- the slots in use, of the first n -/
def slL (z : SS) : Nat → List (Int32 × Int32)
  | 0 => []
  | i + 1 => if 0 < z 50 i then slL z i ++ [(z 50 i, z 51 i)] else slL z i
def frL (z : SS) (n : Nat) : List (Int32 × Int32) := (List.range n).map (fun k => (z 37 k, z 38 k))
theorem slL_len {z : SS} : ∀ n, (slL z n).length = frN z n
  | 0 => rfl
  | n + 1 => by
    unfold slL frN
    split
    · rw [List.length_append, slL_len n]; rfl
    · exact slL_len n
theorem slL_c {z z' : SS} {n : Nat} (h : ∀ i, i < n → z' 50 i = z 50 i ∧ (0 < z 50 i → z' 51 i = z 51 i)) : slL z' n = slL z n := by
  induction n with
  | zero => rfl
  | succ n ih =>
    obtain ⟨h1, h2⟩ := h n (by omega)
    unfold slL
    rw [h1, ih (fun i hi => h i (by omega))]
    by_cases hp : 0 < z 50 n
    · rw [if_pos hp, if_pos hp, h2 hp]
    · rw [if_neg hp, if_neg hp]
/-- the sum of what arrives -/
def arrS (d : Int32) : List (Int32 × Int32) → Int32 → Int32
  | [], x => x
  | q :: l, x => arrS d l (if q.2 = d then x + q.1 else x)
theorem arrS_perm {d : Int32} {l l' : List (Int32 × Int32)} (h : l.Perm l') : ∀ x, arrS d l x = arrS d l' x := by
  induction h with
  | nil => exact fun x => rfl
  | cons q _ ih => exact fun x => ih _
  | swap a b l =>
    intro x
    show arrS d l _ = arrS d l _
    by_cases h1 : a.2 = d
    · by_cases h2 : b.2 = d
      · rw [if_pos h1, if_pos h2, if_pos h2, if_pos h1, Int32.add_assoc, Int32.add_assoc, Int32.add_comm b.1]
      · rw [if_pos h1, if_neg h2, if_neg h2, if_pos h1]
    · by_cases h2 : b.2 = d
      · rw [if_neg h1, if_pos h2, if_pos h2, if_neg h1]
      · rw [if_neg h1, if_neg h2, if_neg h2, if_neg h1]
  | trans _ _ ih1 ih2 => exact fun x => (ih1 x).trans (ih2 x)
