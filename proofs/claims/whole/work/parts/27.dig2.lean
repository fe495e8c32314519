theorem ly_inj : ∀ m, m < 6 → ∀ n, n < ordL (m + 1) → ∀ p, p < m → ∀ q, q < m → lyC m n p = lyC m n q → p = q := by decide +kernel
theorem ly_perm : ∀ m, m < 6 → ∀ n, n < ordL (m + 1) → ((List.range m).map (lyC m n)).isPerm (List.range m) = true := by decide +kernel
theorem ly_0 : ∀ m, m < 6 → ∀ p, p < m → lyC m 0 p = p := by decide +kernel
theorem smN_perm {f : Nat → Nat} {m n : Nat} (hm : m < 6) (hn : n < ordL (m + 1)) : smN (fun q => f (lyC m n q)) m = smN f m := by
  have h := List.isPerm_iff.mp (ly_perm m hm n hn)
  rw [smN_list, smN_list]
  have h2 := (h.map f).sum_nat
  rw [List.map_map] at h2
  exact h2
theorem min_nat {a b : Nat} (ha : a < 2 ^ 31) (hb : b < 2 ^ 31) : minF (nI a) (nI b) = nI (min a b) := by
  unfold minF
  by_cases h : a < b
  · rw [if_pos ((nI_ltI ha hb).mpr h), Nat.min_eq_left (by omega)]
  · rw [if_neg (fun q => h ((nI_ltI ha hb).mp q)), Nat.min_eq_right (by omega)]
theorem most_nat : ∀ k, k < 4 → mostF (nI k) = nI (msN k) ∧ hundF (nI k) = nI (hnN k) ∧ msN k ≤ 2000 ∧ 50 ≤ hnN k := by decide
theorem tak_nat {k g : Nat} (hk : k < 4) (hg : g < 2 ^ 31) : takF (nI k) (nI g) = nI (min g (msN k)) := by
  obtain ⟨h1, h2, h3, h4⟩ := most_nat k hk
  unfold takF
  rw [h1, min_nat hg (by omega)]
theorem rcN_le {k x c : Nat} : rcN k x c ≤ min x (msN k) := by
  unfold rcN
  have hq : hnN k - 3 * c ≤ 100 := by
    have := hnN_le k
    omega
  have h1 := Nat.mul_le_mul_left (min x (msN k)) hq
  have h2 := Nat.div_le_div_right (c := 100) h1
  rw [Nat.mul_div_cancel _ (by decide)] at h2
  exact h2
theorem rec_nat {k g c : Nat} (hk : k < 4) (hg : g < 2 ^ 31) (hc : c ≤ 9) : recF (nI k) (nI g) (nI c) = nI (rcN k g c) := by
  obtain ⟨h1, h2, h3, h4⟩ := most_nat k hk
  unfold recF rcN
  rw [h1, h2, min_nat hg (by omega), show (3 : Int32) = nI 3 from rfl, pk_mul, pk_sub (by omega), pk_mul, show (100 : Int32) = nI 100 from rfl]
  have hq : hnN k - 3 * c ≤ 100 := by
    have := hnN_le k
    omega
  have hb : min g (msN k) * (hnN k - 3 * c) ≤ 2000 * 100 := Nat.mul_le_mul (by omega) hq
  exact pk_div (by omega) (by omega) (by omega)
theorem dgN_b {g c : Nat → Nat} {k M B : Nat} {op : Nat → Nat} (hk : k < 4) (hg : ∀ j, j < M → g j ≤ B) : ∀ p, (∀ j, j < M → (dgN g c k M op p).1 j ≤ B + 2000 * p) ∧ (dgN g c k M op p).2 ≤ 2000 * p
  | 0 => ⟨fun j hj => by have := hg j hj; show g j ≤ _; omega, Nat.le_refl _⟩
  | p + 1 => by
    obtain ⟨h1, h2⟩ := dgN_b (c := c) (op := op) hk hg p
    have hms := (most_nat k hk).2.2.1
    have hf : ∀ x c, flN k x c ≤ 2000 := fun x c => by unfold flN; omega
    have hr : ∀ x c, rcN k x c ≤ 2000 := fun x c => by
      have := rcN_le (k := k) (x := x) (c := c)
      omega
    refine ⟨fun j hj => ?_, ?_⟩
    · have h3 := h1 j hj
      show (if j = op p then _ else if j = op p + 1 ∧ op p < M - 1 then _ else _) ≤ _
      split
      · rename_i e
        rw [← e]
        omega
      · split
        · have := hf ((dgN g c k M op p).1 (op p)) (c (op p))
          omega
        · omega
    · have := hr ((dgN g c k M op p).1 (op p)) (c (op p))
      show (dgN g c k M op p).2 + _ ≤ _
      omega
theorem dgI_44 {z : SS} {f : Nat} {j : Nat} : ∀ n, j < n → dgI z f n 44 j = z 9 (f + j)
  | 0, h => absurd h (Nat.not_lt_zero _)
  | n + 1, h => by
    unfold dgI
    by_cases e : j = n
    · subst e
      exact su_a
    · rw [su_b e]
      exact dgI_44 n (by omega)
/-- the digging of the reference in numbers -/
theorem dgW_nat {Z : SS} {f M k B : Nat} {g c : Nat → Nat} {op : Nat → Nat} (hk : k < 4) (hM : M < 6) (hB : B ≤ 10000000) (hg : ∀ j, j < M → Z 44 j = nI (g j) ∧ g j ≤ B) (hc : ∀ j, j < M → Z 10 (f + j) = nI (c j) ∧ c j ≤ 9) (hop : ∀ p, p < M → op p < M) : ∀ p, p ≤ M →
    (∀ j, j < M → (dgW Z f M (nI k) op p).1 44 j = nI ((dgN g c k M op p).1 j)) ∧ (dgW Z f M (nI k) op p).2 = nI (dgN g c k M op p).2
  | 0, _ => ⟨fun j hj => (hg j hj).1, rfl⟩
  | p + 1, h => by
    obtain ⟨h1, h2⟩ := dgW_nat hk hM hB hg hc hop p (by omega)
    obtain ⟨b1, b2⟩ := dgN_b (c := c) (op := op) (M := M) hk (fun j hj => (hg j hj).2) p
    have ho := hop p (by omega)
    have hx := h1 _ ho
    have bx := b1 _ ho
    obtain ⟨c1, c2⟩ := hc _ ho
    have ht : takF (nI k) (nI ((dgN g c k M op p).1 (op p))) = nI (min ((dgN g c k M op p).1 (op p)) (msN k)) := tak_nat hk (by omega)
    have hr : recF (nI k) (nI ((dgN g c k M op p).1 (op p))) (nI (c (op p))) = nI (rcN k ((dgN g c k M op p).1 (op p)) (c (op p))) := rec_nat hk (by omega) c2
    have hle := rcN_le (k := k) (x := (dgN g c k M op p).1 (op p)) (c := c (op p))
    refine ⟨fun j hj => ?_, ?_⟩
    · have hj2 := h1 j hj
      unfold dgW dgN
      simp only [hx, c1, ht, hr]
      rw [pk_sub (Nat.min_le_left _ _), pk_sub hle]
      by_cases e2 : op p < M - 1
      · rw [if_pos e2]
        by_cases e3 : j = op p + 1
        · subst e3
          rw [su_a, su_b (by omega), hj2, nI_add, if_neg (by omega), if_pos ⟨rfl, e2⟩]
          rfl
        · rw [su_b e3]
          by_cases e4 : j = op p
          · subst e4
            rw [su_a, if_pos rfl]
          · rw [su_b e4, hj2, if_neg e4, if_neg (fun q => e3 q.1)]
      · rw [if_neg e2]
        by_cases e4 : j = op p
        · subst e4
          rw [su_a, if_pos rfl]
        · rw [su_b e4, hj2, if_neg e4, if_neg (fun q => e2 q.2)]
    · show (dgW Z f M (nI k) op p).2 + recF (nI k) ((dgW Z f M (nI k) op p).1 44 (op p)) (Z 10 (f + op p)) = _
      rw [hx, c1, hr, h2, nI_add]
      rfl
