/-! digging in numbers: no order brings more than downwards -/
def msN (k : Nat) : Nat := match k with
  | 0 => 20 | 1 => 100 | 2 => 400 | _ => 2000
def hnN (k : Nat) : Nat := match k with
  | 0 => 90 | 1 => 70 | 2 => 80 | _ => 50
def rcN (k x c : Nat) : Nat := min x (msN k) * (hnN k - 3 * c) / 100
def flN (k x c : Nat) : Nat := min x (msN k) - rcN k x c
theorem hnN_le (k : Nat) : hnN k ≤ 100 := by
  unfold hnN
  split <;> omega
theorem rcN_mono {k x y c : Nat} (h : x ≤ y) : rcN k x c ≤ rcN k y c := by
  unfold rcN
  exact Nat.div_le_div_right (Nat.mul_le_mul_right _ (by omega))
theorem flN_mono {k x y c : Nat} (h : x ≤ y) : flN k x c ≤ flN k y c := by
  unfold flN rcN
  have hm : min x (msN k) ≤ min y (msN k) := by omega
  obtain ⟨d, hd⟩ : ∃ d, min y (msN k) = min x (msN k) + d := ⟨min y (msN k) - min x (msN k), by omega⟩
  have hq : hnN k - 3 * c ≤ 100 := by
    have := hnN_le k
    omega
  rw [hd]
  generalize min x (msN k) = t at *
  generalize hnN k - 3 * c = q at *
  have h1 : (t + d) * q ≤ t * q + d * 100 := by
    rw [Nat.add_mul]
    have := Nat.mul_le_mul_left d hq
    omega
  have h2 : (t + d) * q / 100 ≤ t * q / 100 + d := by
    have h3 := Nat.div_le_div_right (c := 100) h1
    rw [Nat.add_mul_div_right _ _ (by decide)] at h3
    exact h3
  omega
def xsN (g c : Nat → Nat) (k : Nat) : Nat → Nat
  | 0 => g 0
  | i + 1 => g (i + 1) + flN k (xsN g c k i) (c i)
theorem xsN_g {g c : Nat → Nat} {k : Nat} : ∀ i, g i ≤ xsN g c k i
  | 0 => Nat.le_refl _
  | i + 1 => Nat.le_add_right _ _
def dgN (g c : Nat → Nat) (k M : Nat) (op : Nat → Nat) : Nat → (Nat → Nat) × Nat
  | 0 => (g, 0)
  | p + 1 => (fun j => if j = op p then (dgN g c k M op p).1 (op p) - min ((dgN g c k M op p).1 (op p)) (msN k) else if j = op p + 1 ∧ op p < M - 1 then (dgN g c k M op p).1 j + flN k ((dgN g c k M op p).1 (op p)) (c (op p)) else (dgN g c k M op p).1 j, (dgN g c k M op p).2 + rcN k ((dgN g c k M op p).1 (op p)) (c (op p)))
def smN (f : Nat → Nat) : Nat → Nat
  | 0 => 0
  | i + 1 => smN f i + f i
theorem dgN_le {g c : Nat → Nat} {k M : Nat} {op : Nat → Nat} (hop : ∀ p q, p < M → q < M → op p = op q → p = q) : ∀ p, p ≤ M →
    (∀ j, (∀ q, q < p → op q ≠ j) → (dgN g c k M op p).1 j ≤ g j ∨ ∃ q, q < p ∧ op q + 1 = j ∧ (dgN g c k M op p).1 j ≤ g j + flN k (xsN g c k (op q)) (c (op q))) ∧ (dgN g c k M op p).2 ≤ smN (fun q => rcN k (xsN g c k (op q)) (c (op q))) p
  | 0, _ => ⟨fun j _ => Or.inl (Nat.le_refl _), Nat.le_refl _⟩
  | p + 1, h => by
    obtain ⟨h1, h2⟩ := dgN_le hop p (by omega)
    have hx : (dgN g c k M op p).1 (op p) ≤ xsN g c k (op p) := by
      rcases h1 (op p) (fun q hq e => absurd (hop q p (by omega) (by omega) e) (by omega)) with h3 | ⟨q, hq, e, h3⟩
      · exact Nat.le_trans h3 (xsN_g _)
      · rw [← e] at h3 ⊢
        exact h3
    refine ⟨fun j hj => ?_, Nat.add_le_add h2 (rcN_mono hx)⟩
    have hjo : ¬ j = op p := fun e => hj p (by omega) e.symm
    have hj2 := h1 j (fun q hq => hj q (by omega))
    by_cases hc : j = op p + 1 ∧ op p < M - 1
    · refine Or.inr ⟨p, by omega, hc.1.symm, ?_⟩
      show (if j = op p then _ else if j = op p + 1 ∧ op p < M - 1 then _ else _) ≤ _
      rw [if_neg hjo, if_pos hc]
      rcases hj2 with h3 | ⟨q, hq, e, h3⟩
      · exact Nat.add_le_add h3 (flN_mono hx)
      · have e2 : op q = op p := by omega
        exact absurd (hop q p (by omega) (by omega) e2) (by omega)
    · have e : (dgN g c k M op (p + 1)).1 j = (dgN g c k M op p).1 j := by
        show (if j = op p then _ else if j = op p + 1 ∧ op p < M - 1 then _ else _) = _
        rw [if_neg hjo, if_neg hc]
      rw [e]
      rcases hj2 with h3 | ⟨q, hq, e, h3⟩
      · exact Or.inl h3
      · exact Or.inr ⟨q, by omega, e, h3⟩
/-- downwards -/
theorem dgN_id {g c : Nat → Nat} {k M : Nat} : ∀ p, p ≤ M → (∀ j, p ≤ j → j < M → (dgN g c k M (fun q => q) p).1 j = if j = p then xsN g c k p else g j) ∧ (dgN g c k M (fun q => q) p).2 = smN (fun q => rcN k (xsN g c k q) (c q)) p
  | 0, _ => ⟨fun j _ _ => by
      by_cases h : j = 0
      · rw [if_pos h, h]; rfl
      · rw [if_neg h]; rfl, rfl⟩
  | p + 1, h => by
    obtain ⟨h1, h2⟩ := dgN_id (g := g) (c := c) (k := k) (M := M) p (by omega)
    have hx := h1 p (Nat.le_refl _) (by omega)
    rw [if_pos rfl] at hx
    refine ⟨fun j hj hM => ?_, ?_⟩
    · show (if j = p then _ else if j = p + 1 ∧ p < M - 1 then (dgN g c k M (fun q => q) p).1 j + flN k ((dgN g c k M (fun q => q) p).1 p) (c p) else (dgN g c k M (fun q => q) p).1 j) = _
      rw [if_neg (by omega), hx, h1 j (by omega) hM, if_neg (show ¬ j = p by omega)]
      by_cases e : j = p + 1
      · rw [if_pos ⟨e, by omega⟩, if_pos e, e]
        rfl
      · rw [if_neg (fun z => e z.1), if_neg e]
    · show (dgN g c k M (fun q => q) p).2 + rcN k ((dgN g c k M (fun q => q) p).1 p) (c p) = _
      rw [h2, hx]
      rfl
/-- a sum in another order -/
theorem smN_list (f : Nat → Nat) : ∀ n, smN f n = ((List.range n).map f).sum
  | 0 => rfl
  | n + 1 => by
    rw [List.range_succ, List.map_append, List.sum_append, ← smN_list f n]
    rfl
theorem pay_nat {a b : Nat} (ha : a ≤ 1000000) (hb : b ≤ 100) : payF (nI a) (nI b) = nI a * nI b / 10 := by
  have h1 : a * b ≤ 1000000 * 100 := Nat.mul_le_mul ha hb
  unfold payF
  rw [nI_l (by omega), nI_l (by omega), lN_mul, pk_mul, show (10 : Int32) = nI 10 from rfl, pk_div (by omega) (by omega) (by omega), show (10 : Int64) = lN 10 from rfl]
  have h2 : lN (a * b) / lN 10 = lN (a * b / 10) := (Int64.ofNat_div (by omega) (by omega)).symm
  rw [h2, lN_i]
