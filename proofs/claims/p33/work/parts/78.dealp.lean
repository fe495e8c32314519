/-! what the step that trades must know -/
theorem bk_iff {s : SS} {nm nc nr k : Nat} (hJ : Js s nm nc nr k) {x y p m : Nat} (hx : x < nm) (hy : y < nm) (hp : p ≤ 100) (hm : m ≤ 100000) : (s 17 (tn (nI x)) = 0 ∨ s 17 (tn (nI y)) = 0 ∨ ¬ s 20 (12 * tn (nI y) + tn (nI x)) = 0 ∨ s 16 (tn (nI x)) < nI m ∨ 100 < sumN (fun b => s 20 (12 * tn (nI y) + b)) 12 + nI p) ↔ (tn (s 17 x) = 0 ∨ tn (s 17 y) = 0 ∨ ¬ s 20 (12 * y + x) = 0 ∨ tn (s 16 x) < m ∨ 100 < PS s y + p) := by
  have h12 := hJ.1.1
  have hps := hJ.mps hy
  rw [tn_nI (show x < 2 ^ 31 by omega), tn_nI (show y < 2 ^ 31 by omega), (hJ.m17 hx).1.eq0, (hJ.m17 hy).1.eq0, (hJ.m16 hx).1.ltc (n := m) (by omega), hps.1, nI_add, show (100 : Int32) = nI 100 from rfl, nI_ltI (by omega) (by omega)]
theorem bk_no {a b c d e : Prop} [Decidable c] {x y u v : Nat} (hd : ¬ x ≤ y → d) (he : ¬ u ≤ v → e) (h : ¬ (a ∨ b ∨ ¬ c ∨ d ∨ e)) : ¬ a ∧ ¬ b ∧ c ∧ x ≤ y ∧ u ≤ v :=
  ⟨fun z => h (Or.inl z), fun z => h (Or.inr (Or.inl z)), Decidable.byContradiction (fun z => h (Or.inr (Or.inr (Or.inl z)))), Decidable.byContradiction (fun z => h (Or.inr (Or.inr (Or.inr (Or.inl (hd z)))))), Decidable.byContradiction (fun z => h (Or.inr (Or.inr (Or.inr (Or.inr (he z))))))⟩
