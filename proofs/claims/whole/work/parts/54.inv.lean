/-! one state for both sides: what holds between calls -/
def mrg (s t : SS) : SS := fun k => if 46 ≤ k then s k else t k
theorem E_mrg {g : Nat → Nat} {a : AD} {s t : SS} (h : Sim s t) {κ i : Nat} (hκ : κ < 15) (hi : κ = 1 → i < 46) : E g a s t κ i = E g a (mrg s t) (mrg s t) κ i := by
  have hs : ∀ z, z ∈ dep κ → mrg s t z = s z := by
    intro z hz
    by_cases c : 46 ≤ z
    · exact if_pos c
    · rw [show mrg s t z = t z from if_neg c]
      refine (h z ?_).symm
      rcases (show κ = 0 ∨ κ = 1 ∨ κ = 2 ∨ κ = 3 ∨ κ = 4 ∨ κ = 5 ∨ κ = 6 ∨ κ = 7 ∨ κ = 8 ∨ κ = 9 ∨ κ = 10 ∨ κ = 11 ∨ κ = 12 ∨ κ = 13 ∨ κ = 14 by omega) with rfl | rfl | rfl | rfl | rfl | rfl | rfl | rfl | rfl | rfl | rfl | rfl | rfl | rfl | rfl <;> simp only [dep, List.mem_cons, List.not_mem_nil, or_false] at hz
      · rcases hz with rfl | rfl | rfl | rfl | rfl | rfl <;> rfl
      · rcases hz with rfl | rfl <;> rfl
      · subst hz; rfl
      · rcases hz with rfl | rfl | rfl | rfl <;> first | rfl | omega
      · rcases hz with rfl | rfl | rfl <;> rfl
      · rcases hz with rfl | rfl | rfl | rfl | rfl <;> first | rfl | omega
      · rcases hz with rfl | rfl | rfl | rfl | rfl | rfl | rfl <;> rfl
      · subst hz; rfl
      · omega
      · rcases hz with rfl | rfl | rfl | rfl | rfl | rfl | rfl | rfl | rfl | rfl | rfl <;> first | rfl | omega
      · rcases hz with rfl | rfl <;> rfl
      · omega
  rw [E_d κ i hκ hs (t := mrg s t)]
  by_cases h2 : 2 ≤ κ
  · exact (E_t κ i (mrg s t) h2).symm
  · rcases (show κ = 0 ∨ κ = 1 by omega) with rfl | rfl
    · refine congrArg (fun l => Sum.inr (8, l)) (lm fun j hj => ?_)
      unfold mF
      rw [show mrg s t j = t j from if_neg (by omega)]
    · show (Sum.inl (bif mZ i then g 1 else g 0, mN i, Sum.inl (t i)) : va_E) = Sum.inl (bif mZ i then g 1 else g 0, mN i, Sum.inl (mrg s t i))
      rw [show mrg s t i = t i from if_neg (by have := hi rfl; omega)]
def sltD (z z' : SS) (c : Nat) : Prop := z' 40 = z 40 ∧ z' 41 = z 41 ∧ z' 42 = z 42 ∧ z' 29 c = z 29 c ∧ z' 23 c = z 23 c ∧ z' 24 c = z 24 c ∧ z' 32 c = z 32 c
theorem sltW_cg {z z' : SS} {c : Nat} (h : sltD z z' c) : ∀ n, sltW z' c n = sltW z c n
  | 0 => rfl
  | n + 1 => by
    obtain ⟨h1, h2, h3, h4, h5, h6, h7⟩ := h
    unfold sltW
    rw [sltW_cg ⟨h1, h2, h3, h4, h5, h6, h7⟩ n, h1, h2, h3, h4, h5, h6, h7]
def V1 (z : SS) (nm nc nr nf ns dd c : Nat) : Prop := (z 12 0 = nI nm ∧ nm ≤ 12) ∧ (z 21 0 = nI nc ∧ nc ≤ 30) ∧ (z 33 0 = nI nr ∧ nr ≤ 20) ∧ (z 36 0 = nI nf ∧ nf ≤ 20) ∧ (z 39 0 = nI ns ∧ ns ≤ c) ∧ (z 0 0 = nI dd ∧ dd ≤ 5000) ∧ ∃ r, z 4 0 = nI r ∧ r ≤ 100
def V3 (z : SS) (nf : Nat) : Prop := (slL z 20).Perm (frL z nf) ∧ SlOK z
def V4 (z : SS) (nc : Nat) : Prop := SzOK z nc ∧ ∀ x i j, i < nc → j < nc → hasP z x i → hasP z x j → i = j
def V5 (z : SS) (nm nc nr : Nat) : Prop := (∀ i, i < nc → vp_in (z 22 i) nm) ∧ ∀ i, i < nr → vp_in (z 34 i) nm
def V6 (z : SS) (nm nc dd : Nat) : Prop := ∀ i, i < nc → (z 32 i = -1 ∧ z 53 i = -1) ∨ (¬ z 53 i = -1 ∧ (∃ d, z 32 i = nI d ∧ d ≤ dd) ∧ z 53 i = z 29 i ∧ vp_in (z 29 i) nm ∧ z 30 i = z 22 i)
def V7 (z : SS) (nm nc : Nat) : Prop := (∀ i, nm ≤ i → z 13 i = 0 ∧ z 14 i = 0 ∧ z 18 i = 0) ∧ (∀ j b, (nm ≤ j ∨ nm ≤ b) → b < 12 → z 20 (12 * j + b) = 0) ∧ ∀ i, nc ≤ i → z 28 i = 0 ∧ z 31 i = 0
/-- the latest day on which a miner salted a cell -/
def Lat (z : SS) (ns dd i c : Nat) : Prop := (z 52 (40 * i + c) = -1 ∧ ∀ k, k < ns → ¬ (z 40 k = nI i ∧ z 41 k = nI c)) ∨ ∃ d, d ≤ dd ∧ z 52 (40 * i + c) = nI d ∧ (∃ k, k < ns ∧ z 40 k = nI i ∧ z 41 k = nI c ∧ z 42 k = nI d) ∧ ∀ k, k < ns → z 40 k = nI i → z 41 k = nI c → ∃ e, e ≤ d ∧ z 42 k = nI e
def V8 (z : SS) (nm ns dd : Nat) : Prop := (∀ i c, i < nm → c < 40 → Lat z ns dd i c) ∧ ∀ k, k < ns → (∃ i, i < nm ∧ z 40 k = nI i) ∧ (∃ c, c < 40 ∧ z 41 k = nI c) ∧ ∃ d, d ≤ dd ∧ z 42 k = nI d
def V9 (z : SS) (nc ns : Nat) : Prop := ∀ i, i < nc → ¬ z 32 i = -1 → (z 54 i = 0 ↔ sltW z i ns = 0)
def Iv (z : SS) (nm nc nr nf ns dd c : Nat) : Prop := V1 z nm nc nr nf ns dd c ∧ DayInv z nm nc ∧ V3 z nf ∧ V4 z nc ∧ V5 z nm nc nr ∧ V6 z nm nc dd ∧ V7 z nm nc ∧ V8 z nm ns dd ∧ V9 z nc ns
section IC
variable {z z' : SS} {nm nc nr nf ns dd cc : Nat}
theorem V1.cg (h : V1 z nm nc nr nf ns dd cc) (c1 : Nat) (hc : cc ≤ c1) (e0 : z' 0 = z 0) (e4 : z' 4 = z 4) (e12 : z' 12 = z 12) (e21 : z' 21 = z 21) (e33 : z' 33 = z 33) (e36 : z' 36 = z 36) (e39 : z' 39 = z 39) : V1 z' nm nc nr nf ns dd c1 := by
  obtain ⟨h1, h2, h3, h4, ⟨h5, h5b⟩, h6, h7⟩ := h
  refine ⟨?_, ?_, ?_, ?_, ⟨?_, Nat.le_trans h5b hc⟩, ?_, ?_⟩
  · rw [e12]; exact h1
  · rw [e21]; exact h2
  · rw [e33]; exact h3
  · rw [e36]; exact h4
  · rw [e39]; exact h5
  · rw [e0]; exact h6
  · rw [e4]; exact h7
theorem V2.cg (h : DayInv z nm nc) (e11 : z' 11 = z 11) (e17 : z' 17 = z 17) (e25 : z' 25 = z 25) : DayInv z' nm nc := by
  obtain ⟨h1, h2, h3⟩ := h
  refine ⟨?_, ?_, ?_⟩
  · rw [e17]; exact h1
  · rw [e11]; exact h2
  · rw [e25]; exact h3
theorem V3.cg (h : V3 z nf) (e37 : z' 37 = z 37) (e38 : z' 38 = z 38) (e50 : z' 50 = z 50) (e51 : z' 51 = z 51) : V3 z' nf := by
  obtain ⟨h1, h2⟩ := h
  refine ⟨?_, fun i => by rw [e50]; exact h2 i⟩
  rw [slL_c (z := z) (z' := z') (fun i _ => ⟨by rw [e50], fun _ => by rw [e51]⟩), frL_c (z := z) (z' := z') (fun i _ => ⟨by rw [e37], by rw [e38]⟩)]
  exact h1
theorem V4.cg (h : V4 z nc) (e23 : z' 23 = z 23) (e24 : z' 24 = z 24) (e25 : z' 25 = z 25) : V4 z' nc := by
  obtain ⟨h1, h2⟩ := h
  refine ⟨?_, ?_⟩
  · unfold SzOK at h1 ⊢
    rw [e23, e24]; exact h1
  · unfold hasP at h2 ⊢
    rw [e23, e24, e25]; exact h2
theorem V5.cg (h : V5 z nm nc nr) (e22 : z' 22 = z 22) (e34 : z' 34 = z 34) : V5 z' nm nc nr := by
  unfold V5 at h ⊢
  rw [e22, e34]; exact h
theorem V6.cg (h : V6 z nm nc dd) (e22 : z' 22 = z 22) (e29 : z' 29 = z 29) (e30 : z' 30 = z 30) (e32 : z' 32 = z 32) (e53 : z' 53 = z 53) : V6 z' nm nc dd := by
  unfold V6 at h ⊢
  rw [e22, e29, e30, e32, e53]; exact h
theorem V7.cg (h : V7 z nm nc) (e13 : ∀ i, nm ≤ i → z' 13 i = z 13 i) (e14 : ∀ i, nm ≤ i → z' 14 i = z 14 i) (e18 : ∀ i, nm ≤ i → z' 18 i = z 18 i) (e20 : z' 20 = z 20) (e28 : z' 28 = z 28) (e31 : z' 31 = z 31) : V7 z' nm nc := by
  obtain ⟨h1, h2, h3⟩ := h
  refine ⟨fun i hi => ?_, ?_, ?_⟩
  · rw [e13 i hi, e14 i hi, e18 i hi]; exact h1 i hi
  · rw [e20]; exact h2
  · rw [e28, e31]; exact h3
theorem V8.cg (h : V8 z nm ns dd) (e40 : z' 40 = z 40) (e41 : z' 41 = z 41) (e42 : z' 42 = z 42) (e52 : z' 52 = z 52) : V8 z' nm ns dd := by
  unfold V8 Lat at h ⊢
  rw [e40, e41, e42, e52]; exact h
theorem V9.cg (h : V9 z nc ns) (e23 : z' 23 = z 23) (e24 : z' 24 = z 24) (e29 : z' 29 = z 29) (e32 : z' 32 = z 32) (e40 : z' 40 = z 40) (e41 : z' 41 = z 41) (e42 : z' 42 = z 42) (e54 : z' 54 = z 54) : V9 z' nc ns := by
  intro i hi
  rw [e32, e54, sltW_cg (z := z) ⟨e40, e41, e42, by rw [e29], by rw [e23], by rw [e24], by rw [e32]⟩]
  exact h i hi
/-- nothing of it is touched -/
theorem Iv.fr (h : Iv z nm nc nr nf ns dd cc) (c1 : Nat) (hc : cc ≤ c1) (e13 : ∀ i, nm ≤ i → z' 13 i = z 13 i) (e14 : ∀ i, nm ≤ i → z' 14 i = z 14 i) (e18 : ∀ i, nm ≤ i → z' 18 i = z 18 i) (e0 : z' 0 = z 0) (e4 : z' 4 = z 4) (e11 : z' 11 = z 11) (e12 : z' 12 = z 12) (e17 : z' 17 = z 17) (e20 : z' 20 = z 20) (e21 : z' 21 = z 21) (e22 : z' 22 = z 22) (e23 : z' 23 = z 23) (e24 : z' 24 = z 24) (e25 : z' 25 = z 25) (e28 : z' 28 = z 28) (e29 : z' 29 = z 29) (e30 : z' 30 = z 30) (e31 : z' 31 = z 31) (e32 : z' 32 = z 32) (e33 : z' 33 = z 33) (e34 : z' 34 = z 34) (e36 : z' 36 = z 36) (e37 : z' 37 = z 37) (e38 : z' 38 = z 38) (e39 : z' 39 = z 39) (e40 : z' 40 = z 40) (e41 : z' 41 = z 41) (e42 : z' 42 = z 42)
    (e50 : z' 50 = z 50) (e51 : z' 51 = z 51) (e52 : z' 52 = z 52) (e53 : z' 53 = z 53) (e54 : z' 54 = z 54) : Iv z' nm nc nr nf ns dd c1 := by
  obtain ⟨h1, h2, h3, h4, h5, h6, h7, h8, h9⟩ := h
  exact ⟨h1.cg c1 hc e0 e4 e12 e21 e33 e36 e39, V2.cg h2 e11 e17 e25, h3.cg e37 e38 e50 e51, h4.cg e23 e24 e25, h5.cg e22 e34, h6.cg e22 e29 e30 e32 e53, h7.cg e13 e14 e18 e20 e28 e31, h8.cg e40 e41 e42 e52, h9.cg e23 e24 e29 e32 e40 e41 e42 e54⟩
end IC
theorem Sim.rfl' {z : SS} : Sim z z := fun _ _ => rfl
/-- both sides behind a call, and all in order -/
def Nx (s t : SS) (nm nc nr c : Nat) : Prop := Sim s t ∧ ∃ nf ns dd, Iv (mrg s t) nm nc nr nf ns dd c
theorem e3 {P Q R : Prop} [Decidable P] [Decidable Q] [Decidable R] (h : (if ¬ P then (1 : Int32) else if ¬ Q then 2 else if R then 3 else 0) = 0) : P ∧ Q ∧ ¬ R := by
  by_cases h1 : P
  · rw [if_neg (fun z => z h1)] at h
    by_cases h2 : Q
    · rw [if_neg (fun z => z h2)] at h
      by_cases h3 : R
      · rw [if_pos h3] at h; exact absurd h (by decide)
      · exact ⟨h1, h2, h3⟩
    · rw [if_pos h2] at h; exact absurd h (by decide)
  · rw [if_pos h1] at h; exact absurd h (by decide)
theorem e1 {P : Prop} [Decidable P] (h : (if P then (0 : Int32) else 1) = 0) : P := by
  by_cases h1 : P
  · exact h1
  · rw [if_neg h1] at h; exact absurd h (by decide)
theorem e12 {P Q : Prop} [Decidable P] [Decidable Q] (h : (if ¬ P then (1 : Int32) else if Q then 0 else 2) = 0) : P ∧ Q := by
  by_cases h1 : P
  · rw [if_neg (fun z => z h1)] at h
    by_cases h2 : Q
    · exact ⟨h1, h2⟩
    · rw [if_neg h2] at h; exact absurd h (by decide)
  · rw [if_pos h1] at h; exact absurd h (by decide)
theorem e02 {P Q : Prop} [Decidable P] [Decidable Q] (h : (if ¬ P then (1 : Int32) else if Q then 2 else 0) = 0) : P ∧ ¬ Q := by
  by_cases h1 : P
  · rw [if_neg (fun z => z h1)] at h
    by_cases h2 : Q
    · rw [if_pos h2] at h; exact absurd h (by decide)
    · exact ⟨h1, h2⟩
  · rw [if_pos h1] at h; exact absurd h (by decide)
