/-! what holds between the law's steps: k bounds what has been done -/
def tot (s : SS) (nm : Nat) : Nat := SN (s 9) 40 + tn (s 6 0) + SN (s 13) nm + tn (s 7 0)
def K0 (s : SS) (nm nc nr : Nat) : Prop := (nm ≤ 12 ∧ nc ≤ 30 ∧ nr ≤ 20) ∧ (Nn (s 0 0) ∧ tn (s 0 0) ≤ 5000) ∧ (Nn (s 1 0) ∧ tn (s 1 0) ≤ 1000) ∧ (Nn (s 2 0) ∧ 1 ≤ tn (s 2 0) ∧ tn (s 2 0) ≤ 10) ∧ (Nn (s 3 0) ∧ 1 ≤ tn (s 3 0) ∧ tn (s 3 0) ≤ 100) ∧ (Nn (s 4 0) ∧ 1 ≤ tn (s 4 0) ∧ tn (s 4 0) ≤ 100) ∧ (s 12 0 = nI nm ∧ s 21 0 = nI nc ∧ s 33 0 = nI nr)
def K1 (s : SS) (k : Nat) : Prop := Nn (s 5 0) ∧ (∀ i, i < 20 → Nn (s 50 i)) ∧ tn (s 5 0) + SN (s 50) 20 ≤ 50 + 100 * k
def K2 (s : SS) (nm k : Nat) : Prop := (∀ c, c < 40 → Nn (s 9 c)) ∧ (∀ c, c < 40 → Nn (s 10 c) ∧ tn (s 10 c) ≤ 9) ∧ Nn (s 6 0) ∧ Nn (s 7 0) ∧ (∀ i, i < nm → Nn (s 13 i)) ∧ tot s nm ≤ 100000 * k ∧ SN (s 13) nm ≤ 1000 * k
def K3 (s : SS) : Prop := ∀ c, c < 40 → Nn (s 11 c) ∧ tn (s 11 c) ≤ 100
def K4 (s : SS) (nm k : Nat) : Prop := (∀ i, i < nm → (Nn (s 14 i) ∧ tn (s 14 i) ≤ 100000) ∧ (Nn (s 15 i) ∧ tn (s 15 i) ≤ 1000 + 100 * k) ∧ Nn (s 16 i) ∧ (Nn (s 17 i) ∧ tn (s 17 i) ≤ 10) ∧ Nn (s 18 i) ∧ tn (s 18 i) ≤ k) ∧ SN (s 16) nm ≤ 10001000 * k
def K5 (s : SS) (nm : Nat) : Prop := (∀ i b, i < nm → b < 12 → Nn (s 20 (12 * i + b))) ∧ (∀ i, i < nm → SN (fun b => s 20 (12 * i + b)) 12 ≤ 100) ∧ (∀ i, i < nm → s 20 (12 * i + i) = 0) ∧ ∀ i b, i < nm → nm ≤ b → b < 12 → s 20 (12 * i + b) = 0
/-- the claim i is held and has the cell c -/
def cov (s : SS) (i c : Nat) : Prop := ¬ s 25 i = 0 ∧ tn (s 23 i) ≤ c ∧ c < tn (s 23 i) + tn (s 24 i)
def K6 (s : SS) (nm nc : Nat) : Prop := (∀ i, i < nc → (Nn (s 22 i) ∧ tn (s 22 i) < nm) ∧ (Nn (s 23 i) ∧ Nn (s 24 i) ∧ 1 ≤ tn (s 24 i) ∧ tn (s 24 i) ≤ 10 ∧ tn (s 23 i) + tn (s 24 i) ≤ 40) ∧ (Nn (s 26 i) ∧ tn (s 26 i) ≤ tn (s 0 0)) ∧ (Nn (s 27 i) ∧ tn (s 27 i) ≤ 100) ∧ (s 25 i = 0 ∨ s 25 i = 1) ∧ (¬ s 25 i = 0 → ¬ s 17 (tn (s 22 i)) = 0 ∧ tn (s 0 0) ≤ tn (s 26 i) + tn (s 27 i))) ∧ ∀ i j c, i < nc → j < nc → cov s i c → cov s j c → i = j
def K7 (s : SS) (nm nc : Nat) : Prop := ∀ i, i < nc → (∃ q, q ≤ nm ∧ s 53 i = nI q - 1 ∧ (0 < q → ¬ tn (s 22 i) = q - 1)) ∧ Nn (s 31 i) ∧ tn (s 31 i) ≤ 100000
def K8 (s : SS) (nm nr : Nat) : Prop := ∀ i, i < nr → (Nn (s 34 i) ∧ tn (s 34 i) < nm) ∧ Nn (s 35 i) ∧ 1 ≤ tn (s 35 i) ∧ tn (s 35 i) ≤ 200
def Js (s : SS) (nm nc nr k : Nat) : Prop := K0 s nm nc nr ∧ K1 s k ∧ K2 s nm k ∧ K3 s ∧ K4 s nm k ∧ K5 s nm ∧ K6 s nm nc ∧ K7 s nm nc ∧ K8 s nm nr
/-- the law's own arrays -/
def T0 (s t : SS) (nm nc nr k : Nat) : Prop := t 0 0 = nI nm ∧ t 0 1 = nI nc ∧ t 0 2 = nI nr ∧ t 0 3 = nI (tot s nm) ∧ (t 0 4 = s 8 0 ∧ (s 8 0 = 0 ∨ s 8 0 = 1)) ∧ ∃ p, t 0 5 = nI p ∧ 0 ≤ k
def T1 (s t : SS) (nr : Nat) : Prop := ∀ i, i < nr → t 1 i = nI (tn (s 35 i) + 1000 * tn (s 34 i))
def T2 (s t : SS) (nm : Nat) : Prop := (∀ i, i < nm → ∃ d, t 2 i = nI d ∧ s 19 i = nI d - 1 ∧ d ≤ 5001) ∧ ∀ i, nm ≤ i → i < 12 → t 2 i = 0
def T3 (s t : SS) (nm : Nat) : Prop := ∀ i, i < nm → Nn (t 2 (12 + i)) ∧ tn (t 2 (12 + i)) ≤ 10 ∧ (t 2 (12 + i) = 0 → s 17 i = 0)
def T4 (s t : SS) (nc : Nat) : Prop := (∀ i, i < nc → t 3 i = s 31 i ∧ t 3 (30 + i) = s 53 i + 1) ∧ ∀ i, nc ≤ i → i < 30 → t 3 i = 0 ∧ t 3 (30 + i) = 0
def K9 (s t : SS) (nm nc nr k : Nat) : Prop := T0 s t nm nc nr k ∧ T1 s t nr ∧ T2 s t nm ∧ T3 s t nm ∧ T4 s t nc
section CG
variable {s z : SS} {nm nc nr k k1 : Nat}
theorem K0.cg (h : K0 s nm nc nr) (e0 : z 0 = s 0) (e1 : z 1 = s 1) (e2 : z 2 = s 2) (e3 : z 3 = s 3) (e4 : z 4 = s 4) (e12 : z 12 0 = s 12 0) (e21 : z 21 0 = s 21 0) (e33 : z 33 0 = s 33 0) : K0 z nm nc nr := by
  unfold K0 at h ⊢
  rw [e0, e1, e2, e3, e4, e12, e21, e33]; exact h
theorem K1.cg (h : K1 s k) (hk : k ≤ k1) (e5 : z 5 = s 5) (e50 : z 50 = s 50) : K1 z k1 := by
  unfold K1 at h ⊢
  rw [e5, e50]; exact ⟨h.1, h.2.1, by have := h.2.2; omega⟩
theorem tot_c (e6 : z 6 = s 6) (e7 : z 7 = s 7) (e9 : z 9 = s 9) (e13 : z 13 = s 13) : tot z nm = tot s nm := by
  unfold tot
  rw [e6, e7, e9, e13]
theorem K2.cg (h : K2 s nm k) (hk : k ≤ k1) (e6 : z 6 = s 6) (e7 : z 7 = s 7) (e9 : z 9 = s 9) (e10 : z 10 = s 10) (e13 : z 13 = s 13) : K2 z nm k1 := by
  unfold K2 at h ⊢
  rw [tot_c e6 e7 e9 e13, e6, e7, e9, e10, e13]
  obtain ⟨a, b, c, d, e, f, g⟩ := h
  exact ⟨a, b, c, d, e, by omega, by omega⟩
theorem K3.cg (h : K3 s) (e11 : z 11 = s 11) : K3 z := by
  unfold K3 at h ⊢
  rw [e11]; exact h
theorem K4.cg (h : K4 s nm k) (hk : k ≤ k1) (e14 : z 14 = s 14) (e15 : z 15 = s 15) (e16 : z 16 = s 16) (e17 : z 17 = s 17) (e18 : z 18 = s 18) : K4 z nm k1 := by
  unfold K4 at h ⊢
  rw [e14, e15, e16, e17, e18]
  exact ⟨fun i hi => by obtain ⟨a, ⟨b, b2⟩, c, d, e, f⟩ := h.1 i hi; exact ⟨a, ⟨b, by omega⟩, c, d, e, by omega⟩, by have := h.2; omega⟩
theorem K5.cg (h : K5 s nm) (e20 : z 20 = s 20) : K5 z nm := by
  unfold K5 at h ⊢
  rw [e20]; exact h
theorem K6.cg (h : K6 s nm nc) (e0 : z 0 = s 0) (e17 : z 17 = s 17) (e22 : z 22 = s 22) (e23 : z 23 = s 23) (e24 : z 24 = s 24) (e25 : z 25 = s 25) (e26 : z 26 = s 26) (e27 : z 27 = s 27) : K6 z nm nc := by
  unfold K6 cov at h ⊢
  rw [e0, e17, e22, e23, e24, e25, e26, e27]; exact h
theorem K7.cg (h : K7 s nm nc) (e22 : z 22 = s 22) (e31 : z 31 = s 31) (e53 : z 53 = s 53) : K7 z nm nc := by
  unfold K7 at h ⊢
  rw [e22, e31, e53]; exact h
theorem K8.cg (h : K8 s nm nr) (e34 : z 34 = s 34) (e35 : z 35 = s 35) : K8 z nm nr := by
  unfold K8 at h ⊢
  rw [e34, e35]; exact h
theorem Js.mono (h : Js s nm nc nr k) (hk : k ≤ k1) : Js s nm nc nr k1 := by
  obtain ⟨h0, h1, h2, h3, h4, h5, h6, h7, h8⟩ := h
  exact ⟨h0, h1.cg hk rfl rfl, h2.cg hk rfl rfl rfl rfl rfl, h3, h4.cg hk rfl rfl rfl rfl rfl, h5, h6, h7, h8⟩
theorem K9.mono {t : SS} (h : K9 s t nm nc nr k) (hk : k ≤ k1) : K9 s t nm nc nr k1 := by
  obtain ⟨⟨a, b, c, d, e, p, hp, hp2⟩, h1, h2, h3, h4⟩ := h
  exact ⟨⟨a, b, c, d, e, p, hp, by omega⟩, h1, h2, h3, h4⟩
theorem Js.bs (h : Js s nm nc nr k) : Bs s nm nc nr := by
  obtain ⟨h0, h1, h2, h3, h4, h5, h6, h7, h8⟩ := h
  have hn := h0.1
  refine ⟨hn, ⟨tn (s 0 0), h0.2.1.1, h0.2.1.2⟩, fun i hi => ?_, fun i hi => ?_, fun i hi => ?_, fun i hi hne => ?_⟩
  · have a := (h6.1 i hi).1
    exact a.1.pv a.2 (by omega)
  · obtain ⟨a, b, c, d, e⟩ := (h6.1 i hi).2.1
    exact ⟨a.pv (by omega) (by omega), b.pv (by omega) (by omega), e⟩
  · have a := (h8 i hi).1
    exact a.1.pv a.2 (by omega)
  · obtain ⟨⟨q, hq, e, -⟩, -⟩ := h7 i hi
    have h0 : ¬ q = 0 := fun z => hne (by rw [e]; exact (nI_m (by omega)).mpr z)
    rw [e, nI_prd (by omega)]
    exact vp_in_nI (by omega) (by omega)
end CG
