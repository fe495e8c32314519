/-- health, beliefs and holdings as they always are -/
def DayInv (z : SS) (nm nc : Nat) : Prop := (∀ i, i < nm → ∃ h, z 17 i = nI h ∧ h ≤ 10) ∧ (∀ i, i < 40 → ∃ b, z 11 i = nI b ∧ b ≤ 100) ∧ ∀ i, i < nc → z 25 i = 0 ∨ z 25 i = 1
theorem eat_10 : ∀ h, h ≤ 10 → (∃ k, k ≤ 10 ∧ minF (nI h + 1) 10 = nI k) ∧ ∃ k, k ≤ 10 ∧ (if nI h < 2 then 0 else nI h - 2) = nI k := by
  intro h hh
  refine ⟨⟨min (h + 1) 10, by omega, ?_⟩, ⟨h - 2, by omega, ?_⟩⟩
  · exact (by decide : ∀ h, h ≤ 10 → minF (nI h + 1) 10 = nI (min (h + 1) 10)) h hh
  · exact (by decide : ∀ h, h ≤ 10 → (if nI h < 2 then 0 else nI h - 2) = nI (h - 2)) h hh
theorem fade_100 : ∀ b, b ≤ 100 → fadeF (nI b) = nI (b - (b / 10 + 1)) := by decide +kernel
theorem ea_inv {z : SS} {i : Nat} (h : ∃ h, z 17 i = nI h ∧ h ≤ 10) : ∀ n, ∃ h, eaW z n 17 i = nI h ∧ h ≤ 10
  | 0 => h
  | n + 1 => by
    obtain ⟨k, hk, h10⟩ := ea_inv h n
    show ∃ h, (if eaW z n 17 n = 0 then eaW z n else eatF (eaW z n) n : SS) 17 i = nI h ∧ h ≤ 10
    split
    · exact ⟨k, hk, h10⟩
    · rw [eatF_17]
      by_cases e : i = n
      · subst e
        show ∃ h, (if i = i then _ else _) = nI h ∧ h ≤ 10
        rw [if_pos rfl, hk]
        obtain ⟨⟨k1, g1, e1⟩, k2, g2, e2⟩ := eat_10 k h10
        by_cases c : 0 < eaW z i 15 i
        · rw [if_pos c]; exact ⟨k1, e1, g1⟩
        · rw [if_neg c]; exact ⟨k2, e2, g2⟩
      · show ∃ h, (if i = n then _ else _) = nI h ∧ h ≤ 10
        rw [if_neg e]
        exact ⟨k, hk, h10⟩
theorem fd_inv {z : SS} {i : Nat} (h : ∃ b, z 11 i = nI b ∧ b ≤ 100) : ∀ n, ∃ b, fdW z n 11 i = nI b ∧ b ≤ 100
  | 0 => h
  | n + 1 => by
    obtain ⟨k, hk, h100⟩ := fd_inv h n
    unfold fdW
    by_cases e : i = n
    · subst e
      rw [su_a, hk, fade_100 k h100]
      exact ⟨_, rfl, by omega⟩
    · rw [su_b e]
      exact ⟨k, hk, h100⟩
theorem cl_inv {z : SS} {i : Nat} (h : z 25 i = 0 ∨ z 25 i = 1) : ∀ n, clW z n 25 i = 0 ∨ clW z n 25 i = 1
  | 0 => h
  | n + 1 => by
    have ih := cl_inv h n
    unfold clW
    by_cases e : i = n
    · rw [e, su_a]
      split
      · exact Or.inr rfl
      · exact Or.inl rfl
    · rw [su_b e]
      exact ih
theorem day_inv {z : SS} {nm nc nf : Nat} (h : DayInv z nm nc) : DayInv (dayF z nm nc nf) nm nc := by
  obtain ⟨h1, h2, h3⟩ := h
  have e0 : ∀ k, k ≠ 0 → su z 0 0 (z 0 0 + 1) k = z k := fun k hk => su_o hk
  unfold dayF
  refine ⟨fun i hi => ?_, fun i hi => ?_, fun i hi => ?_⟩
  · rw [clW_o (by decide), fdW_o (by decide), arF_o (by decide) (by decide) (by decide) (by decide)]
    exact ea_inv (by rw [e0 17 (by decide)]; exact h1 i hi) nm
  · rw [clW_o (by decide)]
    exact fd_inv (by rw [arF_o (by decide) (by decide) (by decide) (by decide), eaW_o (by decide) (by decide), e0 11 (by decide)]; exact h2 i hi) 40
  · exact cl_inv (by rw [fdW_o (by decide), arF_o (by decide) (by decide) (by decide) (by decide), eaW_o (by decide) (by decide), e0 25 (by decide)]; exact h3 i hi) nc
theorem DayInv.sim {s t : SS} {nm nc : Nat} (hS : Sim s t) (h : DayInv t nm nc) : DayInv s nm nc := by
  obtain ⟨h1, h2, h3⟩ := h
  refine ⟨fun i hi => ?_, fun i hi => ?_, fun i hi => ?_⟩
  · rw [hS 17 rfl]; exact h1 i hi
  · rw [hS 11 rfl]; exact h2 i hi
  · rw [hS 25 rfl]; exact h3 i hi
/-- days pass alike on both sides -/
theorem days_sim {s t : SS} {nm nc nf : Nat} (hS : Sim s t) (hp : (slL s 20).Perm (frL t nf)) (h : DayInv t nm nc) : ∀ n, Sim (psC s nm nc n) (psS t nm nc nf n).1 ∧ (slL (psC s nm nc n) 20).Perm (frL (psS t nm nc nf n).1 (psS t nm nc nf n).2) ∧ DayInv (psS t nm nc nf n).1 nm nc
  | 0 => ⟨hS, hp, h⟩
  | n + 1 => by
    obtain ⟨h1, h2, h3⟩ := days_sim hS hp h n
    obtain ⟨i1, i2, i3⟩ := DayInv.sim h1 h3
    obtain ⟨g1, g2⟩ := day_sim h1 h2 i1 i2 i3
    exact ⟨g1, g2, day_inv h3⟩
