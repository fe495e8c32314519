theorem ul_5 {z : SS} {d : Int32} {i : Nat} (hi : i ≠ 0) : ∀ n, ulW z d n 5 i = z 5 i
  | 0 => rfl
  | n + 1 => by
    unfold ulW
    split
    · rw [su_o (by decide), su_b hi, ul_5 hi n]
    · exact ul_5 hi n
theorem ar_5 {z : SS} {i : Nat} (hi : i ≠ 0) : ∀ n, (arS z n).1 5 i = z 5 i
  | 0 => rfl
  | n + 1 => by
    unfold arS
    split
    · dsimp only
      rw [su_b hi, ar_5 hi n]
    · dsimp only
      rw [su_o (by decide), su_o (by decide), ar_5 hi n]
theorem shd_ne {k j : Nat} (h : shd k = true) (hj : shd j = false) : k ≠ j := fun e => by
  rw [e, hj] at h
  cases h
/-- a day passes alike on both sides -/
theorem day_sim {s t : SS} {nm nc nf : Nat} (hS : Sim s t) (hp : (slL s 20).Perm (frL t nf)) (hh : ∀ i, i < nm → ∃ h, s 17 i = nI h ∧ h ≤ 10) (hb : ∀ i, i < 40 → ∃ b, s 11 i = nI b ∧ b ≤ 100) (h01 : ∀ i, i < nc → s 25 i = 0 ∨ s 25 i = 1) :
    Sim (dayC s nm nc) (dayF t nm nc nf) ∧ (slL (dayC s nm nc) 20).Perm (frL (dayF t nm nc nf) (dayN t nm nf)) := by
  have h00 : s 0 0 = t 0 0 := congrFun (hS 0 rfl) 0
  have hS1 : Sim (su s 0 0 (s 0 0 + 1)) (su t 0 0 (t 0 0 + 1)) := by rw [h00]; exact hS.put 0 0 _
  unfold dayC dayF dayN
  generalize hs1 : su s 0 0 (s 0 0 + 1) = s1 at *
  generalize ht1 : su t 0 0 (t 0 0 + 1) = t1 at *
  have o1 : ∀ k, k ≠ 0 → s1 k = s k := fun k hk => by rw [← hs1, su_o hk]
  have o2 : ∀ k, k ≠ 0 → t1 k = t k := fun k hk => by rw [← ht1, su_o hk]
  have d1 : s1 0 0 = s 0 0 + 1 := by rw [← hs1]; exact su_a
  have d2 : t1 0 0 = s 0 0 + 1 := by rw [← ht1, h00]; exact su_a
  rw [(la_eq (z := s1) (n := nm) (fun i hi => by rw [o1 17 (by decide)]; exact hh i hi) nm (Nat.le_refl _)).1]
  have hE : ∀ k, shd k = true → eaW s1 nm k = eaW t1 nm k := fun k hk => by
    by_cases e15 : k = 15
    · rw [e15]; exact (ea_c (hS1 15 rfl).symm (hS1 17 rfl).symm nm).1.symm
    · by_cases e17 : k = 17
      · rw [e17]; exact (ea_c (hS1 15 rfl).symm (hS1 17 rfl).symm nm).2.symm
      · rw [eaW_o e15 e17, eaW_o e15 e17]; exact hS1 k hk
  generalize hA : eaW s1 nm = A at *
  generalize hB : eaW t1 nm = B at *
  have a0 : ∀ k, k ≠ 15 → k ≠ 17 → A k = s1 k := fun k h1 h2 => by rw [← hA]; exact eaW_o h1 h2 nm
  have b0 : ∀ k, k ≠ 15 → k ≠ 17 → B k = t1 k := fun k h1 h2 => by rw [← hB]; exact eaW_o h1 h2 nm
  have hd : B 0 0 = s 0 0 + 1 := by rw [b0 0 (by decide) (by decide)]; exact d2
  have hsl : slL A 20 = slL s 20 := slL_c (fun i hi => ⟨by rw [a0 50 (by decide) (by decide), o1 50 (by decide)], fun _ => by rw [a0 51 (by decide) (by decide), o1 51 (by decide)]⟩)
  have hfl : frL B nf = frL t nf := frL_c (fun i hi => ⟨by rw [b0 37 (by decide) (by decide), o2 37 (by decide)], by rw [b0 38 (by decide) (by decide), o2 38 (by decide)]⟩)
  obtain ⟨u1, -, u3⟩ := ul_all (z := A) (d := s 0 0 + 1) 20
  obtain ⟨r1, -, r3⟩ := ar_all (z := B) nf
  have hUW : ∀ k, shd k = true → ulW A (s 0 0 + 1) 20 k = arF B nf k := fun k hk => by
    by_cases e5 : k = 5
    · subst e5
      funext i
      have e36 : arF B nf 5 i = (arS B nf).1 5 i := by unfold arF; rw [su_o (by decide)]
      rw [e36]
      by_cases hi : i = 0
      · rw [hi, u1, r1, hd, hsl, hfl, congrFun (hE 5 rfl) 0]
        exact arrS_perm hp _
      · rw [ul_5 hi, ar_5 hi, hE 5 rfl]
    · rw [ulW_o e5 (shd_ne hk rfl), arF_o e5 (shd_ne hk rfl) (shd_ne hk rfl) (shd_ne hk rfl)]
      exact hE k hk
  generalize hU : ulW A (s 0 0 + 1) 20 = U at *
  have u0 : ∀ k, k ≠ 5 → k ≠ 50 → U k = A k := fun k h1 h2 => by rw [← hU]; exact ulW_o h1 h2 20
  have w0 : ∀ k, k ≠ 5 → k ≠ 36 → k ≠ 37 → k ≠ 38 → arF B nf k = B k := fun k h1 h2 h3 h4 => arF_o h1 h2 h3 h4
  rw [(fd_eq (z := U) (n := 40) (fun i hi => by rw [u0 11 (by decide) (by decide), a0 11 (by decide) (by decide), o1 11 (by decide)]; exact hb i hi) 40 (Nat.le_refl _)).1]
  have hF : ∀ k, shd k = true → fdW U 40 k = fdW (arF B nf) 40 k := fun k hk => by
    by_cases e : k = 11
    · rw [e]; exact fd_c (hUW 11 rfl) 40
    · rw [fdW_o e, fdW_o e]; exact hUW k hk
  rw [(lp_eq (z := fdW U 40) (n := nc) (fun i hi => by rw [fdW_o (by decide), u0 25 (by decide) (by decide), a0 25 (by decide) (by decide), o1 25 (by decide)]; exact h01 i hi) nc (Nat.le_refl _)).1]
  refine ⟨fun k hk => ?_, ?_⟩
  · by_cases e : k = 25
    · rw [e]; exact cl_c (hF 25 rfl) (hF 17 rfl) (hF 22 rfl) (hF 0 rfl) (hF 26 rfl) (hF 27 rfl) nc
    · rw [clW_o e, clW_o e]; exact hF k hk
  · have e1 : slL (clW (fdW U 40) nc) 20 = slL U 20 := slL_c (fun i hi => ⟨by rw [clW_o (by decide), fdW_o (by decide)], fun _ => by rw [clW_o (by decide), fdW_o (by decide)]⟩)
    have e2 : frL (clW (fdW (arF B nf) 40) nc) (arS B nf).2 = frL (arS B nf).1 (arS B nf).2 := frL_c (fun i hi => ⟨by rw [clW_o (by decide), fdW_o (by decide)]; unfold arF; rw [su_o (by decide)], by rw [clW_o (by decide), fdW_o (by decide)]; unfold arF; rw [su_o (by decide)]⟩)
    rw [e1, e2, r3, hd, hfl, u3, hsl]
    exact hp.filter _
