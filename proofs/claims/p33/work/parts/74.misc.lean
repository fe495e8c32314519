/-! small things for the law's steps -/
theorem tt_add {a b c d : Nat} (h : d + c = a + b) : nI a + (nI b - nI c) = nI d := by
  have e : nI d + nI c = nI a + nI b := by rw [nI_add, nI_add, h]
  rw [Int32.sub_eq_add_neg, ← Int32.add_assoc, ← e, Int32.add_assoc, Int32.add_right_neg, Int32.add_zero]
theorem PR_m {x y : Nat} (h : x ≤ y) : PR y ≤ PR x := by
  unfold PR
  split <;> split <;> omega
theorem K9.gr {s t : SS} {nm nc nr k c m g T : Nat} (hT : K9 s t nm nc nr k) (h : tot (groundU s (nI c) (nI m) (nI g)) nm = T) : ∀ t1, t1 = su t 0 3 (nI T) → K9 (groundU s (nI c) (nI m) (nI g)) t1 nm nc nr (k + 1) := fun t1 ht1 => by
  subst ht1
  obtain ⟨⟨a, b', c1, d, e, p, hp, hp2⟩, t1, t2, t3, t4⟩ := hT
  have e00 : ∀ j, j ≠ 3 → su t 0 3 (nI T) 0 j = t 0 j := fun j hj => su_b hj
  refine ⟨⟨?_, ?_, ?_, ?_, ⟨?_, e.2⟩, p, ?_, by omega⟩, t1, t2, t3, t4⟩
  · rw [e00 0 (by decide)]; exact a
  · rw [e00 1 (by decide)]; exact b'
  · rw [e00 2 (by decide)]; exact c1
  · rw [su_a, h]
  · rw [e00 4 (by decide)]; exact e.1
  · rw [e00 5 (by decide)]; exact hp
theorem bI_iff {P Q : Prop} [Decidable P] [Decidable Q] (h : P ↔ Q) : bI P = bI Q := by
  unfold bI
  by_cases c : P
  · rw [if_pos c, if_pos (h.mp c)]
  · rw [if_neg c, if_neg (fun z => c (h.mpr z))]
theorem and3 {A B C D : Prop} (h : A ∧ B ∧ C) (d : D) : A ∧ B ∧ C ∧ D := ⟨h.1, h.2.1, h.2.2, d⟩
theorem LV_meet {s : SS} {nm q : Nat} {m d y n_ : Int32} : LV (meetU s nm m d y n_) q = LV s q := by
  unfold meetU
  split <;> rfl
