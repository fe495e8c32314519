theorem eatF_15 {z : SS} {j : Nat} : eatF z j 15 = if 0 < z 15 j then upd (z 15) j (z 15 j - 1) else z 15 := by
  unfold eatF
  split
  · rw [su_o (by decide), su_s]
  · rw [su_o (by decide)]
theorem eatF_17 {z : SS} {j : Nat} : eatF z j 17 = upd (z 17) j (if 0 < z 15 j then minF (z 17 j + 1) 10 else if z 17 j < 2 then 0 else z 17 j - 2) := by
  unfold eatF
  by_cases h : 0 < z 15 j
  · rw [if_pos h, if_pos h, su_s, su_o (by decide)]
  · rw [if_neg h, if_neg h, su_s]
theorem ea_c {z z' : SS} (h15 : z' 15 = z 15) (h17 : z' 17 = z 17) : ∀ n, eaW z' n 15 = eaW z n 15 ∧ eaW z' n 17 = eaW z n 17
  | 0 => ⟨h15, h17⟩
  | n + 1 => by
    obtain ⟨e15, e17⟩ := ea_c h15 h17 n
    unfold eaW
    rw [e17]
    by_cases h : eaW z n 17 n = 0
    · rw [if_pos h, if_pos h]
      exact ⟨e15, e17⟩
    · rw [if_neg h, if_neg h, eatF_15, eatF_15, eatF_17, eatF_17, e15, e17]
      exact ⟨rfl, rfl⟩
theorem fd_c {z z' : SS} (h11 : z' 11 = z 11) : ∀ n, fdW z' n 11 = fdW z n 11
  | 0 => h11
  | n + 1 => by
    unfold fdW
    rw [su_s, su_s, fd_c h11 n]
theorem cl_c {z z' : SS} (h25 : z' 25 = z 25) (h17 : z' 17 = z 17) (h22 : z' 22 = z 22) (h0 : z' 0 = z 0) (h26 : z' 26 = z 26) (h27 : z' 27 = z 27) : ∀ n, clW z' n 25 = clW z n 25
  | 0 => h25
  | n + 1 => by
    unfold clW
    rw [su_s, su_s, cl_c h25 h17 h22 h0 h26 h27 n, clW_o (k := 17) (z := z) (by decide), clW_o (k := 17) (z := z') (by decide), h17, h22, h0, h26, h27]
/-- what the two sides hold alike -/
def shd (k : Nat) : Bool := Nat.ble k 28 || (Nat.ble 31 k && Nat.ble k 35)
def Sim (s t : SS) : Prop := ∀ k, shd k = true → s k = t k
theorem Sim.put {s t : SS} (h : Sim s t) (k i : Nat) (v : Int32) : Sim (su s k i v) (su t k i v) := by
  intro q hq
  by_cases e : q = k
  · subst e
    rw [su_s, su_s, h q hq]
  · rw [su_o e, su_o e, h q hq]
theorem Sim.left {s t : SS} (h : Sim s t) {k i : Nat} {v : Int32} (hk : shd k = false) : Sim (su s k i v) t := by
  intro q hq
  by_cases e : q = k
  · rw [e, hk] at hq
    cases hq
  · rw [su_o e, h q hq]
theorem Sim.right {s t : SS} (h : Sim s t) {k i : Nat} {v : Int32} (hk : shd k = false) : Sim s (su t k i v) := by
  intro q hq
  by_cases e : q = k
  · rw [e, hk] at hq
    cases hq
  · rw [su_o e, h q hq]
