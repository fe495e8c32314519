section WS
variable {g : Nat → Nat} {a : AD} {s s' t s0 : SS} {L : List (Nat × Nat)}
theorem lm {N : Nat} {f f' : Nat → Value} (h : ∀ i, i < N → f i = f' i) : (List.range N).map f = (List.range N).map f' :=
  List.map_congr_left fun i hi => h i (List.mem_range.mp hi)
/-- the numbers of the state that a kind shows -/
def dep (k : Nat) : List Nat := match k with
  | 2 => [0, 1, 2, 3, 4, 7] | 3 => [6, 8] | 4 => [5] | 6 => [55, 12, 21, 33] | 7 => [12, 21, 33] | 8 => [9, 10, 50, 51, 11] | 9 => [13, 14, 15, 16, 17, 18, 19] | 10 => [20] | 11 => [52]
  | 12 => [23, 24, 27, 22, 26, 25, 53, 32, 31, 54, 28] | 13 => [34, 35] | 14 => [60] | _ => []
theorem lI_in (i : Nat) : lI i ∈ [12, 21, 33] := by
  unfold lI
  split <;> decide
theorem gI_in (i : Nat) : gI i ∈ dep 8 := by
  unfold gI
  split <;> decide
theorem kI_in (j : Nat) : kI j ∈ dep 12 := by
  unfold kI
  split <;> decide
theorem cF_d (h : ∀ z, z ∈ dep 2 → s' z = s z) (j : Nat) (hj : j < 12) : cF a s' j = cF a s j := by
  rcases (show j = 0 ∨ j = 1 ∨ j = 2 ∨ j = 3 ∨ j = 4 ∨ j = 5 ∨ j = 6 ∨ j = 7 ∨ j = 8 ∨ j = 9 ∨ j = 10 ∨ j = 11 by omega) with rfl | rfl | rfl | rfl | rfl | rfl | rfl | rfl | rfl | rfl | rfl | rfl
  · rfl
  · rfl
  · rfl
  · rfl
  · rfl
  · rfl
  · show Value.int (s' 0 0) = .int (s 0 0); rw [h 0 (by decide)]
  · show Value.int (s' 1 0) = .int (s 1 0); rw [h 1 (by decide)]
  · show Value.int (s' 2 0) = .int (s 2 0); rw [h 2 (by decide)]
  · show Value.int (s' 3 0) = .int (s 3 0); rw [h 3 (by decide)]
  · show Value.int (s' 4 0) = .int (s 4 0); rw [h 4 (by decide)]
  · show Value.int (s' 7 0) = .int (s 7 0); rw [h 7 (by decide)]
theorem nF_i (i : Nat) (h : ∀ z, s' z i = s z i) (j : Nat) : nF a s' i j = nF a s i j := by
  unfold nF
  split
  · rfl
  · rfl
  · rw [h]
theorem nF_d (h : ∀ z, z ∈ dep 9 → s' z = s z) (i j : Nat) (hj : j < 9) : nF a s' i j = nF a s i j := by
  unfold nF
  split
  · rfl
  · rfl
  · rw [h (11 + j) (by
      have h0 : ¬ j = 0 := by assumption
      have h1 : ¬ j = 1 := by assumption
      rcases (show j = 2 ∨ j = 3 ∨ j = 4 ∨ j = 5 ∨ j = 6 ∨ j = 7 ∨ j = 8 by omega) with rfl | rfl | rfl | rfl | rfl | rfl | rfl <;> decide)]
theorem E_e0 (i : Nat) : E g a s t 0 i = .inr (0, []) := rfl
theorem E_e1 (i : Nat) : E g a s t 1 i = .inl (g 0, mN i, .inl (t i)) := rfl
theorem E_e5 (i : Nat) : E g a s t 5 i = .inr (5, [.ref (a 8 4)]) := rfl
theorem E_d0 (i : Nat) : E g a s' t 0 i = E g a s t 0 i := (E_e0 i).trans (E_e0 i).symm
theorem E_d1 (i : Nat) : E g a s' t 1 i = E g a s t 1 i := (E_e1 i).trans (E_e1 i).symm
theorem E_d2 (i : Nat) (h : ∀ z, z ∈ dep 2 → s' z = s z) : E g a s' t 2 i = E g a s t 2 i := congrArg (fun l => Sum.inr (7, l)) (lm fun j hj => cF_d h j hj)
theorem E_d3 (i : Nat) (h : ∀ z, z ∈ dep 3 → s' z = s z) : E g a s' t 3 i = E g a s t 3 i := by
  show (Sum.inr (2, [_, _, .int (s' 6 0), .int (s' 8 0)]) : va_E) = _
  rw [h 6 (by decide), h 8 (by decide)]
  rfl
theorem E_d4 (i : Nat) (h : ∀ z, z ∈ dep 4 → s' z = s z) : E g a s' t 4 i = E g a s t 4 i := by
  show (Sum.inr (6, [_, _, .int (s' 5 0)]) : va_E) = _
  rw [h 5 (by decide)]
  rfl
theorem E_d5 (i : Nat) : E g a s' t 5 i = E g a s t 5 i := (E_e5 i).trans (E_e5 i).symm
theorem E_d6 (i : Nat) (h : ∀ z, z ∈ dep 6 → s' z = s z) : E g a s' t 6 i = E g a s t 6 i := by
  show (Sum.inr (0, [.int (s' 55 i), _, .int (s' (lI i) 0)]) : va_E) = _
  rw [h 55 (by decide), h (lI i) (List.mem_cons_of_mem _ (lI_in i))]
  rfl
theorem E_d7 (i : Nat) (h : ∀ z, z ∈ dep 7 → s' z = s z) : E g a s' t 7 i = E g a s t 7 i := by
  show (Sum.inl (g 2, a 15 i, Sum.inr (.inr (.inr (.inr (fun j => if j < tn (s' (lI i) 0) then some (a (eI i) j) else none))))) : va_E) = _
  rw [h (lI i) (lI_in i)]
  rfl
theorem E_d8 (i : Nat) (h : ∀ z, z ∈ dep 8 → s' z = s z) : E g a s' t 8 i = E g a s t 8 i := by
  show (Sum.inl (g 0, gN i, Sum.inl (s' (gI i))) : va_E) = _
  rw [h (gI i) (gI_in i)]
  rfl
theorem E_d9 (i : Nat) (h : ∀ z, z ∈ dep 9 → s' z = s z) : E g a s' t 9 i = E g a s t 9 i := congrArg (fun l => Sum.inr (3, l)) (lm fun j hj => nF_d h i j hj)
theorem E_d10 (i : Nat) (h : ∀ z, z ∈ dep 10 → s' z = s z) : E g a s' t 10 i = E g a s t 10 i := by
  show (Sum.inl (g 0, 12, Sum.inl (rw_ 12 (s' 20) i)) : va_E) = _
  rw [h 20 (by decide)]
  rfl
theorem E_d11 (i : Nat) (h : ∀ z, z ∈ dep 11 → s' z = s z) : E g a s' t 11 i = E g a s t 11 i := by
  show (Sum.inl (g 0, 40, Sum.inl (rw_ 40 (s' 52) i)) : va_E) = _
  rw [h 52 (by decide)]
  rfl
theorem E_d12 (i : Nat) (h : ∀ z, z ∈ dep 12 → s' z = s z) : E g a s' t 12 i = E g a s t 12 i := congrArg (fun l => Sum.inr (1, l)) (lm fun j _ => by rw [h (kI j) (kI_in j)])
theorem E_d13 (i : Nat) (h : ∀ z, z ∈ dep 13 → s' z = s z) : E g a s' t 13 i = E g a s t 13 i := by
  show (Sum.inr (4, [.int (s' 34 i), .int (s' 35 i)]) : va_E) = _
  rw [h 34 (by decide), h 35 (by decide)]
  rfl
theorem E_d14 (i : Nat) (h : ∀ z, z ∈ dep 14 → s' z = s z) : E g a s' t 14 i = E g a s t 14 i := by
  show (Sum.inl (g 3, 1, Sum.inr (.inl (fun j => if j = 0 then (s' 60 0).toInt64 else 0))) : va_E) = _
  rw [h 60 (by decide)]
  rfl
theorem E_d (k i : Nat) (hk : k < 15) (h : ∀ z, z ∈ dep k → s' z = s z) : E g a s' t k i = E g a s t k i := by
  rcases (show k = 0 ∨ k = 1 ∨ k = 2 ∨ k = 3 ∨ k = 4 ∨ k = 5 ∨ k = 6 ∨ k = 7 ∨ k = 8 ∨ k = 9 ∨ k = 10 ∨ k = 11 ∨ k = 12 ∨ k = 13 ∨ k = 14 by omega) with rfl | rfl | rfl | rfl | rfl | rfl | rfl | rfl | rfl | rfl | rfl | rfl | rfl | rfl | rfl
  · exact E_d0 i
  · exact E_d1 i
  · exact E_d2 i h
  · exact E_d3 i h
  · exact E_d4 i h
  · exact E_d5 i
  · exact E_d6 i h
  · exact E_d7 i h
  · exact E_d8 i h
  · exact E_d9 i h
  · exact E_d10 i h
  · exact E_d11 i h
  · exact E_d12 i h
  · exact E_d13 i h
  · exact E_d14 i h
theorem put_s (hL : Live L s0) {K i0 : Nat} (id i : Nat) (v : Int32) {e0 e1 : va_E} (hm : Lv s0 K i0) (h0 : E g a s t K i0 = e0) (h1 : E g a (su s id i v) t K i0 = e1) (hd : ∀ k', k' < 15 → k' ≠ K → id ∉ dep k') (hs : ∀ i', Lv s0 K i' → i' ≠ i0 → E g a (su s id i v) t K i' = E g a s t K i') :
    ∃ q0 : Nat, (wl a (E g a s t) L)[q0]? = some (a K i0, e0) ∧ (wl a (E g a s t) L).set q0 (a K i0, e1) = wl a (E g a (su s id i v) t) L := by
  refine wl_put hL.1 (inL hL hm) h0 h1 (fun k' i' hm' hne => ?_)
  by_cases hk : k' = K
  · subst hk
    exact hs i' (ofL hL hm') (fun e => hne ⟨rfl, e⟩)
  · exact E_d k' i' (Lv.lt (ofL hL hm')) (fun z hz => su_o (fun e => hd k' (Lv.lt (ofL hL hm')) hk (e ▸ hz)))
theorem put_c (hL : Live L s0) (j : Nat) (h6 : 6 ≤ j) (hj : j < 12) (v : Int32) : ∃ q0 : Nat, (wl a (E g a s t) L)[q0]? = some (a 2 0, Sum.inr (7, (List.range 12).map (cF a s))) ∧ (wl a (E g a s t) L).set q0 (a 2 0, Sum.inr (7, ((List.range 12).map (cF a s)).set j (.int v))) = wl a (E g a (su s (cI j) 0 v) t) L := by
  refine put_s hL (K := 2) (cI j) 0 v rfl rfl ?_ ?_ (fun i' h1 h2 => absurd h1 h2)
  · show (Sum.inr (7, (List.range 12).map (cF a (su s (cI j) 0 v))) : va_E) = _
    rw [map_set (f' := cF a (su s (cI j) 0 v)) (by
      rcases (show j = 6 ∨ j = 7 ∨ j = 8 ∨ j = 9 ∨ j = 10 ∨ j = 11 by omega) with rfl | rfl | rfl | rfl | rfl | rfl <;> exact congrArg Value.int su_a) (fun i hi hne => by
      rcases (show i = 0 ∨ i = 1 ∨ i = 2 ∨ i = 3 ∨ i = 4 ∨ i = 5 ∨ 6 ≤ i by omega) with rfl | rfl | rfl | rfl | rfl | rfl | h
      · rfl
      · rfl
      · rfl
      · rfl
      · rfl
      · rfl
      · have e : ∀ s1 : SS, cF a s1 i = .int (s1 (cI i) 0) := fun s1 => by
          unfold cF
          split <;> first | omega | rfl
        rw [e, e, su_o (fun e9 => hne (by
          unfold cI at e9
          cases h1 : Nat.beq i 11 <;> cases h2 : Nat.beq j 11 <;> simp only [h1, h2, cond_true, cond_false] at e9
          · omega
          · have := Nat.eq_of_beq_eq_true h2; omega
          · have := Nat.eq_of_beq_eq_true h1; omega
          · have := Nat.eq_of_beq_eq_true h1; have := Nat.eq_of_beq_eq_true h2; omega))])]
  · rcases (show j = 6 ∨ j = 7 ∨ j = 8 ∨ j = 9 ∨ j = 10 ∨ j = 11 by omega) with rfl | rfl | rfl | rfl | rfl | rfl <;> decide
theorem put_sea (hL : Live L s0) (v : Int32) : ∃ q0 : Nat, (wl a (E g a s t) L)[q0]? = some (a 3 0, Sum.inr (2, [.ref (a 8 0), .ref (a 8 1), .int (s 6 0), .int (s 8 0)])) ∧ (wl a (E g a s t) L).set q0 (a 3 0, Sum.inr (2, [Value.ref (a 8 0), .ref (a 8 1), .int (s 6 0), .int (s 8 0)].set 2 (.int v))) = wl a (E g a (su s 6 0 v) t) L :=
  put_s hL (K := 3) 6 0 v rfl rfl rfl (by decide) (fun i' h1 h2 => absurd h1 h2)
theorem put_tou (hL : Live L s0) (v : Int32) : ∃ q0 : Nat, (wl a (E g a s t) L)[q0]? = some (a 3 0, Sum.inr (2, [.ref (a 8 0), .ref (a 8 1), .int (s 6 0), .int (s 8 0)])) ∧ (wl a (E g a s t) L).set q0 (a 3 0, Sum.inr (2, [Value.ref (a 8 0), .ref (a 8 1), .int (s 6 0), .int (s 8 0)].set 3 (.int v))) = wl a (E g a (su s 8 0 v) t) L :=
  put_s hL (K := 3) 8 0 v rfl rfl rfl (by decide) (fun i' h1 h2 => absurd h1 h2)
theorem put_sto (hL : Live L s0) (v : Int32) : ∃ q0 : Nat, (wl a (E g a s t) L)[q0]? = some (a 4 0, Sum.inr (6, [.ref (a 8 2), .ref (a 8 3), .int (s 5 0)])) ∧ (wl a (E g a s t) L).set q0 (a 4 0, Sum.inr (6, [Value.ref (a 8 2), .ref (a 8 3), .int (s 5 0)].set 2 (.int v))) = wl a (E g a (su s 5 0 v) t) L :=
  put_s hL (K := 4) 5 0 v rfl rfl rfl (by decide) (fun i' h1 h2 => absurd h1 h2)
theorem gI_inj (j i' : Nat) (hj : j < 5) (hi : i' < 5) (h : i' ≠ j) : gI i' ≠ gI j := by
  rcases (show j = 0 ∨ j = 1 ∨ j = 2 ∨ j = 3 ∨ j = 4 by omega) with rfl | rfl | rfl | rfl | rfl <;> rcases (show i' = 0 ∨ i' = 1 ∨ i' = 2 ∨ i' = 3 ∨ i' = 4 by omega) with rfl | rfl | rfl | rfl | rfl <;> first | exact absurd rfl h | decide
theorem put_g (hL : Live L s0) (j : Nat) (hj : j < 5) (i : Nat) (v : Int32) : ∃ q0 : Nat, (wl a (E g a s t) L)[q0]? = some (a 8 j, Sum.inl (g 0, gN j, Sum.inl (s (gI j)))) ∧ (wl a (E g a s t) L).set q0 (a 8 j, Sum.inl (g 0, gN j, Sum.inl (upd (s (gI j)) i v))) = wl a (E g a (su s (gI j) i v) t) L := by
  refine put_s hL (K := 8) (gI j) i v hj rfl ?_ ?_ (fun i' h1 h2 => ?_)
  · show (Sum.inl (g 0, gN j, Sum.inl (su s (gI j) i v (gI j))) : va_E) = _
    rw [su_s]
  · rcases (show j = 0 ∨ j = 1 ∨ j = 2 ∨ j = 3 ∨ j = 4 by omega) with rfl | rfl | rfl | rfl | rfl <;> decide
  · show (Sum.inl (g 0, gN i', Sum.inl (su s (gI j) i v (gI i'))) : va_E) = _
    rw [su_o (gI_inj j i' hj h1 h2)]
    rfl
theorem put_n (hL : Live L s0) (f : Nat) (h2 : 2 ≤ f) (hf : f < 9) (i : Nat) (hi : Lv s0 9 i) (v : Int32) : ∃ q0 : Nat, (wl a (E g a s t) L)[q0]? = some (a 9 i, Sum.inr (3, (List.range 9).map (nF a s i))) ∧ (wl a (E g a s t) L).set q0 (a 9 i, Sum.inr (3, ((List.range 9).map (nF a s i)).set f (.int v))) = wl a (E g a (su s (11 + f) i v) t) L := by
  refine put_s hL (K := 9) (11 + f) i v hi rfl ?_ ?_ (fun i' h1 h2 => ?_)
  · show (Sum.inr (3, (List.range 9).map (nF a (su s (11 + f) i v) i)) : va_E) = _
    rw [map_set (f' := nF a (su s (11 + f) i v) i) (by
      rcases (show f = 2 ∨ f = 3 ∨ f = 4 ∨ f = 5 ∨ f = 6 ∨ f = 7 ∨ f = 8 by omega) with rfl | rfl | rfl | rfl | rfl | rfl | rfl <;> exact congrArg Value.int su_a) (fun j hj hne => by
      unfold nF
      split
      · rfl
      · rfl
      · rw [su_o (fun e => hne (by omega))])]
  · rcases (show f = 2 ∨ f = 3 ∨ f = 4 ∨ f = 5 ∨ f = 6 ∨ f = 7 ∨ f = 8 by omega) with rfl | rfl | rfl | rfl | rfl | rfl | rfl <;> decide
  · refine congrArg (fun l => Sum.inr (3, l)) (lm fun j _ => nF_i i' (fun z => ?_) j)
    by_cases hz : z = 11 + f
    · subst hz; exact su_b h2
    · rw [su_o hz]
theorem kI_inj : ∀ f : Nat, f < 11 → ∀ j : Nat, j < 11 → j ≠ f → kI j ≠ kI f := by decide
theorem put_k (hL : Live L s0) (f : Nat) (hf : f < 11) (i : Nat) (hi : Lv s0 12 i) (v : Int32) : ∃ q0 : Nat, (wl a (E g a s t) L)[q0]? = some (a 12 i, Sum.inr (1, (List.range 11).map (fun j => Value.int (s (kI j) i)))) ∧ (wl a (E g a s t) L).set q0 (a 12 i, Sum.inr (1, ((List.range 11).map (fun j => Value.int (s (kI j) i))).set f (.int v))) = wl a (E g a (su s (kI f) i v) t) L := by
  refine put_s hL (K := 12) (kI f) i v hi rfl ?_ ?_ (fun i' h1 h2 => ?_)
  · show (Sum.inr (1, (List.range 11).map (fun j => Value.int (su s (kI f) i v (kI j) i))) : va_E) = _
    rw [map_set (f' := fun j => Value.int (su s (kI f) i v (kI j) i)) (by exact congrArg Value.int su_a) (fun j hj hne => by rw [su_o (kI_inj f hf j hj hne)])]
  · rcases (show f = 0 ∨ f = 1 ∨ f = 2 ∨ f = 3 ∨ f = 4 ∨ f = 5 ∨ f = 6 ∨ f = 7 ∨ f = 8 ∨ f = 9 ∨ f = 10 by omega) with rfl | rfl | rfl | rfl | rfl | rfl | rfl | rfl | rfl | rfl | rfl <;> decide
  · refine congrArg (fun l => Sum.inr (1, l)) (lm fun j _ => ?_)
    by_cases hz : kI j = kI f
    · rw [hz, su_b h2]
    · rw [su_o hz]
theorem rw_up {w : Nat} {f : Nat → Int32} {i b : Nat} (hb : b < w) (v : Int32) : rw_ w (upd f (w * i + b) v) i = upd (rw_ w f i) b v := by
  funext z
  unfold rw_ upd
  by_cases hz : z = b
  · subst hz; simp [hb]
  · by_cases h : z < w
    · have : ¬ w * i + z = w * i + b := by omega
      simp [h, hz, this]
    · simp [h, hz]
theorem rw_ne {w : Nat} {f : Nat → Int32} {i i' b : Nat} (hb : b < w) (h : i' ≠ i) (v : Int32) : rw_ w (upd f (w * i + b) v) i' = rw_ w f i' := by
  funext z
  unfold rw_ upd
  by_cases hz : z < w
  · rw [if_pos hz, if_pos hz, if_neg]
    intro e
    rcases Nat.lt_or_gt_of_ne h with h | h
    · have := Nat.mul_le_mul_left w (show i' + 1 ≤ i from h)
      rw [Nat.mul_add, Nat.mul_one] at this
      omega
    · have := Nat.mul_le_mul_left w (show i + 1 ≤ i' from h)
      rw [Nat.mul_add, Nat.mul_one] at this
      omega
  · rw [if_neg hz, if_neg hz]
theorem put_p (hL : Live L s0) (i : Nat) (hi : Lv s0 10 i) (b : Nat) (hb : b < 12) (v : Int32) : ∃ q0 : Nat, (wl a (E g a s t) L)[q0]? = some (a 10 i, Sum.inl (g 0, 12, Sum.inl (rw_ 12 (s 20) i))) ∧ (wl a (E g a s t) L).set q0 (a 10 i, Sum.inl (g 0, 12, Sum.inl (upd (rw_ 12 (s 20) i) b v))) = wl a (E g a (su s 20 (12 * i + b) v) t) L := by
  refine put_s hL (K := 10) 20 (12 * i + b) v hi rfl ?_ (by decide) (fun i' h1 h2 => ?_)
  · show (Sum.inl (g 0, 12, Sum.inl (rw_ 12 (su s 20 (12 * i + b) v 20) i)) : va_E) = _
    rw [su_s, rw_up hb]
  · show (Sum.inl (g 0, 12, Sum.inl (rw_ 12 (su s 20 (12 * i + b) v 20) i')) : va_E) = _
    rw [su_s, rw_ne hb h2]
    rfl
theorem put_o (hL : Live L s0) (i : Nat) (hi : Lv s0 11 i) (b : Nat) (hb : b < 40) (v : Int32) : ∃ q0 : Nat, (wl a (E g a s t) L)[q0]? = some (a 11 i, Sum.inl (g 0, 40, Sum.inl (rw_ 40 (s 52) i))) ∧ (wl a (E g a s t) L).set q0 (a 11 i, Sum.inl (g 0, 40, Sum.inl (upd (rw_ 40 (s 52) i) b v))) = wl a (E g a (su s 52 (40 * i + b) v) t) L := by
  refine put_s hL (K := 11) 52 (40 * i + b) v hi rfl ?_ (by decide) (fun i' h1 h2 => ?_)
  · show (Sum.inl (g 0, 40, Sum.inl (rw_ 40 (su s 52 (40 * i + b) v 52) i)) : va_E) = _
    rw [su_s, rw_up hb]
  · show (Sum.inl (g 0, 40, Sum.inl (rw_ 40 (su s 52 (40 * i + b) v 52) i')) : va_E) = _
    rw [su_s, rw_ne hb h2]
    rfl
end WS
