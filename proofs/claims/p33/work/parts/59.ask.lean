/-! what is asked, as numbers -/
section AK
variable {s : SS} {nm nc nr k : Nat}
def PR (x : Nat) : Nat := if x < 100 then 5 + (100 - x) / 5 else 5
theorem PR_b (x : Nat) : 5 ≤ PR x ∧ PR x ≤ 25 := by
  unfold PR
  split <;> omega
theorem price_n {x : Int32} (hx : Nn x) : priceF x = nI (PR (tn x)) := by
  unfold priceF PR
  have h : x < 100 ↔ tn x < 100 := hx.ltc (n := 100) (by omega)
  by_cases c : tn x < 100
  · rw [if_pos (h.mpr c), if_pos c]
    have e : (100 : Int32) - x = nI (100 - tn x) := by
      rw [← pk_sub (show tn x ≤ 100 by omega), ← hx.e]
      rfl
    rw [e, show (5 : Int32) = nI 5 from rfl, pk_div (by omega) (by omega) (by omega), nI_add]
  · rw [if_neg (fun z => c (h.mp z)), if_neg c]
    rfl
def LV (s : SS) (n : Nat) : Nat := SN (fun i => if s 17 i = 0 then 0 else 1) n
theorem Nn_01 {P : Prop} [Decidable P] : Nn (if P then (0 : Int32) else 1) := by
  split
  · exact Nn.z
  · unfold Nn; decide
theorem tn_01 {P : Prop} [Decidable P] : tn (if P then (0 : Int32) else 1) = if P then 0 else 1 := by
  split
  · exact tn_0
  · decide
theorem liv_n (n : Nat) : livN s n = nI (LV s n) := sum_SN n (fun _ _ => Nn_01)
theorem LV_s (n : Nat) : LV s (n + 1) = LV s n + if s 17 n = 0 then 0 else 1 := by
  show SN _ n + tn _ = _
  rw [tn_01]
  rfl
theorem LV_b : ∀ n, LV s n ≤ n
  | 0 => Nat.le_refl _
  | n + 1 => by
    have := LV_b n
    rw [LV_s]
    split <;> omega
theorem min_n {x y : Int32} (hx : Nn x) (hy : Nn y) : Nn (minF x y) ∧ tn (minF x y) = min (tn x) (tn y) := by
  unfold minF
  by_cases c : x < y
  · rw [if_pos c]
    have := (hx.lt hy).mp c
    exact ⟨hx, by omega⟩
  · rw [if_neg c]
    have : ¬ tn x < tn y := fun z => c ((hx.lt hy).mpr z)
    exact ⟨hy, by omega⟩
/-- water -/
theorem gv_n (h0 : K0 s nm nc nr) (h8 : K8 s nm nr) : ∀ i, i ≤ nr → (Nn (lfW s i) ∧ tn (lfW s i) ≤ tn (s 1 0)) ∧ (∀ j, j < i → Nn (gvW s (j + 1)) ∧ tn (gvW s (j + 1)) ≤ tn (s 35 j) ∧ (s 17 (tn (s 34 j)) = 0 → gvW s (j + 1) = 0)) ∧ SN (fun j => gvW s (j + 1)) i + tn (lfW s i) = tn (s 1 0)
  | 0, _ => ⟨⟨h0.2.2.1.1, Nat.le_refl _⟩, fun j hj => absurd hj (Nat.not_lt_zero j), by show 0 + tn (s 1 0) = _; omega⟩
  | i + 1, hi => by
    obtain ⟨⟨a, b⟩, c, d⟩ := gv_n h0 h8 i (by omega)
    obtain ⟨-, e, e1, e2⟩ := h8 i (by omega)
    have g : Nn (gvW s (i + 1)) ∧ tn (gvW s (i + 1)) ≤ tn (s 35 i) ∧ tn (gvW s (i + 1)) ≤ tn (lfW s i) ∧ (s 17 (tn (s 34 i)) = 0 → gvW s (i + 1) = 0) := by
      have eg : gvW s (i + 1) = if s 17 (tn (s 34 i)) = 0 then 0 else minF (s 35 i) (lfW s i) := rfl
      rw [eg]
      by_cases q : s 17 (tn (s 34 i)) = 0
      · rw [if_pos q]
        exact ⟨Nn.z, by rw [tn_0]; omega, by rw [tn_0]; omega, fun _ => rfl⟩
      · rw [if_neg q]
        have := min_n e a
        exact ⟨this.1, by omega, by omega, fun z => absurd z q⟩
    have hl : lfW s (i + 1) = lfW s i - gvW s (i + 1) := rfl
    have hs := a.sub g.1 g.2.2.1
    rw [← hl] at hs
    refine ⟨⟨hs.1, by omega⟩, fun j hj => ?_, ?_⟩
    · by_cases q : j = i
      · subst q; exact ⟨g.1, g.2.1, g.2.2.2⟩
      · exact c j (by omega)
    · show SN (fun j => gvW s (j + 1)) i + tn (gvW s (i + 1)) + tn (lfW s (i + 1)) = _
      omega
def IW (s : SS) (nr i : Nat) : Nat := SN (fun j => if s 34 j = nI i then gvW s (j + 1) else 0) nr
theorem iw_n (h0 : K0 s nm nc nr) (h8 : K8 s nm nr) (i : Nat) : inW s (nI i) nr = nI (IW s nr i) := by
  refine sum_SN nr (fun j hj => ?_)
  show Nn (if s 34 j = nI i then gvW s (j + 1) else 0)
  split
  · exact ((gv_n h0 h8 nr (Nat.le_refl _)).2.1 j hj).1
  · exact Nn.z
theorem iw_le (s : SS) (i : Nat) : ∀ n, SN (fun j => if s 34 j = nI i then gvW s (j + 1) else 0) n ≤ SN (fun j => gvW s (j + 1)) n
  | 0 => Nat.le_refl _
  | n + 1 => by
    have := iw_le s i n
    show _ + tn (if s 34 n = nI i then gvW s (n + 1) else 0) ≤ _ + tn (gvW s (n + 1))
    split
    · omega
    · rw [tn_0]; omega
theorem IW_b (h0 : K0 s nm nc nr) (h8 : K8 s nm nr) (i : Nat) : IW s nr i ≤ 1000 := by
  have h1 := iw_le s i nr
  have h2 := (gv_n h0 h8 nr (Nat.le_refl _)).2.2
  have h3 := h0.2.2.1.2
  unfold IW
  omega
theorem IW_d (h0 : K0 s nm nc nr) (h8 : K8 s nm nr) {i : Nat} (hi : i < nm) (hd : s 17 i = 0) : IW s nr i = 0 := by
  have key : ∀ n, n ≤ nr → SN (fun j => if s 34 j = nI i then gvW s (j + 1) else 0) n = 0 := by
    intro n
    induction n with
    | zero => exact fun _ => rfl
    | succ n ih =>
      intro hn
      show SN _ n + tn (if s 34 n = nI i then gvW s (n + 1) else 0) = 0
      rw [ih (by omega)]
      by_cases q : s 34 n = nI i
      · rw [if_pos q, ((gv_n h0 h8 nr (Nat.le_refl _)).2.1 n (by omega)).2.2 (by rw [q, tn_nI (by have := h0.1; omega)]; exact hd), tn_0]
      · rw [if_neg q, tn_0]
  exact key nr (Nat.le_refl _)
/-- all inches, by miners -/
def SW (s : SS) (nr : Nat) : Nat → Nat
  | 0 => 0
  | n + 1 => SW s nr n + IW s nr n
theorem SW_s (h8 : K8 s nm nr) (h12 : nm ≤ 12) : ∀ m, m ≤ nr → ∀ n, n ≤ nm → SW s m n = SN (fun j => if tn (s 34 j) < n then gvW s (j + 1) else 0) m
  | 0, _, n, _ => by
    show SW s 0 n = 0
    induction n with
    | zero => rfl
    | succ n ih => show SW s 0 n + 0 = 0; rw [ih (by omega)]
  | m + 1, hm, n, hn => by
    obtain ⟨⟨a, b⟩, -⟩ := h8 m (by omega)
    have key : ∀ n, n ≤ nm → SW s (m + 1) n = SW s m n + tn (if tn (s 34 m) < n then gvW s (m + 1) else 0) := by
      intro n
      induction n with
      | zero => intro _; show 0 = 0 + tn _; rw [if_neg (by omega), tn_0]
      | succ n ih =>
        intro hn
        have e : IW s (m + 1) n = IW s m n + tn (if s 34 m = nI n then gvW s (m + 1) else 0) := rfl
        show SW s (m + 1) n + IW s (m + 1) n = SW s m n + IW s m n + _
        rw [ih (by omega), e]
        have q := a.eqc (n := n) (by omega)
        by_cases c : tn (s 34 m) = n
        · rw [if_pos (q.mpr c), if_neg (by omega), if_pos (by omega), tn_0]; omega
        · rw [if_neg (fun z => c (q.mp z))]
          by_cases c2 : tn (s 34 m) < n
          · rw [if_pos c2, if_pos (by omega), tn_0]; omega
          · rw [if_neg c2, if_neg (by omega), tn_0]; omega
    rw [key n hn, SW_s h8 h12 m (by omega) n hn]
    rfl
theorem SW_all (h8 : K8 s nm nr) (h12 : nm ≤ 12) : SW s nr nm = SN (fun j => gvW s (j + 1)) nr := by
  rw [SW_s h8 h12 nr (Nat.le_refl _) nm (Nat.le_refl _)]
  exact SN_c nr (fun j hj => if_pos (h8 j hj).1.2)
theorem SW_m {s : SS} {nr : Nat} {n m : Nat} (h : n ≤ m) : SW s nr n ≤ SW s nr m := by
  obtain ⟨d, rfl⟩ : ∃ d, m = n + d := ⟨m - n, by omega⟩
  induction d with
  | zero => exact Nat.le_refl _
  | succ d ih =>
    have h1 := ih (by omega)
    have e : SW s nr (n + (d + 1)) = SW s nr (n + d) + IW s nr (n + d) := rfl
    omega
theorem SW_b (h0 : K0 s nm nc nr) (h8 : K8 s nm nr) {n : Nat} (hn : n ≤ nm) : SW s nr n ≤ 1000 := by
  have h1 := SW_m (s := s) (nr := nr) hn
  have h2 := (gv_n h0 h8 nr (Nat.le_refl _)).2.2
  have h3 := h0.2.2.1.2
  rw [SW_all h8 h0.1.1] at h1
  omega
theorem SN_m {f : Nat → Int32} {n m : Nat} (h : n ≤ m) : SN f n ≤ SN f m := by
  obtain ⟨d, rfl⟩ : ∃ d, m = n + d := ⟨m - n, by omega⟩
  induction d with
  | zero => exact Nat.le_refl _
  | succ d ih =>
    have h1 := ih (by omega)
    have e : SN f (n + (d + 1)) = SN f (n + d) + tn (f (n + d)) := rfl
    omega
/-- who holds a cell -/
theorem cov_i {c i : Nat} (hc : c < 40) (h : Nn (s 23 i) ∧ Nn (s 24 i) ∧ 1 ≤ tn (s 24 i) ∧ tn (s 24 i) ≤ 10 ∧ tn (s 23 i) + tn (s 24 i) ≤ 40) : (¬ s 25 i = 0 ∧ (s 23 i ≤ nI c ∧ nI c < s 23 i + s 24 i)) ↔ cov s i c := by
  obtain ⟨a, b, d, e, f⟩ := h
  have g := a.add b (by omega)
  rw [a.lec (by omega), g.1.clt (by omega), g.2]
  exact Iff.rfl
theorem held_p {c : Nat} (hc : c < 40) (h30 : nc ≤ 30) (h6 : K6 s nm nc) : ∀ n, n ≤ nc → (heldC s (nI c) n = -1 ∧ ∀ i, i < n → ¬ cov s i c) ∨ ∃ i, i < n ∧ heldC s (nI c) n = nI i ∧ cov s i c
  | 0, _ => Or.inl ⟨rfl, fun i hi => absurd hi (Nat.not_lt_zero i)⟩
  | n + 1, hn => by
    have hv := cov_i (s := s) (c := c) hc (h6.1 n (by omega)).2.1
    rcases held_p hc h30 h6 n (by omega) with ⟨h1, h2⟩ | ⟨i, h1, h2, h3⟩
    · unfold heldC
      rw [if_pos h1]
      by_cases q : cov s n c
      · rw [if_pos (hv.mpr q)]
        exact Or.inr ⟨n, by omega, rfl, q⟩
      · rw [if_neg (fun z => q (hv.mp z))]
        refine Or.inl ⟨rfl, fun i hi => ?_⟩
        by_cases e : i = n
        · subst e; exact q
        · exact h2 i (by omega)
    · unfold heldC
      rw [if_neg (by rw [h2]; exact nI_m1 (by omega))]
      exact Or.inr ⟨i, by omega, h2, h3⟩
theorem held_c {c : Nat} (hc : c < 40) (h30 : nc ≤ 30) (h6 : K6 s nm nc) : (heldC s (nI c) nc = -1 ∧ ∀ i, i < nc → ¬ cov s i c) ∨ ∃ i, i < nc ∧ heldC s (nI c) nc = nI i ∧ cov s i c := held_p hc h30 h6 nc (Nat.le_refl _)
theorem held_is {c i : Nat} (hc : c < 40) (h30 : nc ≤ 30) (h6 : K6 s nm nc) (hi : i < nc) (hv : cov s i c) : heldC s (nI c) nc = nI i := by
  rcases held_c hc h30 h6 with ⟨-, h2⟩ | ⟨j, h1, h2, h3⟩
  · exact absurd hv (h2 i hi)
  · rw [h2, h6.2 i j c hi h1 hv h3]
theorem held_no {c : Nat} (hc : c < 40) (h30 : nc ≤ 30) (h6 : K6 s nm nc) (h : ∀ i, i < nc → ¬ cov s i c) : heldC s (nI c) nc = -1 := by
  rcases held_c hc h30 h6 with ⟨h1, -⟩ | ⟨j, h1, h2, h3⟩
  · exact h1
  · exact absurd h3 (h j h1)
/-- sums of gold -/
theorem gold_n (h2 : K2 s nm k) : sumN (s 9) 40 = nI (SN (s 9) 40) ∧ s 6 0 = nI (tn (s 6 0)) ∧ sumN (s 13) nm = nI (SN (s 13) nm) ∧ s 7 0 = nI (tn (s 7 0)) :=
  ⟨sum_SN 40 (fun i hi => h2.1 i hi), h2.2.2.1, sum_SN nm (fun i hi => h2.2.2.2.2.1 i hi), h2.2.2.2.1⟩
def PS (s : SS) (i : Nat) : Nat := SN (fun b => s 20 (12 * i + b)) 12
theorem ps_n (h5 : K5 s nm) {i : Nat} (hi : i < nm) : sumN (fun b => s 20 (12 * i + b)) 12 = nI (PS s i) ∧ PS s i ≤ 100 := ⟨sum_SN 12 (fun b hb => h5.1 i b hi hb), h5.2.1 i hi⟩
end AK
