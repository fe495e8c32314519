theorem dgN_op {g c : Nat → Nat} {k M : Nat} {op op' : Nat → Nat} : ∀ p, (∀ q, q < p → op q = op' q) → dgN g c k M op p = dgN g c k M op' p
  | 0, _ => rfl
  | p + 1, h => by
    have e := dgN_op (g := g) (c := c) (k := k) (M := M) p (fun q hq => h q (by omega))
    unfold dgN
    rw [e, h p (by omega)]
/-- what the best plan brings -/
def bestN (g c : Nat → Nat) (k M : Nat) : Nat := smN (fun q => rcN k (xsN g c k q) (c q)) M
theorem dg_best {g c : Nat → Nat} {k M n : Nat} (hM : M < 6) (hn : n < ordL (M + 1)) : (dgN g c k M (lyC M n) M).2 ≤ bestN g c k M := by
  have h := (dgN_le (g := g) (c := c) (k := k) (M := M) (op := lyC M n) (fun p q hp hq e => ly_inj M hM n hn p hp q hq e) M (Nat.le_refl _)).2
  rw [smN_perm (f := fun j => rcN k (xsN g c k j) (c j)) hM hn] at h
  exact h
theorem dg_first {g c : Nat → Nat} {k M : Nat} (hM : M < 6) : (dgN g c k M (lyC M 0) M).2 = bestN g c k M := by
  rw [dgN_op (op' := fun q => q) M (fun q hq => ly_0 M hM q hq)]
  exact (dgN_id M (Nat.le_refl _)).2
/-- the ground of a claim in numbers -/
def GrOK (z : SS) (f M B : Nat) (g c : Nat → Nat) : Prop := (∀ j, j < M → z 9 (f + j) = nI (g j) ∧ g j ≤ B) ∧ ∀ j, j < M → z 10 (f + j) = nI (c j) ∧ c j ≤ 9
theorem bo_sum {z : SS} {f M k B n : Nat} {g c : Nat → Nat} (hk : k < 4) (hM : M < 6) (hB : B ≤ 10000000) (h : GrOK z f M B g c) (hn : n < ordL (M + 1)) (hz : ∀ i, i ≠ 43 → i ≠ 44 → (boW z f M (nI k) n).1 i = z i) : (dgW (dgI (lyW (boW z f M (nI k) n).1 M n M) f M) f M (nI k) (lyC M n) M).2 = nI (dgN g c k M (lyC M n) M).2 := by
  refine (dgW_nat (B := B) hk hM hB (fun j hj => ?_) (fun j hj => ?_) (fun p hp => (ly_all M hM n hn p hp).1) M (Nat.le_refl _)).2
  · rw [dgI_44 M hj, lyW_o (by decide), hz 9 (by decide) (by decide)]
    exact h.1 j hj
  · rw [dgI_o (by decide), lyW_o (by decide), hz 10 (by decide) (by decide)]
    exact h.2 j hj
theorem dg_small {g c : Nat → Nat} {k M B : Nat} {op : Nat → Nat} (hk : k < 4) (hM : M < 6) (hg : ∀ j, j < M → g j ≤ B) : (dgN g c k M op M).2 ≤ 10000 := by
  have := (dgN_b (c := c) (op := op) (M := M) hk hg M).2
  omega
theorem bo_best {z : SS} {f M k B : Nat} {g c : Nat → Nat} (hk : k < 4) (hM : M < 6) (hB : B ≤ 10000000) (h : GrOK z f M B g c) : ∀ n, n < ordL (M + 1) → (boW z f M (nI k) (n + 1)).2.1 = 0 ∧ (boW z f M (nI k) (n + 1)).2.2 = nI (bestN g c k M)
  | 0, hn => by
    have e := bo_sum hk hM hB h hn (fun i h1 h2 => boW_o h1 h2 0)
    rw [dg_first hM] at e
    have hs : bestN g c k M ≤ 10000 := by rw [← dg_first hM]; exact dg_small hk hM (fun j hj => (h.1 j hj).2)
    have hlt : (-1 : Int32) < nI (bestN g c k M) := by
      rw [Int32.lt_iff_toInt_lt, nI_toInt (by omega), show (-1 : Int32).toInt = -1 from by decide]
      omega
    refine ⟨?_, ?_⟩
    · show (if (-1 : Int32) < _ then 0 else 0) = 0
      split <;> rfl
    · show (if (-1 : Int32) < (dgW (dgI (lyW (boW z f M (nI k) 0).1 M 0 M) f M) f M (nI k) (lyC M 0) M).2 then (dgW (dgI (lyW (boW z f M (nI k) 0).1 M 0 M) f M) f M (nI k) (lyC M 0) M).2 else -1) = _
      rw [e, if_pos hlt]
  | n + 1, hn => by
    obtain ⟨h1, h2⟩ := bo_best hk hM hB h n (by omega)
    have e := bo_sum hk hM hB h hn (fun i h3 h4 => boW_o h3 h4 (n + 1))
    have hle := dg_best (g := g) (c := c) (k := k) hM hn
    have hs : bestN g c k M ≤ 10000 := by rw [← dg_first hM]; exact dg_small hk hM (fun j hj => (h.1 j hj).2)
    have hnot : ¬ (boW z f M (nI k) (n + 1)).2.2 < (dgW (dgI (lyW (boW z f M (nI k) (n + 1)).1 M (n + 1) M) f M) f M (nI k) (lyC M (n + 1)) M).2 := by
      rw [h2, e, nI_ltI (by omega) (by omega)]
      omega
    refine ⟨?_, ?_⟩
    · show (if _ < _ then n + 1 else _) = 0
      rw [if_neg hnot, h1]
    · show (if _ < _ then _ else _) = _
      rw [if_neg hnot, h2]
theorem pl_0 {z : SS} {f M k B : Nat} {g c : Nat → Nat} (hk : k < 4) (hM : M < 6) (hB : B ≤ 10000000) (h : GrOK z f M B g c) : plnB z f M (nI k) = 0 := by
  have h0 := (ordL_b (M + 1) (by omega)).1
  have := (bo_best hk hM hB h (ordL (M + 1) - 1) (by omega)).1
  unfold plnB
  rw [show ordL (M + 1) - 1 + 1 = ordL (M + 1) by omega] at this
  exact this
/-- the reference's plan -/
theorem pl_sum {z : SS} {f M k B : Nat} {g c : Nat → Nat} (hk : k < 4) (hM : M < 6) (hB : B ≤ 10000000) (h : GrOK z f M B g c) : (plnW z f M (nI k)).2 = nI (bestN g c k M) := by
  have h0 := (ordL_b (M + 1) (by omega)).1
  unfold plnW plnL
  rw [pl_0 hk hM hB h, ← dg_first hM]
  refine (dgW_nat (B := B) hk hM hB (fun j hj => ?_) (fun j hj => ?_) (fun p hp => (ly_all M hM 0 h0 p hp).1) M (Nat.le_refl _)).2
  · rw [dgI_44 M hj, lyW_o (by decide), boW_o (by decide) (by decide)]
    exact h.1 j hj
  · rw [dgI_o (by decide), lyW_o (by decide), boW_o (by decide) (by decide)]
    exact h.2 j hj
theorem pl_cell {z : SS} {f M k B p : Nat} {g c : Nat → Nat} (hk : k < 4) (hM : M < 6) (hB : B ≤ 10000000) (h : GrOK z f M B g c) (hp : p < M) : plnL z f M (nI k) 43 p = nI p := by
  unfold plnL
  rw [pl_0 hk hM hB h, lyW_43 M hp, ly_0 M hM p hp]
/-- the class's plan -/
theorem gr_nat {z : SS} {x : Nat} (hx : x < 40) : grF z (nI x) = z 9 x ∧ claF z (nI x) = z 10 x := by
  have h1 : (0 : Int32) ≤ nI x ∧ nI x ≤ 39 := ⟨nI_pos' (by omega), (nI_leI (b := 39) (by omega) (by omega)).mpr (by omega)⟩
  unfold grF claF
  rw [if_pos h1, if_pos h1, show tn (nI x) = x from nI_clamp (by omega)]
  exact ⟨rfl, rfl⟩
theorem rc_nat {k x c : Nat} (hk : k < 4) (hx : x < 2 ^ 31) (hc : c ≤ 9) : rcF (nI k) (nI (min x (msN k))) (nI c) = nI (rcN k x c) := by
  obtain ⟨h1, h2, h3, h4⟩ := most_nat k hk
  rw [← rec_nat hk hx hc, rec_rc, h1, min_nat hx (by omega)]
theorem xs_b {g c : Nat → Nat} {k B M : Nat} (hk : k < 4) (hg : ∀ j, j < M → g j ≤ B) : ∀ i, i < M → xsN g c k i ≤ B + 2000
  | 0, h => by have := hg 0 h; show g 0 ≤ _; omega
  | i + 1, h => by
    have := hg (i + 1) h
    have h3 := (most_nat k hk).2.2.1
    show g (i + 1) + flN k _ _ ≤ _
    unfold flN
    omega
theorem yd_nat {z : SS} {f M k B : Nat} {g c : Nat → Nat} (hk : k < 4) (hf : f + M ≤ 40) (hB : B ≤ 10000000) (h : GrOK z f M B g c) : ∀ i, i ≤ M → (∀ j, i = j + 1 → ydA z f k i = nI (flN k (xsN g c k j) (c j))) ∧ ydS z f k i = nI (smN (fun q => rcN k (xsN g c k q) (c q)) i)
  | 0, _ => ⟨fun j e => absurd e (by omega), rfl⟩
  | i + 1, hi => by
    obtain ⟨h1, h2⟩ := yd_nat hk hf hB h i (by omega)
    obtain ⟨e1, e2⟩ := gr_nat (z := z) (x := f + i) (by omega)
    obtain ⟨g1, g2⟩ := h.1 i (by omega)
    obtain ⟨c1, c2⟩ := h.2 i (by omega)
    obtain ⟨m1, m2, m3, m4⟩ := most_nat k hk
    have hb := xs_b (c := c) hk (fun j hj => (h.1 j hj).2) i (by omega)
    have hx : grF z (nI (f + i)) + ydA z f k i = nI (xsN g c k i) := by
      rw [e1, g1]
      match i, h1 with
      | 0, _ => exact Int32.add_zero _
      | j + 1, h1 => rw [h1 j rfl, nI_add]; rfl
    have hm : minF (nI (xsN g c k i)) (mostF (nI k)) = nI (min (xsN g c k i) (msN k)) := by rw [m1, min_nat (by omega) (by omega)]
    have hr : rcF (nI k) (nI (min (xsN g c k i) (msN k))) (nI (c i)) = nI (rcN k (xsN g c k i) (c i)) := rc_nat hk (by omega) c2
    refine ⟨fun j e => ?_, ?_⟩
    · have : i = j := by omega
      subst this
      unfold ydA
      rw [hx, hm, e2, c1, hr, pk_sub rcN_le]
      rfl
    · unfold ydS
      rw [hx, hm, e2, c1, hr, h2, nI_add]
      rfl
