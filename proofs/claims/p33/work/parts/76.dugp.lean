/-! what the step that digs, salts, sells must know -/
section DG
variable {s t : SS} {nm nc nr k : Nat}
/-- the water that a method needs -/
def neN (g : Nat) : Nat := if g = 0 then 0 else if g = 1 then 2 else if g = 2 then 10 else 40
theorem need_n : ∀ g, g < 4 → needF (nI g) = nI (neN g) := by decide
theorem neN_b (g : Nat) : neN g ≤ 40 := by
  unfold neN
  split
  · omega
  · split
    · omega
    · split <;> omega
theorem best_b (g : Nat) : bestN g ≤ 1000 := by
  unfold bestN
  split <;> omega
theorem best_0 {g : Nat} (h : g = 0) : 18 = bestN g := by rw [h]; rfl
theorem best_1 {g : Nat} (h : g = 1) : 70 = bestN g := by rw [h]; rfl
theorem best_2 {g : Nat} (h : g = 2) : 320 = bestN g := by rw [h]; rfl
theorem best_3 {g : Nat} (h0 : ¬ g = 0) (h1 : ¬ g = 1) (h2 : ¬ g = 2) : 1000 = bestN g := by
  unfold bestN
  split <;> first | omega | rfl
/-- has it dug today? -/
theorem dug_n (hJ : Js s nm nc nr k) {it wd : Nat} (hw : s 19 it = nI wd - 1) (hwd : wd ≤ 5001) : s 19 it = s 0 0 ↔ wd = tn (s 0 0) + 1 := by
  have hd := hJ.1.2.1
  rw [hw, hd.1.e, tn_nI (by omega)]
  by_cases h : wd = 0
  · subst h
    refine ⟨fun q => ?_, fun q => by omega⟩
    exact absurd (q.symm.trans (by decide : nI 0 - 1 = -1)) (fun z => absurd (nI_gtN (n := tn (s 0 0)) (c := -1) (by omega) (by decide)) (by rw [z]; exact Int32.lt_irrefl))
  · rw [nI_prd (by omega)]
    exact ⟨fun q => by have := nI_inj (by omega) (by omega) q; omega, fun q => congrArg nI (by omega)⟩
theorem lt_need (hJ : Js s nm nc nr k) {it g : Nat} (hg : g < 4) : inW s (nI it) nr < needF (nI g) ↔ IW s nr it < neN g := by
  have h := hJ.miw it
  have h2 := neN_b g
  rw [h.1, need_n g hg, nI_ltI (by omega) (by omega)]
theorem wk_A (hJ : Js s nm nc nr k) {it ce g wd : Nat} (hit : it < nm) (hg : g < 4) (hh : heldC s (nI ce) nc = -1) (hw : s 19 it = nI wd - 1) (hwd : wd ≤ 5001) : (s 17 (tn (nI it)) = 0 ∨ s 19 (tn (nI it)) = s 0 0 ∨ mayG s (tn (nI g)) (nI it) (heldC s (nI ce) nc) = 0 ∨ inW s (nI it) nr < needF (nI (tn (nI g)))) ↔ ¬ (0 < tn (s 17 it) ∧ ¬ wd = tn (s 0 0) + 1 ∧ g = 0 ∧ neN g ≤ IW s nr it) := by
  have h12 := hJ.1.1
  have e1 := (hJ.m17 hit).1.eq0
  have e2 := dug_n hJ hw hwd
  have e3 : mayG s g (nI it) (heldC s (nI ce) nc) = 0 ↔ ¬ g = 0 := by
    unfold mayG
    rw [if_pos hh]
    split
    · exact ⟨fun q => absurd q (by decide), fun q => absurd (by assumption) q⟩
    · exact ⟨fun _ => by assumption, fun _ => rfl⟩
  have e4 := lt_need hJ (it := it) hg
  rw [tn_nI (show it < 2 ^ 31 by omega), tn_nI (show g < 2 ^ 31 by omega), e1, e2, e3, e4]
  omega
theorem wk_B (hJ : Js s nm nc nr k) {it ce g wd hj : Nat} (hit : it < nm) (hg : g < 4) (hhj : hj < nc) (hh : heldC s (nI ce) nc = nI hj) (hw : s 19 it = nI wd - 1) (hwd : wd ≤ 5001) : (s 17 (tn (nI it)) = 0 ∨ s 19 (tn (nI it)) = s 0 0 ∨ mayG s (tn (nI g)) (nI it) (heldC s (nI ce) nc) = 0 ∨ inW s (nI it) nr < needF (nI (tn (nI g)))) ↔ ¬ (0 < tn (s 17 it) ∧ ¬ wd = tn (s 0 0) + 1 ∧ tn (s 22 hj) = it ∧ neN g ≤ IW s nr it) := by
  have h12 := hJ.1.1
  have e1 := (hJ.m17 hit).1.eq0
  have e2 := dug_n hJ hw hwd
  have c22 := hJ.c22 hhj
  have e3 : mayG s g (nI it) (heldC s (nI ce) nc) = 0 ↔ ¬ tn (s 22 hj) = it := by
    unfold mayG
    rw [if_neg (fun z => nI_m1 (n := hj) (by omega) (hh.symm.trans z)), hh, tn_nI (show hj < 2 ^ 31 by omega)]
    have e := c22.1.eqc (n := it) (by omega)
    split
    · exact ⟨fun q => absurd q (by decide), fun q => absurd (e.mp (by assumption)) q⟩
    · exact ⟨fun _ q => absurd (e.mpr q) (by assumption), fun _ => rfl⟩
  have e4 := lt_need hJ (it := it) hg
  rw [tn_nI (show it < 2 ^ 31 by omega), tn_nI (show g < 2 ^ 31 by omega), e1, e2, e3, e4]
  omega
theorem P_sellC (hJ : Js s nm nc nr k) (hT : K9 s t nm nc nr k) (hk : k ≤ 130) {x d : Nat} (hx : x < nm) (hs : tn (s 13 x) + tn (s 14 x) < tn (s 14 x) * 20) : sellRC s (nI x) (nI d) = -1 ∧ Js (sellUC s (nI x) (nI d)) nm nc nr (k + 1) ∧ K9 (sellUC s (nI x) (nI d)) t nm nc nr (k + 1) ∧ tn (sellUC s (nI x) (nI d) 18 x) = tn (s 18 x) + 1 ∧ tn (sellUC s (nI x) (nI d) 13 x) = tn (s 13 x) ∧ tn (sellUC s (nI x) (nI d) 16 x) = tn (s 16 x) ∧ tn (sellUC s (nI x) (nI d) 7 0) = tn (s 7 0) := by
  have h12 := hJ.1.1
  have tx : tn (nI x) = x := tn_nI (by omega)
  have h := (sus_n hJ hk hx).mpr hs
  have hR : sellRC s (nI x) (nI d) = -1 := by unfold sellRC; rw [tx, if_pos h]
  have hU : sellUC s (nI x) (nI d) = su s 18 x (s 18 x + 1) := by unfold sellUC; rw [tx, if_pos h]
  rw [hR, hU]
  obtain ⟨a, b, c⟩ := P_caught hJ hT hk hx
  exact ⟨rfl, a, b, c, rfl, rfl, rfl⟩
end DG
