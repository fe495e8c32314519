theorem sell_eq {z : SS} {x d : Int32} {r : Nat} (hd : (1 : Int32) ≤ d ∧ d ≤ 1000000) (hr : z 4 0 = nI r) (hr100 : r ≤ 100) (hall : ¬ z 13 (tn x) + z 14 (tn x) < d) : sellRC z x d = sellR z x d ∧ sellUC z x d = sellU z x d := by
  have h1 := Int32.le_iff_toInt_le.mp hd.1
  have h2 := Int32.le_iff_toInt_le.mp hd.2
  have e1 : (1 : Int32).toInt = 1 := by decide
  have e2 : (1000000 : Int32).toInt = 1000000 := by decide
  have e0 : (0 : Int32).toInt = 0 := by decide
  obtain ⟨a, ha, rfl⟩ := nI_of (x := d) (by rw [Int32.lt_iff_toInt_lt]; omega)
  have h3 := nI_toInt ha
  have hpay : payF (nI a) (z 4 0) = nI a * z 4 0 / 10 := by rw [hr]; exact pay_nat (by omega) hr100
  have hpos : 0 < z 13 (tn x) + z 14 (tn x) := by
    rw [Int32.lt_iff_toInt_lt] at hall ⊢
    omega
  have hbr : brC z (tn x) (nI a) = brF (nI a) (z 14 (tn x)) (z 13 (tn x) + z 14 (tn x)) := br_eq hpos
  unfold sellRC sellR sellUC sellU
  rw [hbr, hpay, Int32.mul_comm (z 14 (tn x)) 20]
  refine ⟨rfl, ?_⟩
  by_cases h : z 13 (tn x) + z 14 (tn x) < 20 * z 14 (tn x)
  · rw [if_pos h, if_pos h]
  · rw [if_neg h, if_neg h]
    exact su_comm (by decide)
theorem back_eq {z : SS} {x y p m : Int32} : backUC z x y p m = backU z 0 x y p m := by
  unfold backUC backU
  rw [su_comm (show (20 : Nat) ≠ 16 by decide), su_comm (show (20 : Nat) ≠ 16 by decide)]
/-- backers that there aren't have no percents -/
theorem pct_eq {z : SS} {j nm : Nat} (hn : nm ≤ 12) (h : ∀ b, nm ≤ b → b < 12 → z 20 (12 * j + b) = 0) : sumN (fun b => z 20 (12 * j + b)) 12 = sumN (fun b => z 20 (12 * j + b)) nm := by
  have key : ∀ d, nm + d ≤ 12 → sumN (fun b => z 20 (12 * j + b)) (nm + d) = sumN (fun b => z 20 (12 * j + b)) nm := by
    intro d
    induction d with
    | zero => exact fun _ => rfl
    | succ d ih =>
      intro hd
      show sumN _ (nm + d) + z 20 (12 * j + (nm + d)) = _
      rw [ih (by omega), h (nm + d) (by omega) (by omega), Int32.add_zero]
  have := key (12 - nm) (by omega)
  rw [show nm + (12 - nm) = 12 by omega] at this
  exact this
