def groundE (z : SS) (c : Int32) (m : Int32) (g : Int32) : Int32 := if ¬ ((0 : Int32) ≤ c ∧ c ≤ 39) then 1 else if ¬ ((0 ≤ m ∧ m ≤ 100000) ∧ (0 ≤ g ∧ g ≤ 9)) then 2 else if 0 < z 0 0 ∨ ¬ z 8 0 = 0 then 3 else 0
def groundR (z : SS) (c : Int32) (m : Int32) (g : Int32) : Int32 := z 9 (tn c)
def groundU (z : SS) (c : Int32) (m : Int32) (g : Int32) : SS := su (su z 9 (tn c) m) 10 (tn c) g
def flowE (z : SS) (x : Int32) : Int32 := if (0 ≤ x ∧ x ≤ 1000) then 0 else 1
def flowR (z : SS) (x : Int32) : Int32 := z 1 0
def flowU (z : SS) (x : Int32) : SS := su z 1 0 x
def minerE (z : SS) (nm : Nat) (f : Int32) (c : Int32) : Int32 := if ¬ ((0 ≤ f ∧ f ≤ 1000) ∧ (0 ≤ c ∧ c ≤ 100000)) then 1 else if nm = 12 then 2 else 0
def minerR (z : SS) (nm : Nat) (f : Int32) (c : Int32) : Int32 := nI nm
def minerU (z : SS) (nm : Nat) (f : Int32) (c : Int32) : SS := su (su (su (su (su z 15 nm f) 16 nm c) 17 nm 10) 19 nm (-1)) 12 0 (nI (nm + 1))
def rateE (z : SS) (x : Int32) : Int32 := if (1 ≤ x ∧ x ≤ 100) then 0 else 1
def rateR (z : SS) (x : Int32) : Int32 := z 4 0
def rateU (z : SS) (x : Int32) : SS := su z 4 0 x
def rightE (z : SS) (nr : Nat) (x : Int32) (i_ : Int32) : Int32 := if ¬ ((0 : Int32) ≤ x ∧ x ≤ z 12 0 - 1) then 1 else if ¬ (1 ≤ i_ ∧ i_ ≤ 200) then 2 else if z 17 (tn x) = 0 ∨ nr = 20 then 3 else 0
def rightR (z : SS) (nr : Nat) (x : Int32) (i_ : Int32) : Int32 := nI nr
def rightU (z : SS) (nr : Nat) (x : Int32) (i_ : Int32) : SS := su (su (su z 34 nr x) 35 nr i_) 33 0 (nI (nr + 1))
def sampleE (z : SS) (c : Int32) : Int32 := if ((0 : Int32) ≤ c ∧ c ≤ 39) then 0 else 1
def sampleR (z : SS) (c : Int32) : Int32 := z 9 (tn c) / 100
def brassE (z : SS) (x : Int32) (m : Int32) : Int32 := if ¬ ((0 : Int32) ≤ x ∧ x ≤ z 12 0 - 1) then 1 else if ¬ (1 ≤ m ∧ m ≤ 10000) then 2 else if z 17 (tn x) = 0 ∨ 100000 < z 14 (tn x) + m then 3 else 0
def brassR (z : SS) (x : Int32) (m : Int32) : Int32 := z 14 (tn x) + m
def brassU (z : SS) (x : Int32) (m : Int32) : SS := su z 14 (tn x) (z 14 (tn x) + m)
def rumourE (z : SS) (c : Int32) (b : Int32) : Int32 := if ¬ ((0 : Int32) ≤ c ∧ c ≤ 39) then 1 else if (0 ≤ b ∧ b ≤ 100) then 0 else 2
def rumourR (z : SS) (c : Int32) (b : Int32) : Int32 := z 11 (tn c)
def rumourU (z : SS) (c : Int32) (b : Int32) : SS := su z 11 (tn c) b
def beliefE (z : SS) (c : Int32) : Int32 := if ((0 : Int32) ≤ c ∧ c ≤ 39) then 0 else 1
def beliefR (z : SS) (c : Int32) : Int32 := z 11 (tn c)
def holdsE (z : SS) (nc : Nat) (c : Int32) : Int32 := if ((0 : Int32) ≤ c ∧ c ≤ 39) then 0 else 1
def holdsR (z : SS) (nc : Nat) (c : Int32) : Int32 := heldM z c nc
def meetE (z : SS) (nm : Nat) (m : Int32) (d : Int32) (y : Int32) (n_ : Int32) : Int32 := if ((1 ≤ m ∧ m ≤ 10) ∧ (1 ≤ d ∧ d ≤ 100) ∧ (0 ≤ y ∧ y ≤ 12) ∧ (0 ≤ n_ ∧ n_ ≤ 12)) ∧ y + n_ ≤ livN z nm then 0 else 1
def meetR (z : SS) (nm : Nat) (m : Int32) (d : Int32) (y : Int32) (n_ : Int32) : Int32 := bI (n_ < y)
def meetU (z : SS) (nm : Nat) (m : Int32) (d : Int32) (y : Int32) (n_ : Int32) : SS := if n_ < y then su (su z 2 0 m) 3 0 d else z
def buyE (z : SS) (x : Int32) (m : Int32) : Int32 := if ¬ ((0 : Int32) ≤ x ∧ x ≤ z 12 0 - 1) then 1 else if ¬ (1 ≤ m ∧ m ≤ 1000) then 2 else if z 17 (tn x) = 0 ∨ z 5 0 < m ∨ z 16 (tn x) < m * priceF (z 5 0) then 3 else 0
def buyR (z : SS) (x : Int32) (m : Int32) : Int32 := m * priceF (z 5 0)
def buyU (z : SS) (x : Int32) (m : Int32) : SS := su (su (su z 5 0 (z 5 0 - m)) 15 (tn x) (z 15 (tn x) + m)) 16 (tn x) (z 16 (tn x) - m * priceF (z 5 0))
def goldE (z : SS) (nm : Nat) (w_ : Int32) : Int32 := if (0 ≤ w_ ∧ w_ ≤ 4) then 0 else 1
def goldR (z : SS) (nm : Nat) (w_ : Int32) : Int32 := if w_ = 0 then sumN (z 9) 40 else if w_ = 1 then z 6 0 else if w_ = 2 then sumN (z 13) nm else if w_ = 3 then z 7 0 else sumN (z 9) 40 + z 6 0 + sumN (z 13) nm + z 7 0
def campE (z : SS) (nm : Nat) (w_ : Int32) : Int32 := if (0 ≤ w_ ∧ w_ ≤ 5) then 0 else 1
def campR (z : SS) (nm : Nat) (w_ : Int32) : Int32 := if w_ = 0 then z 2 0 else if w_ = 1 then z 3 0 else if w_ = 2 then z 5 0 else if w_ = 3 then priceF (z 5 0) else if w_ = 4 then z 36 0 else livN z nm
def getsE (z : SS) (x : Int32) : Int32 := if ((0 : Int32) ≤ x ∧ x ≤ z 33 0 - 1) then 0 else 1
def getsR (z : SS) (x : Int32) : Int32 := gvW z (tn x + 1)
def ofClaimE (z : SS) (x : Int32) (w_ : Int32) : Int32 := if ¬ ((0 : Int32) ≤ x ∧ x ≤ z 21 0 - 1) then 1 else if (0 ≤ w_ ∧ w_ ≤ 5) then 0 else 2
def ofClaimR (z : SS) (x : Int32) (w_ : Int32) : Int32 := if w_ = 0 then z 22 (tn x) else if w_ = 1 then z 23 (tn x) else if w_ = 2 then z 24 (tn x) else if w_ = 3 then bI (¬ z 25 (tn x) = 0) else if w_ = 4 then z 26 (tn x) else z 27 (tn x)
def backE (z : SS) (nm : Nat) (x : Int32) (y : Int32) (p : Int32) (m : Int32) : Int32 := if ¬ (((0 : Int32) ≤ x ∧ x ≤ z 12 0 - 1) ∧ ((0 : Int32) ≤ y ∧ y ≤ z 12 0 - 1)) then 1 else if ¬ ((1 ≤ p ∧ p ≤ 100) ∧ (0 ≤ m ∧ m ≤ 100000) ∧ ¬ x = y) then 2 else if z 17 (tn x) = 0 ∨ z 17 (tn y) = 0 ∨ ¬ z 20 (12 * tn y + tn x) = 0 ∨ z 16 (tn x) < m ∨ 100 < sumN (fun b => z 20 (12 * tn y + b)) nm + p then 3 else 0
def backU (z : SS) (nm : Nat) (x : Int32) (y : Int32) (p : Int32) (m : Int32) : SS := su (su (su z 20 (12 * tn y + tn x) p) 16 (tn x) (z 16 (tn x) - m)) 16 (tn y) ((su z 16 (tn x) (z 16 (tn x) - m)) 16 (tn y) + m)
def endE (z : SS) (x : Int32) (y : Int32) : Int32 := if ¬ (((0 : Int32) ≤ x ∧ x ≤ z 12 0 - 1) ∧ ((0 : Int32) ≤ y ∧ y ≤ z 12 0 - 1)) then 1 else if 0 < z 20 (12 * tn y + tn x) then 0 else 2
def endR (z : SS) (x : Int32) (y : Int32) : Int32 := z 20 (12 * tn y + tn x)
def endU (z : SS) (x : Int32) (y : Int32) : SS := su z 20 (12 * tn y + tn x) 0
def saltE (z : SS) (ns : Nat) (x : Int32) (c : Int32) (m : Int32) : Int32 := if ¬ (((0 : Int32) ≤ x ∧ x ≤ z 12 0 - 1) ∧ ((0 : Int32) ≤ c ∧ c ≤ 39)) then 1 else if ¬ (1 ≤ m ∧ m ≤ 10000) then 2 else if z 17 (tn x) = 0 ∨ z 13 (tn x) < m then 3 else 0
def saltR (z : SS) (ns : Nat) (x : Int32) (c : Int32) (m : Int32) : Int32 := z 9 (tn c) + m
def saltU (z : SS) (ns : Nat) (x : Int32) (c : Int32) (m : Int32) : SS := su (su (su (su (su (su (su z 13 (tn x) (z 13 (tn x) - m)) 9 (tn c) (z 9 (tn c) + m)) 40 ns x) 41 ns c) 42 ns (z 0 0)) 39 0 (nI (ns + 1))) 8 0 1
def freightE (z : SS) (nf : Nat) (m : Int32) (d : Int32) : Int32 := if ¬ ((1 ≤ m ∧ m ≤ 1000) ∧ (z 0 0 + 1 ≤ d ∧ d ≤ 5000)) then 1 else if nf = 20 then 2 else 0
def freightU (z : SS) (nf : Nat) (m : Int32) (d : Int32) : SS := su (su (su z 37 nf m) 38 nf d) 36 0 (nI (nf + 1))
def sellE (z : SS) (x : Int32) (d : Int32) : Int32 := if ¬ ((0 : Int32) ≤ x ∧ x ≤ z 12 0 - 1) then 1 else if ¬ (1 ≤ d ∧ d ≤ 1000000) then 2 else if z 17 (tn x) = 0 ∨ z 13 (tn x) + z 14 (tn x) < d then 3 else 0
def sellR (z : SS) (x : Int32) (d : Int32) : Int32 := if z 13 (tn x) + z 14 (tn x) < 20 * z 14 (tn x) then -1 else payF d (z 4 0)
def sellU (z : SS) (x : Int32) (d : Int32) : SS := if z 13 (tn x) + z 14 (tn x) < 20 * z 14 (tn x) then su z 18 (tn x) (z 18 (tn x) + 1) else su (su (su (su z 14 (tn x) (z 14 (tn x) - brF d (z 14 (tn x)) (z 13 (tn x) + z 14 (tn x)))) 13 (tn x) (z 13 (tn x) - (d - brF d (z 14 (tn x)) (z 13 (tn x) + z 14 (tn x))))) 7 0 (z 7 0 + (d - brF d (z 14 (tn x)) (z 13 (tn x) + z 14 (tn x))))) 16 (tn x) (z 16 (tn x) + payF d (z 4 0))
def tradeE (z : SS) (c : Int32) (b : Int32) (m : Int32) : Int32 := if ¬ (((0 : Int32) ≤ c ∧ c ≤ z 21 0 - 1) ∧ ((0 : Int32) ≤ b ∧ b ≤ z 12 0 - 1)) then 1 else if ¬ ((0 ≤ m ∧ m ≤ 100000) ∧ ¬ b = z 22 (tn c)) then 2 else if z 25 (tn c) = 0 ∨ z 17 (tn b) = 0 ∨ z 16 (tn b) < m then 3 else 0
def tradeR (z : SS) (c : Int32) (b : Int32) (m : Int32) : Int32 := z 22 (tn c)
def tradeU (z : SS) (c : Int32) (b : Int32) (m : Int32) : SS := su (su (su (su (su (su (su (su z 29 (tn c) (z 22 (tn c))) 30 (tn c) b) 31 (tn c) m) 32 (tn c) (z 0 0)) 28 (tn c) 0) 16 (tn b) (z 16 (tn b) - m)) 16 (tn (z 22 (tn c))) ((su z 16 (tn b) (z 16 (tn b) - m)) 16 (tn (z 22 (tn c))) + m)) 22 (tn c) b
def suitE (z : SS) (ns : Nat) (c : Int32) : Int32 := if ¬ ((0 : Int32) ≤ c ∧ c ≤ z 21 0 - 1) then 1 else if z 32 (tn c) = -1 ∨ ¬ z 28 (tn c) = 0 ∨ 30 < z 0 0 - z 32 (tn c) then 2 else 0
def suitR (z : SS) (ns : Nat) (c : Int32) : Int32 := if sltW z (tn c) ns = 0 then -1 else minF (z 31 (tn c)) (z 16 (tn (z 29 (tn c))))
def suitU (z : SS) (ns : Nat) (c : Int32) : SS := if sltW z (tn c) ns = 0 then su z 28 (tn c) 1 else su (su (su z 28 (tn c) 1) 16 (tn (z 29 (tn c))) (z 16 (tn (z 29 (tn c))) - minF (z 31 (tn c)) (z 16 (tn (z 29 (tn c)))))) 16 (tn (z 30 (tn c))) ((su z 16 (tn (z 29 (tn c))) (z 16 (tn (z 29 (tn c))) - minF (z 31 (tn c)) (z 16 (tn (z 29 (tn c)))))) 16 (tn (z 30 (tn c))) + minF (z 31 (tn c)) (z 16 (tn (z 29 (tn c)))))

abbrev r_X8_ground : Room := { frames := 2, cells := 0, slots := 0, locals := 42 }
set_option maxRecDepth 4000 in
theorem c_X8_ground {l : Launch} {G : GG} {a : AD} {s t s0 : SS} {L : List (Nat × Nat)}  (hst : l.stackTraces = false) (hG : GOK G) (hL : Live L s0) (c : Int32) (m : Int32) (g : Int32)  : Mth l yX8_ground cX8_ground 6 (Option.some Jvm.ClassFile.FieldType.int) r_X8_ground G (wl a (E G.2.2.1 a s t) L) [.ref (a 0 0), .int c, .int m, .int g] (RI (.int (pM (groundE t c m g) (groundR t c m g))) (wl a (E G.2.2.1 a s (pU (groundE t c m g) (groundU (su t 45 0 0) c m g) t)) L) (True)) nX := by
  refine mth_of rfl (Nat.le_of_ble_eq_true rfl) hst hG (fun X hX C0 => ?_)
  subst hX
  have C : Cx X G cX8_ground 6 RX8 (Option.some Jvm.ClassFile.FieldType.int) r_X8_ground "ground" [] := C0
  clear C0
  show V X G 6 _ 0 0 _ 0 [(0, .ref (a 0 0)), (1, .int (c)), (2, .int (m)), (3, .int (g))] []
  refine v_iload_n C dX8_ground_0 rfl 2 rfl ?_
  refine v_iconst C (v := 0) dX8_ground_1 rfl rfl ?_
  refine v_ldc C (v := 100000) dX8_ground_2 rfl N_X8_133 ?_
  refine w_invSr C [.int (m), .int (0), .int (100000)] 0 0 L_X8_123 (c_X8_isIn (s := s) (t := t)  hst hG hL m 0 100000) rfl rfl rfl dX8_ground_4 rfl kx_no (fun h1 => ?_)
  refine v_ifB_eq C (t := 24) dX8_ground_7 rfl rfl (fun h2 => ?_) (fun h2 => ?_)
  · skip
    refine v_iconst C (v := 0) dX8_ground_24 rfl rfl ?_
    refine v_istore C (lv1 := [(4, .int (0)), (0, .ref (a 0 0)), (1, .int (c)), (2, .int (m)), (3, .int (g))]) dX8_ground_25 rfl (by decide) rfl ?_
    refine v_aload_n C dX8_ground_27 rfl 1 rfl ?_
    refine v_iload_n C dX8_ground_28 rfl 2 rfl ?_
    refine w_invSr C [.int (c)] 0 0 L_X8_134 (c_X8_isCell (s := s) (t := t)  hst hG hL c) rfl rfl rfl dX8_ground_29 rfl kx_no (fun h3 => ?_)
    refine v_ifB_ne C (t := 39) dX8_ground_32 rfl rfl (fun h4 => ?_) (fun h4 => ?_)
    · skip
      refine v_iload C dX8_ground_39 rfl 0 rfl ?_
      refine v_if_ne C (t := 48) dX8_ground_41 rfl rfl (fun h => absurd h (by decide)) (fun _ => ?_)
      refine v_iconst C (v := 2) dX8_ground_44 rfl rfl ?_
      refine v_goto C (q := 67) dX8_ground_45 rfl ?_
      refine w_invVr C [.int (2)] 0 0 L_X8_145 (c_X8_holdsTo (s := s) (t := t)  hst hG hL 2) (m0 (s := s) (t := t) (g := G.2.2.1) hL) rfl rfl rfl rfl dX8_ground_67 rfl kx_no (fun h5 => ?_)
      refine v_ifB_ne C (t := 75) dX8_ground_70 rfl rfl (fun h => absurd h (by decide)) (fun _ => ?_)
      refine v_iconst C (v := 0) dX8_ground_73 rfl rfl ?_
      exact v_iret C (by decide) (by decide) dX8_ground_74 ⟨congrArg (fun z => some (Value.int z)) (by first | rfl | (simp only [h2, h4, pM, pU, heldM_45, gvW_45, inW_45, livN_45, sum9_45, sum13_45, groundE, groundR, groundU, bI, pM, pU, n10, n20, n30, n0, if_true, if_false, ite_true, ite_false, not_true_eq_false, not_false_eq_true, and_true, true_and, and_false, false_and, or_true, true_or, or_false, false_or, reduceIte, and_self, or_self, ne_eq, eq_self_iff_true]; first | done | rfl) | (simp [bI, h2, h4, pM, pU, heldM_45, gvW_45, inW_45, livN_45, sum9_45, sum13_45, groundE, groundR, groundU]; done) | (simp only [pM, pU, heldM_45, gvW_45, inW_45, livN_45, sum9_45, sum13_45, groundE, groundR, groundU, bI, ← Int32.not_le] at *; simp [h2, h4]; done) | (simp_all [bI, h2, h4, pM, pU, heldM_45, gvW_45, inW_45, livN_45, sum9_45, sum13_45, groundE, groundR, groundU]; done) | (simp_all [bI, h2, h4, pM, pU, heldM_45, gvW_45, inW_45, livN_45, sum9_45, sum13_45, groundE, groundR, groundU]; rfl) | (exfalso; omega)), by first | rfl | (simp only [h2, h4, pM, pU, heldM_45, gvW_45, inW_45, livN_45, sum9_45, sum13_45, groundE, groundR, groundU, bI, pM, pU, n10, n20, n30, n0, if_true, if_false, ite_true, ite_false, not_true_eq_false, not_false_eq_true, and_true, true_and, and_false, false_and, or_true, true_or, or_false, false_or, reduceIte, and_self, or_self, ne_eq, eq_self_iff_true]; first | done | rfl) | (simp [bI, h2, h4, pM, pU, heldM_45, gvW_45, inW_45, livN_45, sum9_45, sum13_45, groundE, groundR, groundU]; done) | (simp only [pM, pU, heldM_45, gvW_45, inW_45, livN_45, sum9_45, sum13_45, groundE, groundR, groundU, bI, ← Int32.not_le] at *; simp [h2, h4]; done) | (simp_all [bI, h2, h4, pM, pU, heldM_45, gvW_45, inW_45, livN_45, sum9_45, sum13_45, groundE, groundR, groundU]; done) | (simp_all [bI, h2, h4, pM, pU, heldM_45, gvW_45, inW_45, livN_45, sum9_45, sum13_45, groundE, groundR, groundU]; rfl) | (exfalso; omega), by trivial⟩
    · skip
      refine v_iconst C (v := 1) dX8_ground_35 rfl rfl ?_
      refine v_goto C (q := 67) dX8_ground_36 rfl ?_
      refine w_invVr C [.int (1)] 0 0 L_X8_145 (c_X8_holdsTo (s := s) (t := t)  hst hG hL 1) (m0 (s := s) (t := t) (g := G.2.2.1) hL) rfl rfl rfl rfl dX8_ground_67 rfl kx_no (fun h6 => ?_)
      refine v_ifB_ne C (t := 75) dX8_ground_70 rfl rfl (fun h => absurd h (by decide)) (fun _ => ?_)
      refine v_iconst C (v := 0) dX8_ground_73 rfl rfl ?_
      exact v_iret C (by decide) (by decide) dX8_ground_74 ⟨congrArg (fun z => some (Value.int z)) (by first | rfl | (simp only [h2, h4, pM, pU, heldM_45, gvW_45, inW_45, livN_45, sum9_45, sum13_45, groundE, groundR, groundU, bI, pM, pU, n10, n20, n30, n0, if_true, if_false, ite_true, ite_false, not_true_eq_false, not_false_eq_true, and_true, true_and, and_false, false_and, or_true, true_or, or_false, false_or, reduceIte, and_self, or_self, ne_eq, eq_self_iff_true]; first | done | rfl) | (simp [bI, h2, h4, pM, pU, heldM_45, gvW_45, inW_45, livN_45, sum9_45, sum13_45, groundE, groundR, groundU]; done) | (simp only [pM, pU, heldM_45, gvW_45, inW_45, livN_45, sum9_45, sum13_45, groundE, groundR, groundU, bI, ← Int32.not_le] at *; simp [h2, h4]; done) | (simp_all [bI, h2, h4, pM, pU, heldM_45, gvW_45, inW_45, livN_45, sum9_45, sum13_45, groundE, groundR, groundU]; done) | (simp_all [bI, h2, h4, pM, pU, heldM_45, gvW_45, inW_45, livN_45, sum9_45, sum13_45, groundE, groundR, groundU]; rfl) | (exfalso; omega)), by first | rfl | (simp only [h2, h4, pM, pU, heldM_45, gvW_45, inW_45, livN_45, sum9_45, sum13_45, groundE, groundR, groundU, bI, pM, pU, n10, n20, n30, n0, if_true, if_false, ite_true, ite_false, not_true_eq_false, not_false_eq_true, and_true, true_and, and_false, false_and, or_true, true_or, or_false, false_or, reduceIte, and_self, or_self, ne_eq, eq_self_iff_true]; first | done | rfl) | (simp [bI, h2, h4, pM, pU, heldM_45, gvW_45, inW_45, livN_45, sum9_45, sum13_45, groundE, groundR, groundU]; done) | (simp only [pM, pU, heldM_45, gvW_45, inW_45, livN_45, sum9_45, sum13_45, groundE, groundR, groundU, bI, ← Int32.not_le] at *; simp [h2, h4]; done) | (simp_all [bI, h2, h4, pM, pU, heldM_45, gvW_45, inW_45, livN_45, sum9_45, sum13_45, groundE, groundR, groundU]; done) | (simp_all [bI, h2, h4, pM, pU, heldM_45, gvW_45, inW_45, livN_45, sum9_45, sum13_45, groundE, groundR, groundU]; rfl) | (exfalso; omega), by trivial⟩
  · skip
    refine v_iload_n C dX8_ground_10 rfl 3 rfl ?_
    refine v_iconst C (v := 0) dX8_ground_11 rfl rfl ?_
    refine v_bipush C (v := 9) dX8_ground_12 rfl rfl ?_
    refine w_invSr C [.int (g), .int (0), .int (9)] 0 0 L_X8_123 (c_X8_isIn (s := s) (t := t)  hst hG hL g 0 9) rfl rfl rfl dX8_ground_14 rfl kx_no (fun h7 => ?_)
    refine v_ifB_eq C (t := 24) dX8_ground_17 rfl rfl (fun h8 => ?_) (fun h8 => ?_)
    · skip
      refine v_iconst C (v := 0) dX8_ground_24 rfl rfl ?_
      refine v_istore C (lv1 := [(4, .int (0)), (0, .ref (a 0 0)), (1, .int (c)), (2, .int (m)), (3, .int (g))]) dX8_ground_25 rfl (by decide) rfl ?_
      refine v_aload_n C dX8_ground_27 rfl 1 rfl ?_
      refine v_iload_n C dX8_ground_28 rfl 2 rfl ?_
      refine w_invSr C [.int (c)] 0 0 L_X8_134 (c_X8_isCell (s := s) (t := t)  hst hG hL c) rfl rfl rfl dX8_ground_29 rfl kx_no (fun h9 => ?_)
      refine v_ifB_ne C (t := 39) dX8_ground_32 rfl rfl (fun h10 => ?_) (fun h10 => ?_)
      · skip
        refine v_iload C dX8_ground_39 rfl 0 rfl ?_
        refine v_if_ne C (t := 48) dX8_ground_41 rfl rfl (fun h => absurd h (by decide)) (fun _ => ?_)
        refine v_iconst C (v := 2) dX8_ground_44 rfl rfl ?_
        refine v_goto C (q := 67) dX8_ground_45 rfl ?_
        refine w_invVr C [.int (2)] 0 0 L_X8_145 (c_X8_holdsTo (s := s) (t := t)  hst hG hL 2) (m0 (s := s) (t := t) (g := G.2.2.1) hL) rfl rfl rfl rfl dX8_ground_67 rfl kx_no (fun h11 => ?_)
        refine v_ifB_ne C (t := 75) dX8_ground_70 rfl rfl (fun h => absurd h (by decide)) (fun _ => ?_)
        refine v_iconst C (v := 0) dX8_ground_73 rfl rfl ?_
        exact v_iret C (by decide) (by decide) dX8_ground_74 ⟨congrArg (fun z => some (Value.int z)) (by first | rfl | (simp only [h2, h8, h10, pM, pU, heldM_45, gvW_45, inW_45, livN_45, sum9_45, sum13_45, groundE, groundR, groundU, bI, pM, pU, n10, n20, n30, n0, if_true, if_false, ite_true, ite_false, not_true_eq_false, not_false_eq_true, and_true, true_and, and_false, false_and, or_true, true_or, or_false, false_or, reduceIte, and_self, or_self, ne_eq, eq_self_iff_true]; first | done | rfl) | (simp [bI, h2, h8, h10, pM, pU, heldM_45, gvW_45, inW_45, livN_45, sum9_45, sum13_45, groundE, groundR, groundU]; done) | (simp only [pM, pU, heldM_45, gvW_45, inW_45, livN_45, sum9_45, sum13_45, groundE, groundR, groundU, bI, ← Int32.not_le] at *; simp [h2, h8, h10]; done) | (simp_all [bI, h2, h8, h10, pM, pU, heldM_45, gvW_45, inW_45, livN_45, sum9_45, sum13_45, groundE, groundR, groundU]; done) | (simp_all [bI, h2, h8, h10, pM, pU, heldM_45, gvW_45, inW_45, livN_45, sum9_45, sum13_45, groundE, groundR, groundU]; rfl) | (exfalso; omega)), by first | rfl | (simp only [h2, h8, h10, pM, pU, heldM_45, gvW_45, inW_45, livN_45, sum9_45, sum13_45, groundE, groundR, groundU, bI, pM, pU, n10, n20, n30, n0, if_true, if_false, ite_true, ite_false, not_true_eq_false, not_false_eq_true, and_true, true_and, and_false, false_and, or_true, true_or, or_false, false_or, reduceIte, and_self, or_self, ne_eq, eq_self_iff_true]; first | done | rfl) | (simp [bI, h2, h8, h10, pM, pU, heldM_45, gvW_45, inW_45, livN_45, sum9_45, sum13_45, groundE, groundR, groundU]; done) | (simp only [pM, pU, heldM_45, gvW_45, inW_45, livN_45, sum9_45, sum13_45, groundE, groundR, groundU, bI, ← Int32.not_le] at *; simp [h2, h8, h10]; done) | (simp_all [bI, h2, h8, h10, pM, pU, heldM_45, gvW_45, inW_45, livN_45, sum9_45, sum13_45, groundE, groundR, groundU]; done) | (simp_all [bI, h2, h8, h10, pM, pU, heldM_45, gvW_45, inW_45, livN_45, sum9_45, sum13_45, groundE, groundR, groundU]; rfl) | (exfalso; omega), by trivial⟩
      · skip
        refine v_iconst C (v := 1) dX8_ground_35 rfl rfl ?_
        refine v_goto C (q := 67) dX8_ground_36 rfl ?_
        refine w_invVr C [.int (1)] 0 0 L_X8_145 (c_X8_holdsTo (s := s) (t := t)  hst hG hL 1) (m0 (s := s) (t := t) (g := G.2.2.1) hL) rfl rfl rfl rfl dX8_ground_67 rfl kx_no (fun h12 => ?_)
        refine v_ifB_ne C (t := 75) dX8_ground_70 rfl rfl (fun h => absurd h (by decide)) (fun _ => ?_)
        refine v_iconst C (v := 0) dX8_ground_73 rfl rfl ?_
        exact v_iret C (by decide) (by decide) dX8_ground_74 ⟨congrArg (fun z => some (Value.int z)) (by first | rfl | (simp only [h2, h8, h10, pM, pU, heldM_45, gvW_45, inW_45, livN_45, sum9_45, sum13_45, groundE, groundR, groundU, bI, pM, pU, n10, n20, n30, n0, if_true, if_false, ite_true, ite_false, not_true_eq_false, not_false_eq_true, and_true, true_and, and_false, false_and, or_true, true_or, or_false, false_or, reduceIte, and_self, or_self, ne_eq, eq_self_iff_true]; first | done | rfl) | (simp [bI, h2, h8, h10, pM, pU, heldM_45, gvW_45, inW_45, livN_45, sum9_45, sum13_45, groundE, groundR, groundU]; done) | (simp only [pM, pU, heldM_45, gvW_45, inW_45, livN_45, sum9_45, sum13_45, groundE, groundR, groundU, bI, ← Int32.not_le] at *; simp [h2, h8, h10]; done) | (simp_all [bI, h2, h8, h10, pM, pU, heldM_45, gvW_45, inW_45, livN_45, sum9_45, sum13_45, groundE, groundR, groundU]; done) | (simp_all [bI, h2, h8, h10, pM, pU, heldM_45, gvW_45, inW_45, livN_45, sum9_45, sum13_45, groundE, groundR, groundU]; rfl) | (exfalso; omega)), by first | rfl | (simp only [h2, h8, h10, pM, pU, heldM_45, gvW_45, inW_45, livN_45, sum9_45, sum13_45, groundE, groundR, groundU, bI, pM, pU, n10, n20, n30, n0, if_true, if_false, ite_true, ite_false, not_true_eq_false, not_false_eq_true, and_true, true_and, and_false, false_and, or_true, true_or, or_false, false_or, reduceIte, and_self, or_self, ne_eq, eq_self_iff_true]; first | done | rfl) | (simp [bI, h2, h8, h10, pM, pU, heldM_45, gvW_45, inW_45, livN_45, sum9_45, sum13_45, groundE, groundR, groundU]; done) | (simp only [pM, pU, heldM_45, gvW_45, inW_45, livN_45, sum9_45, sum13_45, groundE, groundR, groundU, bI, ← Int32.not_le] at *; simp [h2, h8, h10]; done) | (simp_all [bI, h2, h8, h10, pM, pU, heldM_45, gvW_45, inW_45, livN_45, sum9_45, sum13_45, groundE, groundR, groundU]; done) | (simp_all [bI, h2, h8, h10, pM, pU, heldM_45, gvW_45, inW_45, livN_45, sum9_45, sum13_45, groundE, groundR, groundU]; rfl) | (exfalso; omega), by trivial⟩
    · skip
      refine v_iconst C (v := 1) dX8_ground_20 rfl rfl ?_
      refine v_goto C (q := 25) dX8_ground_21 rfl ?_
      refine v_istore C (lv1 := [(4, .int (1)), (0, .ref (a 0 0)), (1, .int (c)), (2, .int (m)), (3, .int (g))]) dX8_ground_25 rfl (by decide) rfl ?_
      refine v_aload_n C dX8_ground_27 rfl 1 rfl ?_
      refine v_iload_n C dX8_ground_28 rfl 2 rfl ?_
      refine w_invSr C [.int (c)] 0 0 L_X8_134 (c_X8_isCell (s := s) (t := t)  hst hG hL c) rfl rfl rfl dX8_ground_29 rfl kx_no (fun h13 => ?_)
      refine v_ifB_ne C (t := 39) dX8_ground_32 rfl rfl (fun h14 => ?_) (fun h14 => ?_)
      · skip
        refine v_iload C dX8_ground_39 rfl 0 rfl ?_
        refine v_if_ne C (t := 48) dX8_ground_41 rfl rfl (fun _ => ?_) (fun h => absurd h (by decide))
        refine v_aload_n C dX8_ground_48 rfl 1 rfl ?_
        refine v_get C (v := .int (t 0 0)) g_X8_138 (m0 (s := s) (t := t) (g := G.2.2.1) hL) (rg (by decide) rfl) dX8_ground_49 rfl ?_
        refine v_if_gt C (t := 62) dX8_ground_52 rfl rfl (fun h15 => ?_) (fun h15 => ?_)
        · skip
          refine v_iconst C (v := 3) dX8_ground_62 rfl rfl ?_
          refine v_goto C (q := 67) dX8_ground_63 rfl ?_
          refine w_invVr C [.int (3)] 0 0 L_X8_145 (c_X8_holdsTo (s := s) (t := t)  hst hG hL 3) (m0 (s := s) (t := t) (g := G.2.2.1) hL) rfl rfl rfl rfl dX8_ground_67 rfl kx_no (fun h16 => ?_)
          refine v_ifB_ne C (t := 75) dX8_ground_70 rfl rfl (fun h => absurd h (by decide)) (fun _ => ?_)
          refine v_iconst C (v := 0) dX8_ground_73 rfl rfl ?_
          exact v_iret C (by decide) (by decide) dX8_ground_74 ⟨congrArg (fun z => some (Value.int z)) (by first | rfl | (simp only [h2, h8, h14, h15, Int32.not_le.mpr h15, pM, pU, heldM_45, gvW_45, inW_45, livN_45, sum9_45, sum13_45, groundE, groundR, groundU, bI, pM, pU, n10, n20, n30, n0, if_true, if_false, ite_true, ite_false, not_true_eq_false, not_false_eq_true, and_true, true_and, and_false, false_and, or_true, true_or, or_false, false_or, reduceIte, and_self, or_self, ne_eq, eq_self_iff_true]; first | done | rfl) | (simp [bI, h2, h8, h14, h15, Int32.not_le.mpr h15, pM, pU, heldM_45, gvW_45, inW_45, livN_45, sum9_45, sum13_45, groundE, groundR, groundU]; done) | (simp only [pM, pU, heldM_45, gvW_45, inW_45, livN_45, sum9_45, sum13_45, groundE, groundR, groundU, bI, ← Int32.not_le] at *; simp [h2, h8, h14, h15, Int32.not_le.mpr h15]; done) | (simp_all [bI, h2, h8, h14, h15, Int32.not_le.mpr h15, pM, pU, heldM_45, gvW_45, inW_45, livN_45, sum9_45, sum13_45, groundE, groundR, groundU]; done) | (simp_all [bI, h2, h8, h14, h15, Int32.not_le.mpr h15, pM, pU, heldM_45, gvW_45, inW_45, livN_45, sum9_45, sum13_45, groundE, groundR, groundU]; rfl) | (exfalso; omega)), by first | rfl | (simp only [h2, h8, h14, h15, Int32.not_le.mpr h15, pM, pU, heldM_45, gvW_45, inW_45, livN_45, sum9_45, sum13_45, groundE, groundR, groundU, bI, pM, pU, n10, n20, n30, n0, if_true, if_false, ite_true, ite_false, not_true_eq_false, not_false_eq_true, and_true, true_and, and_false, false_and, or_true, true_or, or_false, false_or, reduceIte, and_self, or_self, ne_eq, eq_self_iff_true]; first | done | rfl) | (simp [bI, h2, h8, h14, h15, Int32.not_le.mpr h15, pM, pU, heldM_45, gvW_45, inW_45, livN_45, sum9_45, sum13_45, groundE, groundR, groundU]; done) | (simp only [pM, pU, heldM_45, gvW_45, inW_45, livN_45, sum9_45, sum13_45, groundE, groundR, groundU, bI, ← Int32.not_le] at *; simp [h2, h8, h14, h15, Int32.not_le.mpr h15]; done) | (simp_all [bI, h2, h8, h14, h15, Int32.not_le.mpr h15, pM, pU, heldM_45, gvW_45, inW_45, livN_45, sum9_45, sum13_45, groundE, groundR, groundU]; done) | (simp_all [bI, h2, h8, h14, h15, Int32.not_le.mpr h15, pM, pU, heldM_45, gvW_45, inW_45, livN_45, sum9_45, sum13_45, groundE, groundR, groundU]; rfl) | (exfalso; omega), by trivial⟩
        · skip
          refine v_aload_n C dX8_ground_55 rfl 1 rfl ?_
          refine v_get C (v := .int (t 8 0)) g_X8_141 (m0 (s := s) (t := t) (g := G.2.2.1) hL) (rg (by decide) rfl) dX8_ground_56 rfl ?_
          refine v_if_eq C (t := 66) dX8_ground_59 rfl rfl (fun h17 => ?_) (fun h17 => ?_)
          · skip
            refine v_iconst C (v := 0) dX8_ground_66 rfl rfl ?_
            refine w_invVr C [.int (0)] 0 0 L_X8_145 (c_X8_holdsTo (s := s) (t := t)  hst hG hL 0) (m0 (s := s) (t := t) (g := G.2.2.1) hL) rfl rfl rfl rfl dX8_ground_67 rfl kx_no (fun h18 => ?_)
            refine v_ifB_ne C (t := 75) dX8_ground_70 rfl rfl (fun _ => ?_) (fun h => absurd (by decide) h)
            refine v_aload_n C dX8_ground_75 rfl 1 rfl ?_
            refine v_get C (v := .ref (a 1 9)) g_X8_25 (m0 (s := s) (t := ((su t 45 0 0))) (g := G.2.2.1) hL) (rg (by decide) rfl) dX8_ground_76 rfl ?_
            refine v_iload_n C dX8_ground_79 rfl 2 rfl ?_
            refine v_iald C (len := 40) (m1 (s := s) (t := ((su t 45 0 0))) (g := G.2.2.1) hL 9 rfl) (vp_rng (n := 39) rfl (by decide) (by assumption)) dX8_ground_80 rfl ?_
            refine xx_top (y := t 9 (tn c)) rfl ?_
            refine v_istore C (lv1 := [(5, .int (t 9 (tn c))), (4, .int (1)), (0, .ref (a 0 0)), (1, .int (c)), (2, .int (m)), (3, .int (g))]) dX8_ground_81 rfl (by decide) rfl ?_
            refine v_aload_n C dX8_ground_83 rfl 2 rfl ?_
            refine v_get C (v := .ref (a 1 9)) g_X8_25 (m0 (s := s) (t := ((su t 45 0 0))) (g := G.2.2.1) hL) (rg (by decide) rfl) dX8_ground_84 rfl ?_
            refine v_iload_n C dX8_ground_87 rfl 3 rfl ?_
            refine v_iload_n C dX8_ground_88 rfl 4 rfl ?_
            refine v_iastE C (len := 40) (tn c) (put_m1 (s := s) (t := ((su t 45 0 0))) (g := G.2.2.1) hL 9 rfl (tn c) m) rfl (vp_rng (n := 39) rfl (by decide) (by assumption)) dX8_ground_89 rfl ?_
            refine v_aload_n C dX8_ground_90 rfl 2 rfl ?_
            refine v_get C (v := .ref (a 1 10)) g_X8_29 (m0 (s := s) (t := ((su (su t 45 0 0) 9 (tn c) m))) (g := G.2.2.1) hL) (rg (by decide) rfl) dX8_ground_91 rfl ?_
            refine v_iload_n C dX8_ground_94 rfl 3 rfl ?_
            refine v_iload_n C dX8_ground_95 rfl 5 rfl ?_
            refine v_iastE C (len := 40) (tn c) (put_m1 (s := s) (t := ((su (su t 45 0 0) 9 (tn c) m))) (g := G.2.2.1) hL 10 rfl (tn c) g) rfl (vp_rng (n := 39) rfl (by decide) (by assumption)) dX8_ground_96 rfl ?_
            refine v_iload C dX8_ground_97 rfl 0 rfl ?_
            exact v_iret C (by decide) (by decide) dX8_ground_99 ⟨congrArg (fun z => some (Value.int z)) (by first | rfl | (simp only [h2, h8, h14, h15, Int32.not_lt.mp h15, eq_true h17, pM, pU, heldM_45, gvW_45, inW_45, livN_45, sum9_45, sum13_45, groundE, groundR, groundU, bI, pM, pU, n10, n20, n30, n0, if_true, if_false, ite_true, ite_false, not_true_eq_false, not_false_eq_true, and_true, true_and, and_false, false_and, or_true, true_or, or_false, false_or, reduceIte, and_self, or_self, ne_eq, eq_self_iff_true]; first | done | rfl) | (simp [bI, h2, h8, h14, h15, Int32.not_lt.mp h15, eq_true h17, pM, pU, heldM_45, gvW_45, inW_45, livN_45, sum9_45, sum13_45, groundE, groundR, groundU]; done) | (simp only [pM, pU, heldM_45, gvW_45, inW_45, livN_45, sum9_45, sum13_45, groundE, groundR, groundU, bI, ← Int32.not_le] at *; simp [h2, h8, h14, h15, Int32.not_lt.mp h15, eq_true h17]; done) | (simp_all [bI, h2, h8, h14, h15, Int32.not_lt.mp h15, eq_true h17, pM, pU, heldM_45, gvW_45, inW_45, livN_45, sum9_45, sum13_45, groundE, groundR, groundU]; done) | (simp_all [bI, h2, h8, h14, h15, Int32.not_lt.mp h15, eq_true h17, pM, pU, heldM_45, gvW_45, inW_45, livN_45, sum9_45, sum13_45, groundE, groundR, groundU]; rfl) | (exfalso; omega)), by first | rfl | (simp only [h2, h8, h14, h15, Int32.not_lt.mp h15, eq_true h17, pM, pU, heldM_45, gvW_45, inW_45, livN_45, sum9_45, sum13_45, groundE, groundR, groundU, bI, pM, pU, n10, n20, n30, n0, if_true, if_false, ite_true, ite_false, not_true_eq_false, not_false_eq_true, and_true, true_and, and_false, false_and, or_true, true_or, or_false, false_or, reduceIte, and_self, or_self, ne_eq, eq_self_iff_true]; first | done | rfl) | (simp [bI, h2, h8, h14, h15, Int32.not_lt.mp h15, eq_true h17, pM, pU, heldM_45, gvW_45, inW_45, livN_45, sum9_45, sum13_45, groundE, groundR, groundU]; done) | (simp only [pM, pU, heldM_45, gvW_45, inW_45, livN_45, sum9_45, sum13_45, groundE, groundR, groundU, bI, ← Int32.not_le] at *; simp [h2, h8, h14, h15, Int32.not_lt.mp h15, eq_true h17]; done) | (simp_all [bI, h2, h8, h14, h15, Int32.not_lt.mp h15, eq_true h17, pM, pU, heldM_45, gvW_45, inW_45, livN_45, sum9_45, sum13_45, groundE, groundR, groundU]; done) | (simp_all [bI, h2, h8, h14, h15, Int32.not_lt.mp h15, eq_true h17, pM, pU, heldM_45, gvW_45, inW_45, livN_45, sum9_45, sum13_45, groundE, groundR, groundU]; rfl) | (exfalso; omega), by trivial⟩
          · skip
            refine v_iconst C (v := 3) dX8_ground_62 rfl rfl ?_
            refine v_goto C (q := 67) dX8_ground_63 rfl ?_
            refine w_invVr C [.int (3)] 0 0 L_X8_145 (c_X8_holdsTo (s := s) (t := t)  hst hG hL 3) (m0 (s := s) (t := t) (g := G.2.2.1) hL) rfl rfl rfl rfl dX8_ground_67 rfl kx_no (fun h19 => ?_)
            refine v_ifB_ne C (t := 75) dX8_ground_70 rfl rfl (fun h => absurd h (by decide)) (fun _ => ?_)
            refine v_iconst C (v := 0) dX8_ground_73 rfl rfl ?_
            exact v_iret C (by decide) (by decide) dX8_ground_74 ⟨congrArg (fun z => some (Value.int z)) (by first | rfl | (simp only [h2, h8, h14, h15, Int32.not_lt.mp h15, h17, pM, pU, heldM_45, gvW_45, inW_45, livN_45, sum9_45, sum13_45, groundE, groundR, groundU, bI, pM, pU, n10, n20, n30, n0, if_true, if_false, ite_true, ite_false, not_true_eq_false, not_false_eq_true, and_true, true_and, and_false, false_and, or_true, true_or, or_false, false_or, reduceIte, and_self, or_self, ne_eq, eq_self_iff_true]; first | done | rfl) | (simp [bI, h2, h8, h14, h15, Int32.not_lt.mp h15, h17, pM, pU, heldM_45, gvW_45, inW_45, livN_45, sum9_45, sum13_45, groundE, groundR, groundU]; done) | (simp only [pM, pU, heldM_45, gvW_45, inW_45, livN_45, sum9_45, sum13_45, groundE, groundR, groundU, bI, ← Int32.not_le] at *; simp [h2, h8, h14, h15, Int32.not_lt.mp h15, h17]; done) | (simp_all [bI, h2, h8, h14, h15, Int32.not_lt.mp h15, h17, pM, pU, heldM_45, gvW_45, inW_45, livN_45, sum9_45, sum13_45, groundE, groundR, groundU]; done) | (simp_all [bI, h2, h8, h14, h15, Int32.not_lt.mp h15, h17, pM, pU, heldM_45, gvW_45, inW_45, livN_45, sum9_45, sum13_45, groundE, groundR, groundU]; rfl) | (exfalso; omega)), by first | rfl | (simp only [h2, h8, h14, h15, Int32.not_lt.mp h15, h17, pM, pU, heldM_45, gvW_45, inW_45, livN_45, sum9_45, sum13_45, groundE, groundR, groundU, bI, pM, pU, n10, n20, n30, n0, if_true, if_false, ite_true, ite_false, not_true_eq_false, not_false_eq_true, and_true, true_and, and_false, false_and, or_true, true_or, or_false, false_or, reduceIte, and_self, or_self, ne_eq, eq_self_iff_true]; first | done | rfl) | (simp [bI, h2, h8, h14, h15, Int32.not_lt.mp h15, h17, pM, pU, heldM_45, gvW_45, inW_45, livN_45, sum9_45, sum13_45, groundE, groundR, groundU]; done) | (simp only [pM, pU, heldM_45, gvW_45, inW_45, livN_45, sum9_45, sum13_45, groundE, groundR, groundU, bI, ← Int32.not_le] at *; simp [h2, h8, h14, h15, Int32.not_lt.mp h15, h17]; done) | (simp_all [bI, h2, h8, h14, h15, Int32.not_lt.mp h15, h17, pM, pU, heldM_45, gvW_45, inW_45, livN_45, sum9_45, sum13_45, groundE, groundR, groundU]; done) | (simp_all [bI, h2, h8, h14, h15, Int32.not_lt.mp h15, h17, pM, pU, heldM_45, gvW_45, inW_45, livN_45, sum9_45, sum13_45, groundE, groundR, groundU]; rfl) | (exfalso; omega), by trivial⟩
      · skip
        refine v_iconst C (v := 1) dX8_ground_35 rfl rfl ?_
        refine v_goto C (q := 67) dX8_ground_36 rfl ?_
        refine w_invVr C [.int (1)] 0 0 L_X8_145 (c_X8_holdsTo (s := s) (t := t)  hst hG hL 1) (m0 (s := s) (t := t) (g := G.2.2.1) hL) rfl rfl rfl rfl dX8_ground_67 rfl kx_no (fun h20 => ?_)
        refine v_ifB_ne C (t := 75) dX8_ground_70 rfl rfl (fun h => absurd h (by decide)) (fun _ => ?_)
        refine v_iconst C (v := 0) dX8_ground_73 rfl rfl ?_
        exact v_iret C (by decide) (by decide) dX8_ground_74 ⟨congrArg (fun z => some (Value.int z)) (by first | rfl | (simp only [h2, h8, h14, pM, pU, heldM_45, gvW_45, inW_45, livN_45, sum9_45, sum13_45, groundE, groundR, groundU, bI, pM, pU, n10, n20, n30, n0, if_true, if_false, ite_true, ite_false, not_true_eq_false, not_false_eq_true, and_true, true_and, and_false, false_and, or_true, true_or, or_false, false_or, reduceIte, and_self, or_self, ne_eq, eq_self_iff_true]; first | done | rfl) | (simp [bI, h2, h8, h14, pM, pU, heldM_45, gvW_45, inW_45, livN_45, sum9_45, sum13_45, groundE, groundR, groundU]; done) | (simp only [pM, pU, heldM_45, gvW_45, inW_45, livN_45, sum9_45, sum13_45, groundE, groundR, groundU, bI, ← Int32.not_le] at *; simp [h2, h8, h14]; done) | (simp_all [bI, h2, h8, h14, pM, pU, heldM_45, gvW_45, inW_45, livN_45, sum9_45, sum13_45, groundE, groundR, groundU]; done) | (simp_all [bI, h2, h8, h14, pM, pU, heldM_45, gvW_45, inW_45, livN_45, sum9_45, sum13_45, groundE, groundR, groundU]; rfl) | (exfalso; omega)), by first | rfl | (simp only [h2, h8, h14, pM, pU, heldM_45, gvW_45, inW_45, livN_45, sum9_45, sum13_45, groundE, groundR, groundU, bI, pM, pU, n10, n20, n30, n0, if_true, if_false, ite_true, ite_false, not_true_eq_false, not_false_eq_true, and_true, true_and, and_false, false_and, or_true, true_or, or_false, false_or, reduceIte, and_self, or_self, ne_eq, eq_self_iff_true]; first | done | rfl) | (simp [bI, h2, h8, h14, pM, pU, heldM_45, gvW_45, inW_45, livN_45, sum9_45, sum13_45, groundE, groundR, groundU]; done) | (simp only [pM, pU, heldM_45, gvW_45, inW_45, livN_45, sum9_45, sum13_45, groundE, groundR, groundU, bI, ← Int32.not_le] at *; simp [h2, h8, h14]; done) | (simp_all [bI, h2, h8, h14, pM, pU, heldM_45, gvW_45, inW_45, livN_45, sum9_45, sum13_45, groundE, groundR, groundU]; done) | (simp_all [bI, h2, h8, h14, pM, pU, heldM_45, gvW_45, inW_45, livN_45, sum9_45, sum13_45, groundE, groundR, groundU]; rfl) | (exfalso; omega), by trivial⟩

abbrev r_X8_flow : Room := { frames := 1, cells := 0, slots := 0, locals := 22 }
set_option maxRecDepth 4000 in
theorem c_X8_flow {l : Launch} {G : GG} {a : AD} {s t s0 : SS} {L : List (Nat × Nat)}  (hst : l.stackTraces = false) (hG : GOK G) (hL : Live L s0) (x : Int32)  : Mth l yX8_flow cX8_flow 3 (Option.some Jvm.ClassFile.FieldType.int) r_X8_flow G (wl a (E G.2.2.1 a s t) L) [.ref (a 0 0), .int x] (RI (.int (pM (flowE t x) (flowR t x))) (wl a (E G.2.2.1 a s (pU (flowE t x) (flowU (su t 45 0 0) x) t)) L) (True)) nX := by
  refine mth_of rfl (Nat.le_of_ble_eq_true rfl) hst hG (fun X hX C0 => ?_)
  subst hX
  have C : Cx X G cX8_flow 3 RX8 (Option.some Jvm.ClassFile.FieldType.int) r_X8_flow "flow" [] := C0
  clear C0
  show V X G 3 _ 0 0 _ 0 [(0, .ref (a 0 0)), (1, .int (x))] []
  refine v_aload_n C dX8_flow_0 rfl 0 rfl ?_
  refine v_iload_n C dX8_flow_1 rfl 1 rfl ?_
  refine v_iconst C (v := 0) dX8_flow_2 rfl rfl ?_
  refine v_sipush C (v := 1000) dX8_flow_3 rfl rfl ?_
  refine w_invSr C [.int (x), .int (0), .int (1000)] 0 0 L_X8_123 (c_X8_isIn (s := s) (t := t)  hst hG hL x 0 1000) rfl rfl rfl dX8_flow_6 rfl kx_no (fun h1 => ?_)
  refine v_ifB_eq C (t := 16) dX8_flow_9 rfl rfl (fun h2 => ?_) (fun h2 => ?_)
  · skip
    refine v_iconst C (v := 1) dX8_flow_16 rfl rfl ?_
    refine w_invVr C [.int (1)] 0 0 L_X8_145 (c_X8_holdsTo (s := s) (t := t)  hst hG hL 1) (m0 (s := s) (t := t) (g := G.2.2.1) hL) rfl rfl rfl rfl dX8_flow_17 rfl kx_no (fun h3 => ?_)
    refine v_ifB_ne C (t := 25) dX8_flow_20 rfl rfl (fun h => absurd h (by decide)) (fun _ => ?_)
    refine v_iconst C (v := 0) dX8_flow_23 rfl rfl ?_
    exact v_iret C (by decide) (by decide) dX8_flow_24 ⟨congrArg (fun z => some (Value.int z)) (by first | rfl | (simp only [h2, pM, pU, heldM_45, gvW_45, inW_45, livN_45, sum9_45, sum13_45, flowE, flowR, flowU, bI, pM, pU, n10, n20, n30, n0, if_true, if_false, ite_true, ite_false, not_true_eq_false, not_false_eq_true, and_true, true_and, and_false, false_and, or_true, true_or, or_false, false_or, reduceIte, and_self, or_self, ne_eq, eq_self_iff_true]; first | done | rfl) | (simp [bI, h2, pM, pU, heldM_45, gvW_45, inW_45, livN_45, sum9_45, sum13_45, flowE, flowR, flowU]; done) | (simp only [pM, pU, heldM_45, gvW_45, inW_45, livN_45, sum9_45, sum13_45, flowE, flowR, flowU, bI, ← Int32.not_le] at *; simp [h2]; done) | (simp_all [bI, h2, pM, pU, heldM_45, gvW_45, inW_45, livN_45, sum9_45, sum13_45, flowE, flowR, flowU]; done) | (simp_all [bI, h2, pM, pU, heldM_45, gvW_45, inW_45, livN_45, sum9_45, sum13_45, flowE, flowR, flowU]; rfl) | (exfalso; omega)), by first | rfl | (simp only [h2, pM, pU, heldM_45, gvW_45, inW_45, livN_45, sum9_45, sum13_45, flowE, flowR, flowU, bI, pM, pU, n10, n20, n30, n0, if_true, if_false, ite_true, ite_false, not_true_eq_false, not_false_eq_true, and_true, true_and, and_false, false_and, or_true, true_or, or_false, false_or, reduceIte, and_self, or_self, ne_eq, eq_self_iff_true]; first | done | rfl) | (simp [bI, h2, pM, pU, heldM_45, gvW_45, inW_45, livN_45, sum9_45, sum13_45, flowE, flowR, flowU]; done) | (simp only [pM, pU, heldM_45, gvW_45, inW_45, livN_45, sum9_45, sum13_45, flowE, flowR, flowU, bI, ← Int32.not_le] at *; simp [h2]; done) | (simp_all [bI, h2, pM, pU, heldM_45, gvW_45, inW_45, livN_45, sum9_45, sum13_45, flowE, flowR, flowU]; done) | (simp_all [bI, h2, pM, pU, heldM_45, gvW_45, inW_45, livN_45, sum9_45, sum13_45, flowE, flowR, flowU]; rfl) | (exfalso; omega), by trivial⟩
  · skip
    refine v_iconst C (v := 0) dX8_flow_12 rfl rfl ?_
    refine v_goto C (q := 17) dX8_flow_13 rfl ?_
    refine w_invVr C [.int (0)] 0 0 L_X8_145 (c_X8_holdsTo (s := s) (t := t)  hst hG hL 0) (m0 (s := s) (t := t) (g := G.2.2.1) hL) rfl rfl rfl rfl dX8_flow_17 rfl kx_no (fun h4 => ?_)
    refine v_ifB_ne C (t := 25) dX8_flow_20 rfl rfl (fun _ => ?_) (fun h => absurd (by decide) h)
    refine v_aload_n C dX8_flow_25 rfl 0 rfl ?_
    refine v_get C (v := .int (t 1 0)) g_X8_7 (m0 (s := s) (t := ((su t 45 0 0))) (g := G.2.2.1) hL) (rg (by decide) rfl) dX8_flow_26 rfl ?_
    refine v_istore_n C (lv1 := [(2, .int (t 1 0)), (0, .ref (a 0 0)), (1, .int (x))]) dX8_flow_29 rfl (by decide) rfl ?_
    refine v_aload_n C dX8_flow_30 rfl 1 rfl ?_
    refine v_iload_n C dX8_flow_31 rfl 2 rfl ?_
    refine v_put C f_X8_7 (put_m0 (s := s) (t := ((su t 45 0 0))) (g := G.2.2.1) hL 1 rfl x) rfl rfl (rg_len (by decide)) dX8_flow_32 rfl ?_
    refine v_iload_n C dX8_flow_35 rfl 0 rfl ?_
    exact v_iret C (by decide) (by decide) dX8_flow_36 ⟨congrArg (fun z => some (Value.int z)) (by first | rfl | (simp only [h2, pM, pU, heldM_45, gvW_45, inW_45, livN_45, sum9_45, sum13_45, flowE, flowR, flowU, bI, pM, pU, n10, n20, n30, n0, if_true, if_false, ite_true, ite_false, not_true_eq_false, not_false_eq_true, and_true, true_and, and_false, false_and, or_true, true_or, or_false, false_or, reduceIte, and_self, or_self, ne_eq, eq_self_iff_true]; first | done | rfl) | (simp [bI, h2, pM, pU, heldM_45, gvW_45, inW_45, livN_45, sum9_45, sum13_45, flowE, flowR, flowU]; done) | (simp only [pM, pU, heldM_45, gvW_45, inW_45, livN_45, sum9_45, sum13_45, flowE, flowR, flowU, bI, ← Int32.not_le] at *; simp [h2]; done) | (simp_all [bI, h2, pM, pU, heldM_45, gvW_45, inW_45, livN_45, sum9_45, sum13_45, flowE, flowR, flowU]; done) | (simp_all [bI, h2, pM, pU, heldM_45, gvW_45, inW_45, livN_45, sum9_45, sum13_45, flowE, flowR, flowU]; rfl) | (exfalso; omega)), by first | rfl | (simp only [h2, pM, pU, heldM_45, gvW_45, inW_45, livN_45, sum9_45, sum13_45, flowE, flowR, flowU, bI, pM, pU, n10, n20, n30, n0, if_true, if_false, ite_true, ite_false, not_true_eq_false, not_false_eq_true, and_true, true_and, and_false, false_and, or_true, true_or, or_false, false_or, reduceIte, and_self, or_self, ne_eq, eq_self_iff_true]; first | done | rfl) | (simp [bI, h2, pM, pU, heldM_45, gvW_45, inW_45, livN_45, sum9_45, sum13_45, flowE, flowR, flowU]; done) | (simp only [pM, pU, heldM_45, gvW_45, inW_45, livN_45, sum9_45, sum13_45, flowE, flowR, flowU, bI, ← Int32.not_le] at *; simp [h2]; done) | (simp_all [bI, h2, pM, pU, heldM_45, gvW_45, inW_45, livN_45, sum9_45, sum13_45, flowE, flowR, flowU]; done) | (simp_all [bI, h2, pM, pU, heldM_45, gvW_45, inW_45, livN_45, sum9_45, sum13_45, flowE, flowR, flowU]; rfl) | (exfalso; omega), by trivial⟩

abbrev r_X8_miner : Room := { frames := 1, cells := 0, slots := 0, locals := 22 }
set_option maxRecDepth 4000 in
theorem c_X8_miner {l : Launch} {G : GG} {a : AD} {s t s0 : SS} {L : List (Nat × Nat)} {nm : Nat} (hst : l.stackTraces = false) (hG : GOK G) (hL : Live L s0) (f : Int32) (c : Int32) (hm : t 12 0 = nI nm) (hm12 : nm ≤ 12) : Mth l yX8_miner cX8_miner 4 (Option.some Jvm.ClassFile.FieldType.int) r_X8_miner G (wl a (E G.2.2.1 a s t) L) [.ref (a 0 0), .int f, .int c] (RI (.int (pM (minerE t nm f c) (minerR t nm f c))) (wl a (E G.2.2.1 a s (pU (minerE t nm f c) (minerU (su t 45 0 0) nm f c) t)) L) (True)) nX := by
  refine mth_of rfl (Nat.le_of_ble_eq_true rfl) hst hG (fun X hX C0 => ?_)
  subst hX
  have C : Cx X G cX8_miner 4 RX8 (Option.some Jvm.ClassFile.FieldType.int) r_X8_miner "miner" [] := C0
  clear C0
  show V X G 4 _ 0 0 _ 0 [(0, .ref (a 0 0)), (1, .int (f)), (2, .int (c))] []
  refine v_iload_n C dX8_miner_0 rfl 1 rfl ?_
  refine v_iconst C (v := 0) dX8_miner_1 rfl rfl ?_
  refine v_sipush C (v := 1000) dX8_miner_2 rfl rfl ?_
  refine w_invSr C [.int (f), .int (0), .int (1000)] 0 0 L_X8_123 (c_X8_isIn (s := s) (t := t)  hst hG hL f 0 1000) rfl rfl rfl dX8_miner_5 rfl kx_no (fun h1 => ?_)
  refine v_ifB_eq C (t := 25) dX8_miner_8 rfl rfl (fun h2 => ?_) (fun h2 => ?_)
  · skip
    refine v_iconst C (v := 0) dX8_miner_25 rfl rfl ?_
    refine v_istore_n C (lv1 := [(3, .int (0)), (0, .ref (a 0 0)), (1, .int (f)), (2, .int (c))]) dX8_miner_26 rfl (by decide) rfl ?_
    refine v_aload_n C dX8_miner_27 rfl 1 rfl ?_
    refine v_iload_n C dX8_miner_28 rfl 0 rfl ?_
    refine v_if_ne C (t := 36) dX8_miner_29 rfl rfl (fun h => absurd h (by decide)) (fun _ => ?_)
    refine v_iconst C (v := 1) dX8_miner_32 rfl rfl ?_
    refine v_goto C (q := 50) dX8_miner_33 rfl ?_
    refine w_invVr C [.int (1)] 0 0 L_X8_145 (c_X8_holdsTo (s := s) (t := t)  hst hG hL 1) (m0 (s := s) (t := t) (g := G.2.2.1) hL) rfl rfl rfl rfl dX8_miner_50 rfl kx_no (fun h3 => ?_)
    refine v_ifB_ne C (t := 58) dX8_miner_53 rfl rfl (fun h => absurd h (by decide)) (fun _ => ?_)
    refine v_iconst C (v := 0) dX8_miner_56 rfl rfl ?_
    exact v_iret C (by decide) (by decide) dX8_miner_57 ⟨congrArg (fun z => some (Value.int z)) (by first | rfl | (simp only [h2, pM, pU, heldM_45, gvW_45, inW_45, livN_45, sum9_45, sum13_45, minerE, minerR, minerU, bI, pM, pU, n10, n20, n30, n0, if_true, if_false, ite_true, ite_false, not_true_eq_false, not_false_eq_true, and_true, true_and, and_false, false_and, or_true, true_or, or_false, false_or, reduceIte, and_self, or_self, ne_eq, eq_self_iff_true]; first | done | rfl) | (simp [bI, h2, pM, pU, heldM_45, gvW_45, inW_45, livN_45, sum9_45, sum13_45, minerE, minerR, minerU]; done) | (simp only [pM, pU, heldM_45, gvW_45, inW_45, livN_45, sum9_45, sum13_45, minerE, minerR, minerU, bI, ← Int32.not_le] at *; simp [h2]; done) | (simp_all [bI, h2, pM, pU, heldM_45, gvW_45, inW_45, livN_45, sum9_45, sum13_45, minerE, minerR, minerU]; done) | (simp_all [bI, h2, pM, pU, heldM_45, gvW_45, inW_45, livN_45, sum9_45, sum13_45, minerE, minerR, minerU]; rfl) | (exfalso; omega)), by first | rfl | (simp only [h2, pM, pU, heldM_45, gvW_45, inW_45, livN_45, sum9_45, sum13_45, minerE, minerR, minerU, bI, pM, pU, n10, n20, n30, n0, if_true, if_false, ite_true, ite_false, not_true_eq_false, not_false_eq_true, and_true, true_and, and_false, false_and, or_true, true_or, or_false, false_or, reduceIte, and_self, or_self, ne_eq, eq_self_iff_true]; first | done | rfl) | (simp [bI, h2, pM, pU, heldM_45, gvW_45, inW_45, livN_45, sum9_45, sum13_45, minerE, minerR, minerU]; done) | (simp only [pM, pU, heldM_45, gvW_45, inW_45, livN_45, sum9_45, sum13_45, minerE, minerR, minerU, bI, ← Int32.not_le] at *; simp [h2]; done) | (simp_all [bI, h2, pM, pU, heldM_45, gvW_45, inW_45, livN_45, sum9_45, sum13_45, minerE, minerR, minerU]; done) | (simp_all [bI, h2, pM, pU, heldM_45, gvW_45, inW_45, livN_45, sum9_45, sum13_45, minerE, minerR, minerU]; rfl) | (exfalso; omega), by trivial⟩
  · skip
    refine v_iload_n C dX8_miner_11 rfl 2 rfl ?_
    refine v_iconst C (v := 0) dX8_miner_12 rfl rfl ?_
    refine v_ldc C (v := 100000) dX8_miner_13 rfl N_X8_133 ?_
    refine w_invSr C [.int (c), .int (0), .int (100000)] 0 0 L_X8_123 (c_X8_isIn (s := s) (t := t)  hst hG hL c 0 100000) rfl rfl rfl dX8_miner_15 rfl kx_no (fun h4 => ?_)
    refine v_ifB_eq C (t := 25) dX8_miner_18 rfl rfl (fun h5 => ?_) (fun h5 => ?_)
    · skip
      refine v_iconst C (v := 0) dX8_miner_25 rfl rfl ?_
      refine v_istore_n C (lv1 := [(3, .int (0)), (0, .ref (a 0 0)), (1, .int (f)), (2, .int (c))]) dX8_miner_26 rfl (by decide) rfl ?_
      refine v_aload_n C dX8_miner_27 rfl 1 rfl ?_
      refine v_iload_n C dX8_miner_28 rfl 0 rfl ?_
      refine v_if_ne C (t := 36) dX8_miner_29 rfl rfl (fun h => absurd h (by decide)) (fun _ => ?_)
      refine v_iconst C (v := 1) dX8_miner_32 rfl rfl ?_
      refine v_goto C (q := 50) dX8_miner_33 rfl ?_
      refine w_invVr C [.int (1)] 0 0 L_X8_145 (c_X8_holdsTo (s := s) (t := t)  hst hG hL 1) (m0 (s := s) (t := t) (g := G.2.2.1) hL) rfl rfl rfl rfl dX8_miner_50 rfl kx_no (fun h6 => ?_)
      refine v_ifB_ne C (t := 58) dX8_miner_53 rfl rfl (fun h => absurd h (by decide)) (fun _ => ?_)
      refine v_iconst C (v := 0) dX8_miner_56 rfl rfl ?_
      exact v_iret C (by decide) (by decide) dX8_miner_57 ⟨congrArg (fun z => some (Value.int z)) (by first | rfl | (simp only [h2, h5, pM, pU, heldM_45, gvW_45, inW_45, livN_45, sum9_45, sum13_45, minerE, minerR, minerU, bI, pM, pU, n10, n20, n30, n0, if_true, if_false, ite_true, ite_false, not_true_eq_false, not_false_eq_true, and_true, true_and, and_false, false_and, or_true, true_or, or_false, false_or, reduceIte, and_self, or_self, ne_eq, eq_self_iff_true]; first | done | rfl) | (simp [bI, h2, h5, pM, pU, heldM_45, gvW_45, inW_45, livN_45, sum9_45, sum13_45, minerE, minerR, minerU]; done) | (simp only [pM, pU, heldM_45, gvW_45, inW_45, livN_45, sum9_45, sum13_45, minerE, minerR, minerU, bI, ← Int32.not_le] at *; simp [h2, h5]; done) | (simp_all [bI, h2, h5, pM, pU, heldM_45, gvW_45, inW_45, livN_45, sum9_45, sum13_45, minerE, minerR, minerU]; done) | (simp_all [bI, h2, h5, pM, pU, heldM_45, gvW_45, inW_45, livN_45, sum9_45, sum13_45, minerE, minerR, minerU]; rfl) | (exfalso; omega)), by first | rfl | (simp only [h2, h5, pM, pU, heldM_45, gvW_45, inW_45, livN_45, sum9_45, sum13_45, minerE, minerR, minerU, bI, pM, pU, n10, n20, n30, n0, if_true, if_false, ite_true, ite_false, not_true_eq_false, not_false_eq_true, and_true, true_and, and_false, false_and, or_true, true_or, or_false, false_or, reduceIte, and_self, or_self, ne_eq, eq_self_iff_true]; first | done | rfl) | (simp [bI, h2, h5, pM, pU, heldM_45, gvW_45, inW_45, livN_45, sum9_45, sum13_45, minerE, minerR, minerU]; done) | (simp only [pM, pU, heldM_45, gvW_45, inW_45, livN_45, sum9_45, sum13_45, minerE, minerR, minerU, bI, ← Int32.not_le] at *; simp [h2, h5]; done) | (simp_all [bI, h2, h5, pM, pU, heldM_45, gvW_45, inW_45, livN_45, sum9_45, sum13_45, minerE, minerR, minerU]; done) | (simp_all [bI, h2, h5, pM, pU, heldM_45, gvW_45, inW_45, livN_45, sum9_45, sum13_45, minerE, minerR, minerU]; rfl) | (exfalso; omega), by trivial⟩
    · skip
      refine v_iconst C (v := 1) dX8_miner_21 rfl rfl ?_
      refine v_goto C (q := 26) dX8_miner_22 rfl ?_
      refine v_istore_n C (lv1 := [(3, .int (1)), (0, .ref (a 0 0)), (1, .int (f)), (2, .int (c))]) dX8_miner_26 rfl (by decide) rfl ?_
      refine v_aload_n C dX8_miner_27 rfl 1 rfl ?_
      refine v_iload_n C dX8_miner_28 rfl 0 rfl ?_
      refine v_if_ne C (t := 36) dX8_miner_29 rfl rfl (fun _ => ?_) (fun h => absurd h (by decide))
      refine v_aload_n C dX8_miner_36 rfl 1 rfl ?_
      refine v_get C (v := .int (t 12 0)) g_X8_127 (m0 (s := s) (t := t) (g := G.2.2.1) hL) (rg (by decide) rfl) dX8_miner_37 rfl ?_
      refine xx_top (y := nI nm) hm ?_
      refine v_bipush C (v := 12) dX8_miner_40 rfl rfl ?_
      refine v_icN_ne C (t := 49) nm 12 rfl rfl (by omega) (by omega) dX8_miner_42 rfl rfl (fun h7 => ?_) (fun h7 => ?_)
      · skip
        refine v_iconst C (v := 0) dX8_miner_49 rfl rfl ?_
        refine w_invVr C [.int (0)] 0 0 L_X8_145 (c_X8_holdsTo (s := s) (t := t)  hst hG hL 0) (m0 (s := s) (t := t) (g := G.2.2.1) hL) rfl rfl rfl rfl dX8_miner_50 rfl kx_no (fun h8 => ?_)
        refine v_ifB_ne C (t := 58) dX8_miner_53 rfl rfl (fun _ => ?_) (fun h => absurd (by decide) h)
        refine v_aload_n C dX8_miner_58 rfl 1 rfl ?_
        refine v_get C (v := .ref (a 1 15)) g_X8_41 (m0 (s := s) (t := ((su t 45 0 0))) (g := G.2.2.1) hL) (rg (by decide) rfl) dX8_miner_59 rfl ?_
        refine v_aload_n C dX8_miner_62 rfl 1 rfl ?_
        refine v_get C (v := .int (t 12 0)) g_X8_127 (m0 (s := s) (t := ((su t 45 0 0))) (g := G.2.2.1) hL) (rg (by decide) rfl) dX8_miner_63 rfl ?_
        refine xx_top (y := nI nm) hm ?_
        refine v_iload_n C dX8_miner_66 rfl 2 rfl ?_
        refine v_iastE C (len := 12) nm (put_m1 (s := s) (t := ((su t 45 0 0))) (g := G.2.2.1) hL 15 rfl nm f) (nI_clamp (by omega)) (pk_in nm 12 (by omega)) dX8_miner_67 rfl ?_
        refine v_aload_n C dX8_miner_68 rfl 1 rfl ?_
        refine v_get C (v := .ref (a 1 16)) g_X8_44 (m0 (s := s) (t := ((su (su t 45 0 0) 15 nm f))) (g := G.2.2.1) hL) (rg (by decide) rfl) dX8_miner_69 rfl ?_
        refine v_aload_n C dX8_miner_72 rfl 1 rfl ?_
        refine v_get C (v := .int (t 12 0)) g_X8_127 (m0 (s := s) (t := ((su (su t 45 0 0) 15 nm f))) (g := G.2.2.1) hL) (rg (by decide) rfl) dX8_miner_73 rfl ?_
        refine xx_top (y := nI nm) hm ?_
        refine v_iload_n C dX8_miner_76 rfl 3 rfl ?_
        refine v_iastE C (len := 12) nm (put_m1 (s := s) (t := ((su (su t 45 0 0) 15 nm f))) (g := G.2.2.1) hL 16 rfl nm c) (nI_clamp (by omega)) (pk_in nm 12 (by omega)) dX8_miner_77 rfl ?_
        refine v_aload_n C dX8_miner_78 rfl 1 rfl ?_
        refine v_get C (v := .ref (a 1 17)) g_X8_47 (m0 (s := s) (t := ((su (su (su t 45 0 0) 15 nm f) 16 nm c))) (g := G.2.2.1) hL) (rg (by decide) rfl) dX8_miner_79 rfl ?_
        refine v_aload_n C dX8_miner_82 rfl 1 rfl ?_
        refine v_get C (v := .int (t 12 0)) g_X8_127 (m0 (s := s) (t := ((su (su (su t 45 0 0) 15 nm f) 16 nm c))) (g := G.2.2.1) hL) (rg (by decide) rfl) dX8_miner_83 rfl ?_
        refine xx_top (y := nI nm) hm ?_
        refine v_bipush C (v := 10) dX8_miner_86 rfl rfl ?_
        refine v_iastE C (len := 12) nm (put_m1 (s := s) (t := ((su (su (su t 45 0 0) 15 nm f) 16 nm c))) (g := G.2.2.1) hL 17 rfl nm 10) (nI_clamp (by omega)) (pk_in nm 12 (by omega)) dX8_miner_88 rfl ?_
        refine v_aload_n C dX8_miner_89 rfl 1 rfl ?_
        refine v_get C (v := .ref (a 1 19)) g_X8_53 (m0 (s := s) (t := ((su (su (su (su t 45 0 0) 15 nm f) 16 nm c) 17 nm 10))) (g := G.2.2.1) hL) (rg (by decide) rfl) dX8_miner_90 rfl ?_
        refine v_aload_n C dX8_miner_93 rfl 1 rfl ?_
        refine v_get C (v := .int (t 12 0)) g_X8_127 (m0 (s := s) (t := ((su (su (su (su t 45 0 0) 15 nm f) 16 nm c) 17 nm 10))) (g := G.2.2.1) hL) (rg (by decide) rfl) dX8_miner_94 rfl ?_
        refine xx_top (y := nI nm) hm ?_
        refine v_iconst C (v := (-1)) dX8_miner_97 rfl rfl ?_
        refine v_iastE C (len := 12) nm (put_m1 (s := s) (t := ((su (su (su (su t 45 0 0) 15 nm f) 16 nm c) 17 nm 10))) (g := G.2.2.1) hL 19 rfl nm ((-1))) (nI_clamp (by omega)) (pk_in nm 12 (by omega)) dX8_miner_98 rfl ?_
        refine v_aload_n C dX8_miner_99 rfl 1 rfl ?_
        refine v_dup C dX8_miner_100 rfl rfl ?_
        refine v_get C (v := .int (t 12 0)) g_X8_127 (m0 (s := s) (t := ((su (su (su (su (su t 45 0 0) 15 nm f) 16 nm c) 17 nm 10) 19 nm ((-1))))) (g := G.2.2.1) hL) (rg (by decide) rfl) dX8_miner_101 rfl ?_
        refine xx_top (y := nI nm) hm ?_
        refine v_iconst C (v := 1) dX8_miner_104 rfl rfl ?_
        refine v_iaddN C nm 1 rfl rfl dX8_miner_105 rfl ?_
        refine v_put C f_X8_127 (put_m0 (s := s) (t := ((su (su (su (su (su t 45 0 0) 15 nm f) 16 nm c) 17 nm 10) 19 nm ((-1))))) (g := G.2.2.1) hL 12 rfl (nI (nm + 1))) rfl rfl (rg_len (by decide)) dX8_miner_106 rfl ?_
        refine v_aload_n C dX8_miner_109 rfl 1 rfl ?_
        refine v_get C (v := .int (nI (nm + 1))) g_X8_127 (m0 (s := s) (t := ((su (su (su (su (su (su t 45 0 0) 15 nm f) 16 nm c) 17 nm 10) 19 nm ((-1))) 12 0 (nI (nm + 1))))) (g := G.2.2.1) hL) (rg (by decide) rfl) dX8_miner_110 rfl ?_
        refine v_iconst C (v := 1) dX8_miner_113 rfl rfl ?_
        refine v_isubN C (nm + 1) 1 (by omega) rfl rfl dX8_miner_114 rfl ?_
        exact v_iret C (by decide) (by decide) dX8_miner_115 ⟨congrArg (fun z => some (Value.int z)) (by first | rfl | (simp only [h2, h5, h7, pM, pU, heldM_45, gvW_45, inW_45, livN_45, sum9_45, sum13_45, minerE, minerR, minerU, bI, pM, pU, n10, n20, n30, n0, if_true, if_false, ite_true, ite_false, not_true_eq_false, not_false_eq_true, and_true, true_and, and_false, false_and, or_true, true_or, or_false, false_or, reduceIte, and_self, or_self, ne_eq, eq_self_iff_true]; first | done | rfl) | (simp [bI, h2, h5, h7, pM, pU, heldM_45, gvW_45, inW_45, livN_45, sum9_45, sum13_45, minerE, minerR, minerU]; done) | (simp only [pM, pU, heldM_45, gvW_45, inW_45, livN_45, sum9_45, sum13_45, minerE, minerR, minerU, bI, ← Int32.not_le] at *; simp [h2, h5, h7]; done) | (simp_all [bI, h2, h5, h7, pM, pU, heldM_45, gvW_45, inW_45, livN_45, sum9_45, sum13_45, minerE, minerR, minerU]; done) | (simp_all [bI, h2, h5, h7, pM, pU, heldM_45, gvW_45, inW_45, livN_45, sum9_45, sum13_45, minerE, minerR, minerU]; rfl) | (exfalso; omega)), by first | rfl | (simp only [h2, h5, h7, pM, pU, heldM_45, gvW_45, inW_45, livN_45, sum9_45, sum13_45, minerE, minerR, minerU, bI, pM, pU, n10, n20, n30, n0, if_true, if_false, ite_true, ite_false, not_true_eq_false, not_false_eq_true, and_true, true_and, and_false, false_and, or_true, true_or, or_false, false_or, reduceIte, and_self, or_self, ne_eq, eq_self_iff_true]; first | done | rfl) | (simp [bI, h2, h5, h7, pM, pU, heldM_45, gvW_45, inW_45, livN_45, sum9_45, sum13_45, minerE, minerR, minerU]; done) | (simp only [pM, pU, heldM_45, gvW_45, inW_45, livN_45, sum9_45, sum13_45, minerE, minerR, minerU, bI, ← Int32.not_le] at *; simp [h2, h5, h7]; done) | (simp_all [bI, h2, h5, h7, pM, pU, heldM_45, gvW_45, inW_45, livN_45, sum9_45, sum13_45, minerE, minerR, minerU]; done) | (simp_all [bI, h2, h5, h7, pM, pU, heldM_45, gvW_45, inW_45, livN_45, sum9_45, sum13_45, minerE, minerR, minerU]; rfl) | (exfalso; omega), by trivial⟩
      · skip
        refine v_iconst C (v := 2) dX8_miner_45 rfl rfl ?_
        refine v_goto C (q := 50) dX8_miner_46 rfl ?_
        refine w_invVr C [.int (2)] 0 0 L_X8_145 (c_X8_holdsTo (s := s) (t := t)  hst hG hL 2) (m0 (s := s) (t := t) (g := G.2.2.1) hL) rfl rfl rfl rfl dX8_miner_50 rfl kx_no (fun h9 => ?_)
        refine v_ifB_ne C (t := 58) dX8_miner_53 rfl rfl (fun h => absurd h (by decide)) (fun _ => ?_)
        refine v_iconst C (v := 0) dX8_miner_56 rfl rfl ?_
        exact v_iret C (by decide) (by decide) dX8_miner_57 ⟨congrArg (fun z => some (Value.int z)) (by first | rfl | (simp only [h2, h5, eq_true h7, pM, pU, heldM_45, gvW_45, inW_45, livN_45, sum9_45, sum13_45, minerE, minerR, minerU, bI, pM, pU, n10, n20, n30, n0, if_true, if_false, ite_true, ite_false, not_true_eq_false, not_false_eq_true, and_true, true_and, and_false, false_and, or_true, true_or, or_false, false_or, reduceIte, and_self, or_self, ne_eq, eq_self_iff_true]; first | done | rfl) | (simp [bI, h2, h5, eq_true h7, pM, pU, heldM_45, gvW_45, inW_45, livN_45, sum9_45, sum13_45, minerE, minerR, minerU]; done) | (simp only [pM, pU, heldM_45, gvW_45, inW_45, livN_45, sum9_45, sum13_45, minerE, minerR, minerU, bI, ← Int32.not_le] at *; simp [h2, h5, eq_true h7]; done) | (simp_all [bI, h2, h5, eq_true h7, pM, pU, heldM_45, gvW_45, inW_45, livN_45, sum9_45, sum13_45, minerE, minerR, minerU]; done) | (simp_all [bI, h2, h5, eq_true h7, pM, pU, heldM_45, gvW_45, inW_45, livN_45, sum9_45, sum13_45, minerE, minerR, minerU]; rfl) | (exfalso; omega)), by first | rfl | (simp only [h2, h5, eq_true h7, pM, pU, heldM_45, gvW_45, inW_45, livN_45, sum9_45, sum13_45, minerE, minerR, minerU, bI, pM, pU, n10, n20, n30, n0, if_true, if_false, ite_true, ite_false, not_true_eq_false, not_false_eq_true, and_true, true_and, and_false, false_and, or_true, true_or, or_false, false_or, reduceIte, and_self, or_self, ne_eq, eq_self_iff_true]; first | done | rfl) | (simp [bI, h2, h5, eq_true h7, pM, pU, heldM_45, gvW_45, inW_45, livN_45, sum9_45, sum13_45, minerE, minerR, minerU]; done) | (simp only [pM, pU, heldM_45, gvW_45, inW_45, livN_45, sum9_45, sum13_45, minerE, minerR, minerU, bI, ← Int32.not_le] at *; simp [h2, h5, eq_true h7]; done) | (simp_all [bI, h2, h5, eq_true h7, pM, pU, heldM_45, gvW_45, inW_45, livN_45, sum9_45, sum13_45, minerE, minerR, minerU]; done) | (simp_all [bI, h2, h5, eq_true h7, pM, pU, heldM_45, gvW_45, inW_45, livN_45, sum9_45, sum13_45, minerE, minerR, minerU]; rfl) | (exfalso; omega), by trivial⟩

abbrev r_X8_rate : Room := { frames := 1, cells := 0, slots := 0, locals := 22 }
set_option maxRecDepth 4000 in
theorem c_X8_rate {l : Launch} {G : GG} {a : AD} {s t s0 : SS} {L : List (Nat × Nat)}  (hst : l.stackTraces = false) (hG : GOK G) (hL : Live L s0) (x : Int32)  : Mth l yX8_rate cX8_rate 3 (Option.some Jvm.ClassFile.FieldType.int) r_X8_rate G (wl a (E G.2.2.1 a s t) L) [.ref (a 0 0), .int x] (RI (.int (pM (rateE t x) (rateR t x))) (wl a (E G.2.2.1 a s (pU (rateE t x) (rateU (su t 45 0 0) x) t)) L) (True)) nX := by
  refine mth_of rfl (Nat.le_of_ble_eq_true rfl) hst hG (fun X hX C0 => ?_)
  subst hX
  have C : Cx X G cX8_rate 3 RX8 (Option.some Jvm.ClassFile.FieldType.int) r_X8_rate "rate" [] := C0
  clear C0
  show V X G 3 _ 0 0 _ 0 [(0, .ref (a 0 0)), (1, .int (x))] []
  refine v_aload_n C dX8_rate_0 rfl 0 rfl ?_
  refine v_iload_n C dX8_rate_1 rfl 1 rfl ?_
  refine v_iconst C (v := 1) dX8_rate_2 rfl rfl ?_
  refine v_bipush C (v := 100) dX8_rate_3 rfl rfl ?_
  refine w_invSr C [.int (x), .int (1), .int (100)] 0 0 L_X8_123 (c_X8_isIn (s := s) (t := t)  hst hG hL x 1 100) rfl rfl rfl dX8_rate_5 rfl kx_no (fun h1 => ?_)
  refine v_ifB_eq C (t := 15) dX8_rate_8 rfl rfl (fun h2 => ?_) (fun h2 => ?_)
  · skip
    refine v_iconst C (v := 1) dX8_rate_15 rfl rfl ?_
    refine w_invVr C [.int (1)] 0 0 L_X8_145 (c_X8_holdsTo (s := s) (t := t)  hst hG hL 1) (m0 (s := s) (t := t) (g := G.2.2.1) hL) rfl rfl rfl rfl dX8_rate_16 rfl kx_no (fun h3 => ?_)
    refine v_ifB_ne C (t := 24) dX8_rate_19 rfl rfl (fun h => absurd h (by decide)) (fun _ => ?_)
    refine v_iconst C (v := 0) dX8_rate_22 rfl rfl ?_
    exact v_iret C (by decide) (by decide) dX8_rate_23 ⟨congrArg (fun z => some (Value.int z)) (by first | rfl | (simp only [h2, pM, pU, heldM_45, gvW_45, inW_45, livN_45, sum9_45, sum13_45, rateE, rateR, rateU, bI, pM, pU, n10, n20, n30, n0, if_true, if_false, ite_true, ite_false, not_true_eq_false, not_false_eq_true, and_true, true_and, and_false, false_and, or_true, true_or, or_false, false_or, reduceIte, and_self, or_self, ne_eq, eq_self_iff_true]; first | done | rfl) | (simp [bI, h2, pM, pU, heldM_45, gvW_45, inW_45, livN_45, sum9_45, sum13_45, rateE, rateR, rateU]; done) | (simp only [pM, pU, heldM_45, gvW_45, inW_45, livN_45, sum9_45, sum13_45, rateE, rateR, rateU, bI, ← Int32.not_le] at *; simp [h2]; done) | (simp_all [bI, h2, pM, pU, heldM_45, gvW_45, inW_45, livN_45, sum9_45, sum13_45, rateE, rateR, rateU]; done) | (simp_all [bI, h2, pM, pU, heldM_45, gvW_45, inW_45, livN_45, sum9_45, sum13_45, rateE, rateR, rateU]; rfl) | (exfalso; omega)), by first | rfl | (simp only [h2, pM, pU, heldM_45, gvW_45, inW_45, livN_45, sum9_45, sum13_45, rateE, rateR, rateU, bI, pM, pU, n10, n20, n30, n0, if_true, if_false, ite_true, ite_false, not_true_eq_false, not_false_eq_true, and_true, true_and, and_false, false_and, or_true, true_or, or_false, false_or, reduceIte, and_self, or_self, ne_eq, eq_self_iff_true]; first | done | rfl) | (simp [bI, h2, pM, pU, heldM_45, gvW_45, inW_45, livN_45, sum9_45, sum13_45, rateE, rateR, rateU]; done) | (simp only [pM, pU, heldM_45, gvW_45, inW_45, livN_45, sum9_45, sum13_45, rateE, rateR, rateU, bI, ← Int32.not_le] at *; simp [h2]; done) | (simp_all [bI, h2, pM, pU, heldM_45, gvW_45, inW_45, livN_45, sum9_45, sum13_45, rateE, rateR, rateU]; done) | (simp_all [bI, h2, pM, pU, heldM_45, gvW_45, inW_45, livN_45, sum9_45, sum13_45, rateE, rateR, rateU]; rfl) | (exfalso; omega), by trivial⟩
  · skip
    refine v_iconst C (v := 0) dX8_rate_11 rfl rfl ?_
    refine v_goto C (q := 16) dX8_rate_12 rfl ?_
    refine w_invVr C [.int (0)] 0 0 L_X8_145 (c_X8_holdsTo (s := s) (t := t)  hst hG hL 0) (m0 (s := s) (t := t) (g := G.2.2.1) hL) rfl rfl rfl rfl dX8_rate_16 rfl kx_no (fun h4 => ?_)
    refine v_ifB_ne C (t := 24) dX8_rate_19 rfl rfl (fun _ => ?_) (fun h => absurd (by decide) h)
    refine v_aload_n C dX8_rate_24 rfl 0 rfl ?_
    refine v_get C (v := .int (t 4 0)) g_X8_19 (m0 (s := s) (t := ((su t 45 0 0))) (g := G.2.2.1) hL) (rg (by decide) rfl) dX8_rate_25 rfl ?_
    refine v_istore_n C (lv1 := [(2, .int (t 4 0)), (0, .ref (a 0 0)), (1, .int (x))]) dX8_rate_28 rfl (by decide) rfl ?_
    refine v_aload_n C dX8_rate_29 rfl 1 rfl ?_
    refine v_iload_n C dX8_rate_30 rfl 2 rfl ?_
    refine v_put C f_X8_19 (put_m0 (s := s) (t := ((su t 45 0 0))) (g := G.2.2.1) hL 4 rfl x) rfl rfl (rg_len (by decide)) dX8_rate_31 rfl ?_
    refine v_iload_n C dX8_rate_34 rfl 0 rfl ?_
    exact v_iret C (by decide) (by decide) dX8_rate_35 ⟨congrArg (fun z => some (Value.int z)) (by first | rfl | (simp only [h2, pM, pU, heldM_45, gvW_45, inW_45, livN_45, sum9_45, sum13_45, rateE, rateR, rateU, bI, pM, pU, n10, n20, n30, n0, if_true, if_false, ite_true, ite_false, not_true_eq_false, not_false_eq_true, and_true, true_and, and_false, false_and, or_true, true_or, or_false, false_or, reduceIte, and_self, or_self, ne_eq, eq_self_iff_true]; first | done | rfl) | (simp [bI, h2, pM, pU, heldM_45, gvW_45, inW_45, livN_45, sum9_45, sum13_45, rateE, rateR, rateU]; done) | (simp only [pM, pU, heldM_45, gvW_45, inW_45, livN_45, sum9_45, sum13_45, rateE, rateR, rateU, bI, ← Int32.not_le] at *; simp [h2]; done) | (simp_all [bI, h2, pM, pU, heldM_45, gvW_45, inW_45, livN_45, sum9_45, sum13_45, rateE, rateR, rateU]; done) | (simp_all [bI, h2, pM, pU, heldM_45, gvW_45, inW_45, livN_45, sum9_45, sum13_45, rateE, rateR, rateU]; rfl) | (exfalso; omega)), by first | rfl | (simp only [h2, pM, pU, heldM_45, gvW_45, inW_45, livN_45, sum9_45, sum13_45, rateE, rateR, rateU, bI, pM, pU, n10, n20, n30, n0, if_true, if_false, ite_true, ite_false, not_true_eq_false, not_false_eq_true, and_true, true_and, and_false, false_and, or_true, true_or, or_false, false_or, reduceIte, and_self, or_self, ne_eq, eq_self_iff_true]; first | done | rfl) | (simp [bI, h2, pM, pU, heldM_45, gvW_45, inW_45, livN_45, sum9_45, sum13_45, rateE, rateR, rateU]; done) | (simp only [pM, pU, heldM_45, gvW_45, inW_45, livN_45, sum9_45, sum13_45, rateE, rateR, rateU, bI, ← Int32.not_le] at *; simp [h2]; done) | (simp_all [bI, h2, pM, pU, heldM_45, gvW_45, inW_45, livN_45, sum9_45, sum13_45, rateE, rateR, rateU]; done) | (simp_all [bI, h2, pM, pU, heldM_45, gvW_45, inW_45, livN_45, sum9_45, sum13_45, rateE, rateR, rateU]; rfl) | (exfalso; omega), by trivial⟩

abbrev r_X8_right : Room := { frames := 2, cells := 0, slots := 0, locals := 43 }
set_option maxRecDepth 4000 in
theorem c_X8_right {l : Launch} {G : GG} {a : AD} {s t s0 : SS} {L : List (Nat × Nat)} {nm : Nat} {nr : Nat} (hst : l.stackTraces = false) (hG : GOK G) (hL : Live L s0) (x : Int32) (i_ : Int32) (hm : t 12 0 = nI nm) (hm12 : nm ≤ 12) (hr : t 33 0 = nI nr) (hr20 : nr ≤ 20) : Mth l yX8_right cX8_right 4 (Option.some Jvm.ClassFile.FieldType.int) r_X8_right G (wl a (E G.2.2.1 a s t) L) [.ref (a 0 0), .int x, .int i_] (RI (.int (pM (rightE t nr x i_) (rightR t nr x i_))) (wl a (E G.2.2.1 a s (pU (rightE t nr x i_) (rightU (su t 45 0 0) nr x i_) t)) L) (True)) nX := by
  refine mth_of rfl (Nat.le_of_ble_eq_true rfl) hst hG (fun X hX C0 => ?_)
  subst hX
  have C : Cx X G cX8_right 4 RX8 (Option.some Jvm.ClassFile.FieldType.int) r_X8_right "right" [] := C0
  clear C0
  show V X G 4 _ 0 0 _ 0 [(0, .ref (a 0 0)), (1, .int (x)), (2, .int (i_))] []
  refine v_aload_n C dX8_right_0 rfl 0 rfl ?_
  refine v_iload_n C dX8_right_1 rfl 1 rfl ?_
  refine w_invVr C [.int (x)] 0 0 L_X8_176 (c_X8_isMiner (s := s) (t := t)  hst hG hL x) (m0 (s := s) (t := t) (g := G.2.2.1) hL) rfl rfl rfl rfl dX8_right_2 rfl kx_no (fun h1 => ?_)
  refine v_istore_n C (lv1 := [(3, .int (bI ((0 : Int32) ≤ x ∧ x ≤ t 12 0 - 1))), (0, .ref (a 0 0)), (1, .int (x)), (2, .int (i_))]) dX8_right_5 rfl (by decide) rfl ?_
  refine v_aload_n C dX8_right_6 rfl 1 rfl ?_
  refine v_iload_n C dX8_right_7 rfl 0 rfl ?_
  refine v_ifB_ne C (t := 15) dX8_right_8 rfl rfl (fun h2 => ?_) (fun h2 => ?_)
  · skip
    refine v_iload_n C dX8_right_15 rfl 3 rfl ?_
    refine v_iconst C (v := 1) dX8_right_16 rfl rfl ?_
    refine v_sipush C (v := 200) dX8_right_17 rfl rfl ?_
    refine w_invSr C [.int (i_), .int (1), .int (200)] 0 0 L_X8_123 (c_X8_isIn (s := s) (t := t)  hst hG hL i_ 1 200) rfl rfl rfl dX8_right_20 rfl kx_no (fun h3 => ?_)
    refine v_ifB_ne C (t := 30) dX8_right_23 rfl rfl (fun h4 => ?_) (fun h4 => ?_)
    · skip
      refine v_aload_n C dX8_right_30 rfl 1 rfl ?_
      refine v_iload_n C dX8_right_31 rfl 2 rfl ?_
      refine w_invVr C [.int (x)] 0 0 L_X8_155 (c_X8_isDead (s := s) (t := t)  hst hG hL x _ (in_nI (N := 12) (vp_cnt (by assumption) hm hm12 (by decide)) (by omega)) (in_lt (N := 12) (vp_cnt (by assumption) hm hm12 (by decide)))) (m0 (s := s) (t := t) (g := G.2.2.1) hL) rfl rfl rfl rfl dX8_right_32 rfl kx_no (fun h5 => ?_)
      refine v_ifB_ne C (t := 47) dX8_right_35 rfl rfl (fun h6 => ?_) (fun h6 => ?_)
      · skip
        refine v_iconst C (v := 3) dX8_right_47 rfl rfl ?_
        refine v_goto C (q := 52) dX8_right_48 rfl ?_
        refine w_invVr C [.int (3)] 0 0 L_X8_145 (c_X8_holdsTo (s := s) (t := t)  hst hG hL 3) (m0 (s := s) (t := t) (g := G.2.2.1) hL) rfl rfl rfl rfl dX8_right_52 rfl kx_no (fun h7 => ?_)
        refine v_ifB_ne C (t := 60) dX8_right_55 rfl rfl (fun h => absurd h (by decide)) (fun _ => ?_)
        refine v_iconst C (v := 0) dX8_right_58 rfl rfl ?_
        exact v_iret C (by decide) (by decide) dX8_right_59 ⟨congrArg (fun z => some (Value.int z)) (by first | rfl | (simp only [h2, h4, eq_true h6, pM, pU, heldM_45, gvW_45, inW_45, livN_45, sum9_45, sum13_45, rightE, rightR, rightU, bI, pM, pU, n10, n20, n30, n0, if_true, if_false, ite_true, ite_false, not_true_eq_false, not_false_eq_true, and_true, true_and, and_false, false_and, or_true, true_or, or_false, false_or, reduceIte, and_self, or_self, ne_eq, eq_self_iff_true]; first | done | rfl) | (simp [bI, h2, h4, eq_true h6, pM, pU, heldM_45, gvW_45, inW_45, livN_45, sum9_45, sum13_45, rightE, rightR, rightU]; done) | (simp only [pM, pU, heldM_45, gvW_45, inW_45, livN_45, sum9_45, sum13_45, rightE, rightR, rightU, bI, ← Int32.not_le] at *; simp [h2, h4, eq_true h6]; done) | (simp_all [bI, h2, h4, eq_true h6, pM, pU, heldM_45, gvW_45, inW_45, livN_45, sum9_45, sum13_45, rightE, rightR, rightU]; done) | (simp_all [bI, h2, h4, eq_true h6, pM, pU, heldM_45, gvW_45, inW_45, livN_45, sum9_45, sum13_45, rightE, rightR, rightU]; rfl) | (exfalso; omega)), by first | rfl | (simp only [h2, h4, eq_true h6, pM, pU, heldM_45, gvW_45, inW_45, livN_45, sum9_45, sum13_45, rightE, rightR, rightU, bI, pM, pU, n10, n20, n30, n0, if_true, if_false, ite_true, ite_false, not_true_eq_false, not_false_eq_true, and_true, true_and, and_false, false_and, or_true, true_or, or_false, false_or, reduceIte, and_self, or_self, ne_eq, eq_self_iff_true]; first | done | rfl) | (simp [bI, h2, h4, eq_true h6, pM, pU, heldM_45, gvW_45, inW_45, livN_45, sum9_45, sum13_45, rightE, rightR, rightU]; done) | (simp only [pM, pU, heldM_45, gvW_45, inW_45, livN_45, sum9_45, sum13_45, rightE, rightR, rightU, bI, ← Int32.not_le] at *; simp [h2, h4, eq_true h6]; done) | (simp_all [bI, h2, h4, eq_true h6, pM, pU, heldM_45, gvW_45, inW_45, livN_45, sum9_45, sum13_45, rightE, rightR, rightU]; done) | (simp_all [bI, h2, h4, eq_true h6, pM, pU, heldM_45, gvW_45, inW_45, livN_45, sum9_45, sum13_45, rightE, rightR, rightU]; rfl) | (exfalso; omega), by trivial⟩
      · skip
        refine v_aload_n C dX8_right_38 rfl 1 rfl ?_
        refine v_get C (v := .int (t 33 0)) g_X8_183 (m0 (s := s) (t := t) (g := G.2.2.1) hL) (rg (by decide) rfl) dX8_right_39 rfl ?_
        refine xx_top (y := nI nr) hr ?_
        refine v_bipush C (v := 20) dX8_right_42 rfl rfl ?_
        refine v_icN_ne C (t := 51) nr 20 rfl rfl (by omega) (by omega) dX8_right_44 rfl rfl (fun h8 => ?_) (fun h8 => ?_)
        · skip
          refine v_iconst C (v := 0) dX8_right_51 rfl rfl ?_
          refine w_invVr C [.int (0)] 0 0 L_X8_145 (c_X8_holdsTo (s := s) (t := t)  hst hG hL 0) (m0 (s := s) (t := t) (g := G.2.2.1) hL) rfl rfl rfl rfl dX8_right_52 rfl kx_no (fun h9 => ?_)
          refine v_ifB_ne C (t := 60) dX8_right_55 rfl rfl (fun _ => ?_) (fun h => absurd (by decide) h)
          refine v_aload_n C dX8_right_60 rfl 1 rfl ?_
          refine v_get C (v := .ref (a 1 34)) g_X8_93 (m0 (s := s) (t := ((su t 45 0 0))) (g := G.2.2.1) hL) (rg (by decide) rfl) dX8_right_61 rfl ?_
          refine v_aload_n C dX8_right_64 rfl 1 rfl ?_
          refine v_get C (v := .int (t 33 0)) g_X8_183 (m0 (s := s) (t := ((su t 45 0 0))) (g := G.2.2.1) hL) (rg (by decide) rfl) dX8_right_65 rfl ?_
          refine xx_top (y := nI nr) hr ?_
          refine v_iload_n C dX8_right_68 rfl 2 rfl ?_
          refine v_iastE C (len := 20) nr (put_m1 (s := s) (t := ((su t 45 0 0))) (g := G.2.2.1) hL 34 rfl nr x) (nI_clamp (by omega)) (pk_in nr 20 (by omega)) dX8_right_69 rfl ?_
          refine v_aload_n C dX8_right_70 rfl 1 rfl ?_
          refine v_get C (v := .ref (a 1 35)) g_X8_96 (m0 (s := s) (t := ((su (su t 45 0 0) 34 nr x))) (g := G.2.2.1) hL) (rg (by decide) rfl) dX8_right_71 rfl ?_
          refine v_aload_n C dX8_right_74 rfl 1 rfl ?_
          refine v_get C (v := .int (t 33 0)) g_X8_183 (m0 (s := s) (t := ((su (su t 45 0 0) 34 nr x))) (g := G.2.2.1) hL) (rg (by decide) rfl) dX8_right_75 rfl ?_
          refine xx_top (y := nI nr) hr ?_
          refine v_iload_n C dX8_right_78 rfl 3 rfl ?_
          refine v_iastE C (len := 20) nr (put_m1 (s := s) (t := ((su (su t 45 0 0) 34 nr x))) (g := G.2.2.1) hL 35 rfl nr i_) (nI_clamp (by omega)) (pk_in nr 20 (by omega)) dX8_right_79 rfl ?_
          refine v_aload_n C dX8_right_80 rfl 1 rfl ?_
          refine v_dup C dX8_right_81 rfl rfl ?_
          refine v_get C (v := .int (t 33 0)) g_X8_183 (m0 (s := s) (t := ((su (su (su t 45 0 0) 34 nr x) 35 nr i_))) (g := G.2.2.1) hL) (rg (by decide) rfl) dX8_right_82 rfl ?_
          refine xx_top (y := nI nr) hr ?_
          refine v_iconst C (v := 1) dX8_right_85 rfl rfl ?_
          refine v_iaddN C nr 1 rfl rfl dX8_right_86 rfl ?_
          refine v_put C f_X8_183 (put_m0 (s := s) (t := ((su (su (su t 45 0 0) 34 nr x) 35 nr i_))) (g := G.2.2.1) hL 33 rfl (nI (nr + 1))) rfl rfl (rg_len (by decide)) dX8_right_87 rfl ?_
          refine v_aload_n C dX8_right_90 rfl 1 rfl ?_
          refine v_get C (v := .int (nI (nr + 1))) g_X8_183 (m0 (s := s) (t := ((su (su (su (su t 45 0 0) 34 nr x) 35 nr i_) 33 0 (nI (nr + 1))))) (g := G.2.2.1) hL) (rg (by decide) rfl) dX8_right_91 rfl ?_
          refine v_iconst C (v := 1) dX8_right_94 rfl rfl ?_
          refine v_isubN C (nr + 1) 1 (by omega) rfl rfl dX8_right_95 rfl ?_
          exact v_iret C (by decide) (by decide) dX8_right_96 ⟨congrArg (fun z => some (Value.int z)) (by first | rfl | (simp only [h2, h4, h6, h8, pM, pU, heldM_45, gvW_45, inW_45, livN_45, sum9_45, sum13_45, rightE, rightR, rightU, bI, pM, pU, n10, n20, n30, n0, if_true, if_false, ite_true, ite_false, not_true_eq_false, not_false_eq_true, and_true, true_and, and_false, false_and, or_true, true_or, or_false, false_or, reduceIte, and_self, or_self, ne_eq, eq_self_iff_true]; first | done | rfl) | (simp [bI, h2, h4, h6, h8, pM, pU, heldM_45, gvW_45, inW_45, livN_45, sum9_45, sum13_45, rightE, rightR, rightU]; done) | (simp only [pM, pU, heldM_45, gvW_45, inW_45, livN_45, sum9_45, sum13_45, rightE, rightR, rightU, bI, ← Int32.not_le] at *; simp [h2, h4, h6, h8]; done) | (simp_all [bI, h2, h4, h6, h8, pM, pU, heldM_45, gvW_45, inW_45, livN_45, sum9_45, sum13_45, rightE, rightR, rightU]; done) | (simp_all [bI, h2, h4, h6, h8, pM, pU, heldM_45, gvW_45, inW_45, livN_45, sum9_45, sum13_45, rightE, rightR, rightU]; rfl) | (exfalso; omega)), by first | rfl | (simp only [h2, h4, h6, h8, pM, pU, heldM_45, gvW_45, inW_45, livN_45, sum9_45, sum13_45, rightE, rightR, rightU, bI, pM, pU, n10, n20, n30, n0, if_true, if_false, ite_true, ite_false, not_true_eq_false, not_false_eq_true, and_true, true_and, and_false, false_and, or_true, true_or, or_false, false_or, reduceIte, and_self, or_self, ne_eq, eq_self_iff_true]; first | done | rfl) | (simp [bI, h2, h4, h6, h8, pM, pU, heldM_45, gvW_45, inW_45, livN_45, sum9_45, sum13_45, rightE, rightR, rightU]; done) | (simp only [pM, pU, heldM_45, gvW_45, inW_45, livN_45, sum9_45, sum13_45, rightE, rightR, rightU, bI, ← Int32.not_le] at *; simp [h2, h4, h6, h8]; done) | (simp_all [bI, h2, h4, h6, h8, pM, pU, heldM_45, gvW_45, inW_45, livN_45, sum9_45, sum13_45, rightE, rightR, rightU]; done) | (simp_all [bI, h2, h4, h6, h8, pM, pU, heldM_45, gvW_45, inW_45, livN_45, sum9_45, sum13_45, rightE, rightR, rightU]; rfl) | (exfalso; omega), by trivial⟩
        · skip
          refine v_iconst C (v := 3) dX8_right_47 rfl rfl ?_
          refine v_goto C (q := 52) dX8_right_48 rfl ?_
          refine w_invVr C [.int (3)] 0 0 L_X8_145 (c_X8_holdsTo (s := s) (t := t)  hst hG hL 3) (m0 (s := s) (t := t) (g := G.2.2.1) hL) rfl rfl rfl rfl dX8_right_52 rfl kx_no (fun h10 => ?_)
          refine v_ifB_ne C (t := 60) dX8_right_55 rfl rfl (fun h => absurd h (by decide)) (fun _ => ?_)
          refine v_iconst C (v := 0) dX8_right_58 rfl rfl ?_
          exact v_iret C (by decide) (by decide) dX8_right_59 ⟨congrArg (fun z => some (Value.int z)) (by first | rfl | (simp only [h2, h4, h6, eq_true h8, pM, pU, heldM_45, gvW_45, inW_45, livN_45, sum9_45, sum13_45, rightE, rightR, rightU, bI, pM, pU, n10, n20, n30, n0, if_true, if_false, ite_true, ite_false, not_true_eq_false, not_false_eq_true, and_true, true_and, and_false, false_and, or_true, true_or, or_false, false_or, reduceIte, and_self, or_self, ne_eq, eq_self_iff_true]; first | done | rfl) | (simp [bI, h2, h4, h6, eq_true h8, pM, pU, heldM_45, gvW_45, inW_45, livN_45, sum9_45, sum13_45, rightE, rightR, rightU]; done) | (simp only [pM, pU, heldM_45, gvW_45, inW_45, livN_45, sum9_45, sum13_45, rightE, rightR, rightU, bI, ← Int32.not_le] at *; simp [h2, h4, h6, eq_true h8]; done) | (simp_all [bI, h2, h4, h6, eq_true h8, pM, pU, heldM_45, gvW_45, inW_45, livN_45, sum9_45, sum13_45, rightE, rightR, rightU]; done) | (simp_all [bI, h2, h4, h6, eq_true h8, pM, pU, heldM_45, gvW_45, inW_45, livN_45, sum9_45, sum13_45, rightE, rightR, rightU]; rfl) | (exfalso; omega)), by first | rfl | (simp only [h2, h4, h6, eq_true h8, pM, pU, heldM_45, gvW_45, inW_45, livN_45, sum9_45, sum13_45, rightE, rightR, rightU, bI, pM, pU, n10, n20, n30, n0, if_true, if_false, ite_true, ite_false, not_true_eq_false, not_false_eq_true, and_true, true_and, and_false, false_and, or_true, true_or, or_false, false_or, reduceIte, and_self, or_self, ne_eq, eq_self_iff_true]; first | done | rfl) | (simp [bI, h2, h4, h6, eq_true h8, pM, pU, heldM_45, gvW_45, inW_45, livN_45, sum9_45, sum13_45, rightE, rightR, rightU]; done) | (simp only [pM, pU, heldM_45, gvW_45, inW_45, livN_45, sum9_45, sum13_45, rightE, rightR, rightU, bI, ← Int32.not_le] at *; simp [h2, h4, h6, eq_true h8]; done) | (simp_all [bI, h2, h4, h6, eq_true h8, pM, pU, heldM_45, gvW_45, inW_45, livN_45, sum9_45, sum13_45, rightE, rightR, rightU]; done) | (simp_all [bI, h2, h4, h6, eq_true h8, pM, pU, heldM_45, gvW_45, inW_45, livN_45, sum9_45, sum13_45, rightE, rightR, rightU]; rfl) | (exfalso; omega), by trivial⟩
    · skip
      refine v_iconst C (v := 2) dX8_right_26 rfl rfl ?_
      refine v_goto C (q := 52) dX8_right_27 rfl ?_
      refine w_invVr C [.int (2)] 0 0 L_X8_145 (c_X8_holdsTo (s := s) (t := t)  hst hG hL 2) (m0 (s := s) (t := t) (g := G.2.2.1) hL) rfl rfl rfl rfl dX8_right_52 rfl kx_no (fun h11 => ?_)
      refine v_ifB_ne C (t := 60) dX8_right_55 rfl rfl (fun h => absurd h (by decide)) (fun _ => ?_)
      refine v_iconst C (v := 0) dX8_right_58 rfl rfl ?_
      exact v_iret C (by decide) (by decide) dX8_right_59 ⟨congrArg (fun z => some (Value.int z)) (by first | rfl | (simp only [h2, h4, pM, pU, heldM_45, gvW_45, inW_45, livN_45, sum9_45, sum13_45, rightE, rightR, rightU, bI, pM, pU, n10, n20, n30, n0, if_true, if_false, ite_true, ite_false, not_true_eq_false, not_false_eq_true, and_true, true_and, and_false, false_and, or_true, true_or, or_false, false_or, reduceIte, and_self, or_self, ne_eq, eq_self_iff_true]; first | done | rfl) | (simp [bI, h2, h4, pM, pU, heldM_45, gvW_45, inW_45, livN_45, sum9_45, sum13_45, rightE, rightR, rightU]; done) | (simp only [pM, pU, heldM_45, gvW_45, inW_45, livN_45, sum9_45, sum13_45, rightE, rightR, rightU, bI, ← Int32.not_le] at *; simp [h2, h4]; done) | (simp_all [bI, h2, h4, pM, pU, heldM_45, gvW_45, inW_45, livN_45, sum9_45, sum13_45, rightE, rightR, rightU]; done) | (simp_all [bI, h2, h4, pM, pU, heldM_45, gvW_45, inW_45, livN_45, sum9_45, sum13_45, rightE, rightR, rightU]; rfl) | (exfalso; omega)), by first | rfl | (simp only [h2, h4, pM, pU, heldM_45, gvW_45, inW_45, livN_45, sum9_45, sum13_45, rightE, rightR, rightU, bI, pM, pU, n10, n20, n30, n0, if_true, if_false, ite_true, ite_false, not_true_eq_false, not_false_eq_true, and_true, true_and, and_false, false_and, or_true, true_or, or_false, false_or, reduceIte, and_self, or_self, ne_eq, eq_self_iff_true]; first | done | rfl) | (simp [bI, h2, h4, pM, pU, heldM_45, gvW_45, inW_45, livN_45, sum9_45, sum13_45, rightE, rightR, rightU]; done) | (simp only [pM, pU, heldM_45, gvW_45, inW_45, livN_45, sum9_45, sum13_45, rightE, rightR, rightU, bI, ← Int32.not_le] at *; simp [h2, h4]; done) | (simp_all [bI, h2, h4, pM, pU, heldM_45, gvW_45, inW_45, livN_45, sum9_45, sum13_45, rightE, rightR, rightU]; done) | (simp_all [bI, h2, h4, pM, pU, heldM_45, gvW_45, inW_45, livN_45, sum9_45, sum13_45, rightE, rightR, rightU]; rfl) | (exfalso; omega), by trivial⟩
  · skip
    refine v_iconst C (v := 1) dX8_right_11 rfl rfl ?_
    refine v_goto C (q := 52) dX8_right_12 rfl ?_
    refine w_invVr C [.int (1)] 0 0 L_X8_145 (c_X8_holdsTo (s := s) (t := t)  hst hG hL 1) (m0 (s := s) (t := t) (g := G.2.2.1) hL) rfl rfl rfl rfl dX8_right_52 rfl kx_no (fun h12 => ?_)
    refine v_ifB_ne C (t := 60) dX8_right_55 rfl rfl (fun h => absurd h (by decide)) (fun _ => ?_)
    refine v_iconst C (v := 0) dX8_right_58 rfl rfl ?_
    exact v_iret C (by decide) (by decide) dX8_right_59 ⟨congrArg (fun z => some (Value.int z)) (by first | rfl | (simp only [h2, pM, pU, heldM_45, gvW_45, inW_45, livN_45, sum9_45, sum13_45, rightE, rightR, rightU, bI, pM, pU, n10, n20, n30, n0, if_true, if_false, ite_true, ite_false, not_true_eq_false, not_false_eq_true, and_true, true_and, and_false, false_and, or_true, true_or, or_false, false_or, reduceIte, and_self, or_self, ne_eq, eq_self_iff_true]; first | done | rfl) | (simp [bI, h2, pM, pU, heldM_45, gvW_45, inW_45, livN_45, sum9_45, sum13_45, rightE, rightR, rightU]; done) | (simp only [pM, pU, heldM_45, gvW_45, inW_45, livN_45, sum9_45, sum13_45, rightE, rightR, rightU, bI, ← Int32.not_le] at *; simp [h2]; done) | (simp_all [bI, h2, pM, pU, heldM_45, gvW_45, inW_45, livN_45, sum9_45, sum13_45, rightE, rightR, rightU]; done) | (simp_all [bI, h2, pM, pU, heldM_45, gvW_45, inW_45, livN_45, sum9_45, sum13_45, rightE, rightR, rightU]; rfl) | (exfalso; omega)), by first | rfl | (simp only [h2, pM, pU, heldM_45, gvW_45, inW_45, livN_45, sum9_45, sum13_45, rightE, rightR, rightU, bI, pM, pU, n10, n20, n30, n0, if_true, if_false, ite_true, ite_false, not_true_eq_false, not_false_eq_true, and_true, true_and, and_false, false_and, or_true, true_or, or_false, false_or, reduceIte, and_self, or_self, ne_eq, eq_self_iff_true]; first | done | rfl) | (simp [bI, h2, pM, pU, heldM_45, gvW_45, inW_45, livN_45, sum9_45, sum13_45, rightE, rightR, rightU]; done) | (simp only [pM, pU, heldM_45, gvW_45, inW_45, livN_45, sum9_45, sum13_45, rightE, rightR, rightU, bI, ← Int32.not_le] at *; simp [h2]; done) | (simp_all [bI, h2, pM, pU, heldM_45, gvW_45, inW_45, livN_45, sum9_45, sum13_45, rightE, rightR, rightU]; done) | (simp_all [bI, h2, pM, pU, heldM_45, gvW_45, inW_45, livN_45, sum9_45, sum13_45, rightE, rightR, rightU]; rfl) | (exfalso; omega), by trivial⟩

abbrev r_X8_sample : Room := { frames := 2, cells := 0, slots := 0, locals := 42 }
set_option maxRecDepth 4000 in
theorem c_X8_sample {l : Launch} {G : GG} {a : AD} {s t s0 : SS} {L : List (Nat × Nat)}  (hst : l.stackTraces = false) (hG : GOK G) (hL : Live L s0) (c : Int32)  : Mth l yX8_sample cX8_sample 2 (Option.some Jvm.ClassFile.FieldType.int) r_X8_sample G (wl a (E G.2.2.1 a s t) L) [.ref (a 0 0), .int c] (RI (.int (pM (sampleE t c) (sampleR t c))) (wl a (E G.2.2.1 a s (pU (sampleE t c) (su t 45 0 0) t)) L) (True)) nX := by
  refine mth_of rfl (Nat.le_of_ble_eq_true rfl) hst hG (fun X hX C0 => ?_)
  subst hX
  have C : Cx X G cX8_sample 2 RX8 (Option.some Jvm.ClassFile.FieldType.int) r_X8_sample "sample" [] := C0
  clear C0
  show V X G 2 _ 0 0 _ 0 [(0, .ref (a 0 0)), (1, .int (c))] []
  refine v_aload_n C dX8_sample_0 rfl 0 rfl ?_
  refine v_iload_n C dX8_sample_1 rfl 1 rfl ?_
  refine w_invSr C [.int (c)] 0 0 L_X8_134 (c_X8_isCell (s := s) (t := t)  hst hG hL c) rfl rfl rfl dX8_sample_2 rfl kx_no (fun h1 => ?_)
  refine v_ifB_eq C (t := 12) dX8_sample_5 rfl rfl (fun h2 => ?_) (fun h2 => ?_)
  · skip
    refine v_iconst C (v := 1) dX8_sample_12 rfl rfl ?_
    refine w_invVr C [.int (1)] 0 0 L_X8_145 (c_X8_holdsTo (s := s) (t := t)  hst hG hL 1) (m0 (s := s) (t := t) (g := G.2.2.1) hL) rfl rfl rfl rfl dX8_sample_13 rfl kx_no (fun h3 => ?_)
    refine v_ifB_eq C (t := 31) dX8_sample_16 rfl rfl (fun _ => ?_) (fun h => absurd h (by decide))
    refine v_iconst C (v := 0) dX8_sample_31 rfl rfl ?_
    exact v_iret C (by decide) (by decide) dX8_sample_32 ⟨congrArg (fun z => some (Value.int z)) (by first | rfl | (simp only [h2, pM, pU, heldM_45, gvW_45, inW_45, livN_45, sum9_45, sum13_45, sampleE, sampleR, bI, pM, pU, n10, n20, n30, n0, if_true, if_false, ite_true, ite_false, not_true_eq_false, not_false_eq_true, and_true, true_and, and_false, false_and, or_true, true_or, or_false, false_or, reduceIte, and_self, or_self, ne_eq, eq_self_iff_true]; first | done | rfl) | (simp [bI, h2, pM, pU, heldM_45, gvW_45, inW_45, livN_45, sum9_45, sum13_45, sampleE, sampleR]; done) | (simp only [pM, pU, heldM_45, gvW_45, inW_45, livN_45, sum9_45, sum13_45, sampleE, sampleR, bI, ← Int32.not_le] at *; simp [h2]; done) | (simp_all [bI, h2, pM, pU, heldM_45, gvW_45, inW_45, livN_45, sum9_45, sum13_45, sampleE, sampleR]; done) | (simp_all [bI, h2, pM, pU, heldM_45, gvW_45, inW_45, livN_45, sum9_45, sum13_45, sampleE, sampleR]; rfl) | (exfalso; omega)), by first | rfl | (simp only [h2, pM, pU, heldM_45, gvW_45, inW_45, livN_45, sum9_45, sum13_45, sampleE, sampleR, bI, pM, pU, n10, n20, n30, n0, if_true, if_false, ite_true, ite_false, not_true_eq_false, not_false_eq_true, and_true, true_and, and_false, false_and, or_true, true_or, or_false, false_or, reduceIte, and_self, or_self, ne_eq, eq_self_iff_true]; first | done | rfl) | (simp [bI, h2, pM, pU, heldM_45, gvW_45, inW_45, livN_45, sum9_45, sum13_45, sampleE, sampleR]; done) | (simp only [pM, pU, heldM_45, gvW_45, inW_45, livN_45, sum9_45, sum13_45, sampleE, sampleR, bI, ← Int32.not_le] at *; simp [h2]; done) | (simp_all [bI, h2, pM, pU, heldM_45, gvW_45, inW_45, livN_45, sum9_45, sum13_45, sampleE, sampleR]; done) | (simp_all [bI, h2, pM, pU, heldM_45, gvW_45, inW_45, livN_45, sum9_45, sum13_45, sampleE, sampleR]; rfl) | (exfalso; omega), by trivial⟩
  · skip
    refine v_iconst C (v := 0) dX8_sample_8 rfl rfl ?_
    refine v_goto C (q := 13) dX8_sample_9 rfl ?_
    refine w_invVr C [.int (0)] 0 0 L_X8_145 (c_X8_holdsTo (s := s) (t := t)  hst hG hL 0) (m0 (s := s) (t := t) (g := G.2.2.1) hL) rfl rfl rfl rfl dX8_sample_13 rfl kx_no (fun h4 => ?_)
    refine v_ifB_eq C (t := 31) dX8_sample_16 rfl rfl (fun h => absurd (by decide) h) (fun _ => ?_)
    refine v_aload_n C dX8_sample_19 rfl 0 rfl ?_
    refine v_get C (v := .ref (a 1 9)) g_X8_25 (m0 (s := s) (t := ((su t 45 0 0))) (g := G.2.2.1) hL) (rg (by decide) rfl) dX8_sample_20 rfl ?_
    refine v_iload_n C dX8_sample_23 rfl 1 rfl ?_
    refine v_iald C (len := 40) (m1 (s := s) (t := ((su t 45 0 0))) (g := G.2.2.1) hL 9 rfl) (vp_rng (n := 39) rfl (by decide) (by assumption)) dX8_sample_24 rfl ?_
    refine xx_top (y := t 9 (tn c)) rfl ?_
    refine v_bipush C (v := 100) dX8_sample_25 rfl rfl ?_
    refine v_idiv C dX8_sample_27 rfl (by decide) ?_
    refine v_goto C (q := 32) dX8_sample_28 rfl ?_
    exact v_iret C (by decide) (by decide) dX8_sample_32 ⟨congrArg (fun z => some (Value.int z)) (by first | rfl | (simp only [h2, pM, pU, heldM_45, gvW_45, inW_45, livN_45, sum9_45, sum13_45, sampleE, sampleR, bI, pM, pU, n10, n20, n30, n0, if_true, if_false, ite_true, ite_false, not_true_eq_false, not_false_eq_true, and_true, true_and, and_false, false_and, or_true, true_or, or_false, false_or, reduceIte, and_self, or_self, ne_eq, eq_self_iff_true]; first | done | rfl) | (simp [bI, h2, pM, pU, heldM_45, gvW_45, inW_45, livN_45, sum9_45, sum13_45, sampleE, sampleR]; done) | (simp only [pM, pU, heldM_45, gvW_45, inW_45, livN_45, sum9_45, sum13_45, sampleE, sampleR, bI, ← Int32.not_le] at *; simp [h2]; done) | (simp_all [bI, h2, pM, pU, heldM_45, gvW_45, inW_45, livN_45, sum9_45, sum13_45, sampleE, sampleR]; done) | (simp_all [bI, h2, pM, pU, heldM_45, gvW_45, inW_45, livN_45, sum9_45, sum13_45, sampleE, sampleR]; rfl) | (exfalso; omega)), by first | rfl | (simp only [h2, pM, pU, heldM_45, gvW_45, inW_45, livN_45, sum9_45, sum13_45, sampleE, sampleR, bI, pM, pU, n10, n20, n30, n0, if_true, if_false, ite_true, ite_false, not_true_eq_false, not_false_eq_true, and_true, true_and, and_false, false_and, or_true, true_or, or_false, false_or, reduceIte, and_self, or_self, ne_eq, eq_self_iff_true]; first | done | rfl) | (simp [bI, h2, pM, pU, heldM_45, gvW_45, inW_45, livN_45, sum9_45, sum13_45, sampleE, sampleR]; done) | (simp only [pM, pU, heldM_45, gvW_45, inW_45, livN_45, sum9_45, sum13_45, sampleE, sampleR, bI, ← Int32.not_le] at *; simp [h2]; done) | (simp_all [bI, h2, pM, pU, heldM_45, gvW_45, inW_45, livN_45, sum9_45, sum13_45, sampleE, sampleR]; done) | (simp_all [bI, h2, pM, pU, heldM_45, gvW_45, inW_45, livN_45, sum9_45, sum13_45, sampleE, sampleR]; rfl) | (exfalso; omega), by trivial⟩

abbrev r_X8_brass : Room := { frames := 2, cells := 0, slots := 0, locals := 43 }
set_option maxRecDepth 4000 in
theorem c_X8_brass {l : Launch} {G : GG} {a : AD} {s t s0 : SS} {L : List (Nat × Nat)} {nm : Nat} (hst : l.stackTraces = false) (hG : GOK G) (hL : Live L s0) (x : Int32) (m : Int32) (hm : t 12 0 = nI nm) (hm12 : nm ≤ 12) : Mth l yX8_brass cX8_brass 4 (Option.some Jvm.ClassFile.FieldType.int) r_X8_brass G (wl a (E G.2.2.1 a s t) L) [.ref (a 0 0), .int x, .int m] (RI (.int (pM (brassE t x m) (brassR t x m))) (wl a (E G.2.2.1 a s (pU (brassE t x m) (brassU (su t 45 0 0) x m) t)) L) (True)) nX := by
  refine mth_of rfl (Nat.le_of_ble_eq_true rfl) hst hG (fun X hX C0 => ?_)
  subst hX
  have C : Cx X G cX8_brass 4 RX8 (Option.some Jvm.ClassFile.FieldType.int) r_X8_brass "brass" [] := C0
  clear C0
  show V X G 4 _ 0 0 _ 0 [(0, .ref (a 0 0)), (1, .int (x)), (2, .int (m))] []
  refine v_aload_n C dX8_brass_0 rfl 0 rfl ?_
  refine v_iload_n C dX8_brass_1 rfl 1 rfl ?_
  refine w_invVr C [.int (x)] 0 0 L_X8_176 (c_X8_isMiner (s := s) (t := t)  hst hG hL x) (m0 (s := s) (t := t) (g := G.2.2.1) hL) rfl rfl rfl rfl dX8_brass_2 rfl kx_no (fun h1 => ?_)
  refine v_istore_n C (lv1 := [(3, .int (bI ((0 : Int32) ≤ x ∧ x ≤ t 12 0 - 1))), (0, .ref (a 0 0)), (1, .int (x)), (2, .int (m))]) dX8_brass_5 rfl (by decide) rfl ?_
  refine v_aload_n C dX8_brass_6 rfl 1 rfl ?_
  refine v_iload_n C dX8_brass_7 rfl 0 rfl ?_
  refine v_ifB_ne C (t := 15) dX8_brass_8 rfl rfl (fun h2 => ?_) (fun h2 => ?_)
  · skip
    refine v_iload_n C dX8_brass_15 rfl 3 rfl ?_
    refine v_iconst C (v := 1) dX8_brass_16 rfl rfl ?_
    refine v_sipush C (v := 10000) dX8_brass_17 rfl rfl ?_
    refine w_invSr C [.int (m), .int (1), .int (10000)] 0 0 L_X8_123 (c_X8_isIn (s := s) (t := t)  hst hG hL m 1 10000) rfl rfl rfl dX8_brass_20 rfl kx_no (fun h3 => ?_)
    refine v_ifB_ne C (t := 30) dX8_brass_23 rfl rfl (fun h4 => ?_) (fun h4 => ?_)
    · skip
      refine v_aload_n C dX8_brass_30 rfl 1 rfl ?_
      refine v_iload_n C dX8_brass_31 rfl 2 rfl ?_
      refine w_invVr C [.int (x)] 0 0 L_X8_155 (c_X8_isDead (s := s) (t := t)  hst hG hL x _ (in_nI (N := 12) (vp_cnt (by assumption) hm hm12 (by decide)) (by omega)) (in_lt (N := 12) (vp_cnt (by assumption) hm hm12 (by decide)))) (m0 (s := s) (t := t) (g := G.2.2.1) hL) rfl rfl rfl rfl dX8_brass_32 rfl kx_no (fun h5 => ?_)
      refine v_ifB_ne C (t := 51) dX8_brass_35 rfl rfl (fun h6 => ?_) (fun h6 => ?_)
      · skip
        refine v_iconst C (v := 3) dX8_brass_51 rfl rfl ?_
        refine v_goto C (q := 56) dX8_brass_52 rfl ?_
        refine w_invVr C [.int (3)] 0 0 L_X8_145 (c_X8_holdsTo (s := s) (t := t)  hst hG hL 3) (m0 (s := s) (t := t) (g := G.2.2.1) hL) rfl rfl rfl rfl dX8_brass_56 rfl kx_no (fun h7 => ?_)
        refine v_ifB_ne C (t := 64) dX8_brass_59 rfl rfl (fun h => absurd h (by decide)) (fun _ => ?_)
        refine v_iconst C (v := 0) dX8_brass_62 rfl rfl ?_
        exact v_iret C (by decide) (by decide) dX8_brass_63 ⟨congrArg (fun z => some (Value.int z)) (by first | rfl | (simp only [h2, h4, eq_true h6, pM, pU, heldM_45, gvW_45, inW_45, livN_45, sum9_45, sum13_45, brassE, brassR, brassU, bI, pM, pU, n10, n20, n30, n0, if_true, if_false, ite_true, ite_false, not_true_eq_false, not_false_eq_true, and_true, true_and, and_false, false_and, or_true, true_or, or_false, false_or, reduceIte, and_self, or_self, ne_eq, eq_self_iff_true]; first | done | rfl) | (simp [bI, h2, h4, eq_true h6, pM, pU, heldM_45, gvW_45, inW_45, livN_45, sum9_45, sum13_45, brassE, brassR, brassU]; done) | (simp only [pM, pU, heldM_45, gvW_45, inW_45, livN_45, sum9_45, sum13_45, brassE, brassR, brassU, bI, ← Int32.not_le] at *; simp [h2, h4, eq_true h6]; done) | (simp_all [bI, h2, h4, eq_true h6, pM, pU, heldM_45, gvW_45, inW_45, livN_45, sum9_45, sum13_45, brassE, brassR, brassU]; done) | (simp_all [bI, h2, h4, eq_true h6, pM, pU, heldM_45, gvW_45, inW_45, livN_45, sum9_45, sum13_45, brassE, brassR, brassU]; rfl) | (exfalso; omega)), by first | rfl | (simp only [h2, h4, eq_true h6, pM, pU, heldM_45, gvW_45, inW_45, livN_45, sum9_45, sum13_45, brassE, brassR, brassU, bI, pM, pU, n10, n20, n30, n0, if_true, if_false, ite_true, ite_false, not_true_eq_false, not_false_eq_true, and_true, true_and, and_false, false_and, or_true, true_or, or_false, false_or, reduceIte, and_self, or_self, ne_eq, eq_self_iff_true]; first | done | rfl) | (simp [bI, h2, h4, eq_true h6, pM, pU, heldM_45, gvW_45, inW_45, livN_45, sum9_45, sum13_45, brassE, brassR, brassU]; done) | (simp only [pM, pU, heldM_45, gvW_45, inW_45, livN_45, sum9_45, sum13_45, brassE, brassR, brassU, bI, ← Int32.not_le] at *; simp [h2, h4, eq_true h6]; done) | (simp_all [bI, h2, h4, eq_true h6, pM, pU, heldM_45, gvW_45, inW_45, livN_45, sum9_45, sum13_45, brassE, brassR, brassU]; done) | (simp_all [bI, h2, h4, eq_true h6, pM, pU, heldM_45, gvW_45, inW_45, livN_45, sum9_45, sum13_45, brassE, brassR, brassU]; rfl) | (exfalso; omega), by trivial⟩
      · skip
        refine v_aload_n C dX8_brass_38 rfl 1 rfl ?_
        refine v_get C (v := .ref (a 1 14)) g_X8_38 (m0 (s := s) (t := t) (g := G.2.2.1) hL) (rg (by decide) rfl) dX8_brass_39 rfl ?_
        refine v_iload_n C dX8_brass_42 rfl 2 rfl ?_
        refine v_iald C (len := 12) (m1 (s := s) (t := t) (g := G.2.2.1) hL 14 rfl) (vp_cnt (by assumption) hm hm12 (by decide)) dX8_brass_43 rfl ?_
        refine v_iload_n C dX8_brass_44 rfl 3 rfl ?_
        refine v_iadd C dX8_brass_45 rfl ?_
        refine v_ldc C (v := 100000) dX8_brass_46 rfl N_X8_133 ?_
        refine v_icmp_le C (t := 55) dX8_brass_48 rfl rfl (fun h8 => ?_) (fun h8 => ?_)
        · skip
          refine v_iconst C (v := 0) dX8_brass_55 rfl rfl ?_
          refine w_invVr C [.int (0)] 0 0 L_X8_145 (c_X8_holdsTo (s := s) (t := t)  hst hG hL 0) (m0 (s := s) (t := t) (g := G.2.2.1) hL) rfl rfl rfl rfl dX8_brass_56 rfl kx_no (fun h9 => ?_)
          refine v_ifB_ne C (t := 64) dX8_brass_59 rfl rfl (fun _ => ?_) (fun h => absurd (by decide) h)
          refine v_aload_n C dX8_brass_64 rfl 1 rfl ?_
          refine v_get C (v := .ref (a 1 14)) g_X8_38 (m0 (s := s) (t := ((su t 45 0 0))) (g := G.2.2.1) hL) (rg (by decide) rfl) dX8_brass_65 rfl ?_
          refine v_iload_n C dX8_brass_68 rfl 2 rfl ?_
          refine v_dup2 C dX8_brass_69 rfl rfl rfl ?_
          refine v_iald C (len := 12) (m1 (s := s) (t := ((su t 45 0 0))) (g := G.2.2.1) hL 14 rfl) (vp_cnt (by assumption) hm hm12 (by decide)) dX8_brass_70 rfl ?_
          refine xx_top (y := t 14 (tn x)) rfl ?_
          refine v_iload_n C dX8_brass_71 rfl 3 rfl ?_
          refine v_iadd C dX8_brass_72 rfl ?_
          refine v_iastE C (len := 12) (tn x) (put_m1 (s := s) (t := ((su t 45 0 0))) (g := G.2.2.1) hL 14 rfl (tn x) ((t 14 (tn x)) + m)) rfl (vp_cnt (by assumption) hm hm12 (by decide)) dX8_brass_73 rfl ?_
          refine v_aload_n C dX8_brass_74 rfl 1 rfl ?_
          refine v_get C (v := .ref (a 1 14)) g_X8_38 (m0 (s := s) (t := ((su (su t 45 0 0) 14 (tn x) ((t 14 (tn x)) + m)))) (g := G.2.2.1) hL) (rg (by decide) rfl) dX8_brass_75 rfl ?_
          refine v_iload_n C dX8_brass_78 rfl 2 rfl ?_
          refine v_iald C (len := 12) (m1 (s := s) (t := ((su (su t 45 0 0) 14 (tn x) ((t 14 (tn x)) + m)))) (g := G.2.2.1) hL 14 rfl) (vp_cnt (by assumption) hm hm12 (by decide)) dX8_brass_79 rfl ?_
          refine xx_top (y := (t 14 (tn x)) + m) (su_a (s := (su t 45 0 0)) (k := 14) (i := tn x) (v := (t 14 (tn x)) + m)) ?_
          exact v_iret C (by decide) (by decide) dX8_brass_80 ⟨congrArg (fun z => some (Value.int z)) (by first | rfl | (simp only [h2, h4, h6, h8, Int32.not_lt.mpr h8, pM, pU, heldM_45, gvW_45, inW_45, livN_45, sum9_45, sum13_45, brassE, brassR, brassU, bI, pM, pU, n10, n20, n30, n0, if_true, if_false, ite_true, ite_false, not_true_eq_false, not_false_eq_true, and_true, true_and, and_false, false_and, or_true, true_or, or_false, false_or, reduceIte, and_self, or_self, ne_eq, eq_self_iff_true]; first | done | rfl) | (simp [bI, h2, h4, h6, h8, Int32.not_lt.mpr h8, pM, pU, heldM_45, gvW_45, inW_45, livN_45, sum9_45, sum13_45, brassE, brassR, brassU]; done) | (simp only [pM, pU, heldM_45, gvW_45, inW_45, livN_45, sum9_45, sum13_45, brassE, brassR, brassU, bI, ← Int32.not_le] at *; simp [h2, h4, h6, h8, Int32.not_lt.mpr h8]; done) | (simp_all [bI, h2, h4, h6, h8, Int32.not_lt.mpr h8, pM, pU, heldM_45, gvW_45, inW_45, livN_45, sum9_45, sum13_45, brassE, brassR, brassU]; done) | (simp_all [bI, h2, h4, h6, h8, Int32.not_lt.mpr h8, pM, pU, heldM_45, gvW_45, inW_45, livN_45, sum9_45, sum13_45, brassE, brassR, brassU]; rfl) | (exfalso; omega)), by first | rfl | (simp only [h2, h4, h6, h8, Int32.not_lt.mpr h8, pM, pU, heldM_45, gvW_45, inW_45, livN_45, sum9_45, sum13_45, brassE, brassR, brassU, bI, pM, pU, n10, n20, n30, n0, if_true, if_false, ite_true, ite_false, not_true_eq_false, not_false_eq_true, and_true, true_and, and_false, false_and, or_true, true_or, or_false, false_or, reduceIte, and_self, or_self, ne_eq, eq_self_iff_true]; first | done | rfl) | (simp [bI, h2, h4, h6, h8, Int32.not_lt.mpr h8, pM, pU, heldM_45, gvW_45, inW_45, livN_45, sum9_45, sum13_45, brassE, brassR, brassU]; done) | (simp only [pM, pU, heldM_45, gvW_45, inW_45, livN_45, sum9_45, sum13_45, brassE, brassR, brassU, bI, ← Int32.not_le] at *; simp [h2, h4, h6, h8, Int32.not_lt.mpr h8]; done) | (simp_all [bI, h2, h4, h6, h8, Int32.not_lt.mpr h8, pM, pU, heldM_45, gvW_45, inW_45, livN_45, sum9_45, sum13_45, brassE, brassR, brassU]; done) | (simp_all [bI, h2, h4, h6, h8, Int32.not_lt.mpr h8, pM, pU, heldM_45, gvW_45, inW_45, livN_45, sum9_45, sum13_45, brassE, brassR, brassU]; rfl) | (exfalso; omega), by trivial⟩
        · skip
          refine v_iconst C (v := 3) dX8_brass_51 rfl rfl ?_
          refine v_goto C (q := 56) dX8_brass_52 rfl ?_
          refine w_invVr C [.int (3)] 0 0 L_X8_145 (c_X8_holdsTo (s := s) (t := t)  hst hG hL 3) (m0 (s := s) (t := t) (g := G.2.2.1) hL) rfl rfl rfl rfl dX8_brass_56 rfl kx_no (fun h10 => ?_)
          refine v_ifB_ne C (t := 64) dX8_brass_59 rfl rfl (fun h => absurd h (by decide)) (fun _ => ?_)
          refine v_iconst C (v := 0) dX8_brass_62 rfl rfl ?_
          exact v_iret C (by decide) (by decide) dX8_brass_63 ⟨congrArg (fun z => some (Value.int z)) (by first | rfl | (simp only [h2, h4, h6, h8, Int32.not_le.mp h8, pM, pU, heldM_45, gvW_45, inW_45, livN_45, sum9_45, sum13_45, brassE, brassR, brassU, bI, pM, pU, n10, n20, n30, n0, if_true, if_false, ite_true, ite_false, not_true_eq_false, not_false_eq_true, and_true, true_and, and_false, false_and, or_true, true_or, or_false, false_or, reduceIte, and_self, or_self, ne_eq, eq_self_iff_true]; first | done | rfl) | (simp [bI, h2, h4, h6, h8, Int32.not_le.mp h8, pM, pU, heldM_45, gvW_45, inW_45, livN_45, sum9_45, sum13_45, brassE, brassR, brassU]; done) | (simp only [pM, pU, heldM_45, gvW_45, inW_45, livN_45, sum9_45, sum13_45, brassE, brassR, brassU, bI, ← Int32.not_le] at *; simp [h2, h4, h6, h8, Int32.not_le.mp h8]; done) | (simp_all [bI, h2, h4, h6, h8, Int32.not_le.mp h8, pM, pU, heldM_45, gvW_45, inW_45, livN_45, sum9_45, sum13_45, brassE, brassR, brassU]; done) | (simp_all [bI, h2, h4, h6, h8, Int32.not_le.mp h8, pM, pU, heldM_45, gvW_45, inW_45, livN_45, sum9_45, sum13_45, brassE, brassR, brassU]; rfl) | (exfalso; omega)), by first | rfl | (simp only [h2, h4, h6, h8, Int32.not_le.mp h8, pM, pU, heldM_45, gvW_45, inW_45, livN_45, sum9_45, sum13_45, brassE, brassR, brassU, bI, pM, pU, n10, n20, n30, n0, if_true, if_false, ite_true, ite_false, not_true_eq_false, not_false_eq_true, and_true, true_and, and_false, false_and, or_true, true_or, or_false, false_or, reduceIte, and_self, or_self, ne_eq, eq_self_iff_true]; first | done | rfl) | (simp [bI, h2, h4, h6, h8, Int32.not_le.mp h8, pM, pU, heldM_45, gvW_45, inW_45, livN_45, sum9_45, sum13_45, brassE, brassR, brassU]; done) | (simp only [pM, pU, heldM_45, gvW_45, inW_45, livN_45, sum9_45, sum13_45, brassE, brassR, brassU, bI, ← Int32.not_le] at *; simp [h2, h4, h6, h8, Int32.not_le.mp h8]; done) | (simp_all [bI, h2, h4, h6, h8, Int32.not_le.mp h8, pM, pU, heldM_45, gvW_45, inW_45, livN_45, sum9_45, sum13_45, brassE, brassR, brassU]; done) | (simp_all [bI, h2, h4, h6, h8, Int32.not_le.mp h8, pM, pU, heldM_45, gvW_45, inW_45, livN_45, sum9_45, sum13_45, brassE, brassR, brassU]; rfl) | (exfalso; omega), by trivial⟩
    · skip
      refine v_iconst C (v := 2) dX8_brass_26 rfl rfl ?_
      refine v_goto C (q := 56) dX8_brass_27 rfl ?_
      refine w_invVr C [.int (2)] 0 0 L_X8_145 (c_X8_holdsTo (s := s) (t := t)  hst hG hL 2) (m0 (s := s) (t := t) (g := G.2.2.1) hL) rfl rfl rfl rfl dX8_brass_56 rfl kx_no (fun h11 => ?_)
      refine v_ifB_ne C (t := 64) dX8_brass_59 rfl rfl (fun h => absurd h (by decide)) (fun _ => ?_)
      refine v_iconst C (v := 0) dX8_brass_62 rfl rfl ?_
      exact v_iret C (by decide) (by decide) dX8_brass_63 ⟨congrArg (fun z => some (Value.int z)) (by first | rfl | (simp only [h2, h4, pM, pU, heldM_45, gvW_45, inW_45, livN_45, sum9_45, sum13_45, brassE, brassR, brassU, bI, pM, pU, n10, n20, n30, n0, if_true, if_false, ite_true, ite_false, not_true_eq_false, not_false_eq_true, and_true, true_and, and_false, false_and, or_true, true_or, or_false, false_or, reduceIte, and_self, or_self, ne_eq, eq_self_iff_true]; first | done | rfl) | (simp [bI, h2, h4, pM, pU, heldM_45, gvW_45, inW_45, livN_45, sum9_45, sum13_45, brassE, brassR, brassU]; done) | (simp only [pM, pU, heldM_45, gvW_45, inW_45, livN_45, sum9_45, sum13_45, brassE, brassR, brassU, bI, ← Int32.not_le] at *; simp [h2, h4]; done) | (simp_all [bI, h2, h4, pM, pU, heldM_45, gvW_45, inW_45, livN_45, sum9_45, sum13_45, brassE, brassR, brassU]; done) | (simp_all [bI, h2, h4, pM, pU, heldM_45, gvW_45, inW_45, livN_45, sum9_45, sum13_45, brassE, brassR, brassU]; rfl) | (exfalso; omega)), by first | rfl | (simp only [h2, h4, pM, pU, heldM_45, gvW_45, inW_45, livN_45, sum9_45, sum13_45, brassE, brassR, brassU, bI, pM, pU, n10, n20, n30, n0, if_true, if_false, ite_true, ite_false, not_true_eq_false, not_false_eq_true, and_true, true_and, and_false, false_and, or_true, true_or, or_false, false_or, reduceIte, and_self, or_self, ne_eq, eq_self_iff_true]; first | done | rfl) | (simp [bI, h2, h4, pM, pU, heldM_45, gvW_45, inW_45, livN_45, sum9_45, sum13_45, brassE, brassR, brassU]; done) | (simp only [pM, pU, heldM_45, gvW_45, inW_45, livN_45, sum9_45, sum13_45, brassE, brassR, brassU, bI, ← Int32.not_le] at *; simp [h2, h4]; done) | (simp_all [bI, h2, h4, pM, pU, heldM_45, gvW_45, inW_45, livN_45, sum9_45, sum13_45, brassE, brassR, brassU]; done) | (simp_all [bI, h2, h4, pM, pU, heldM_45, gvW_45, inW_45, livN_45, sum9_45, sum13_45, brassE, brassR, brassU]; rfl) | (exfalso; omega), by trivial⟩
  · skip
    refine v_iconst C (v := 1) dX8_brass_11 rfl rfl ?_
    refine v_goto C (q := 56) dX8_brass_12 rfl ?_
    refine w_invVr C [.int (1)] 0 0 L_X8_145 (c_X8_holdsTo (s := s) (t := t)  hst hG hL 1) (m0 (s := s) (t := t) (g := G.2.2.1) hL) rfl rfl rfl rfl dX8_brass_56 rfl kx_no (fun h12 => ?_)
    refine v_ifB_ne C (t := 64) dX8_brass_59 rfl rfl (fun h => absurd h (by decide)) (fun _ => ?_)
    refine v_iconst C (v := 0) dX8_brass_62 rfl rfl ?_
    exact v_iret C (by decide) (by decide) dX8_brass_63 ⟨congrArg (fun z => some (Value.int z)) (by first | rfl | (simp only [h2, pM, pU, heldM_45, gvW_45, inW_45, livN_45, sum9_45, sum13_45, brassE, brassR, brassU, bI, pM, pU, n10, n20, n30, n0, if_true, if_false, ite_true, ite_false, not_true_eq_false, not_false_eq_true, and_true, true_and, and_false, false_and, or_true, true_or, or_false, false_or, reduceIte, and_self, or_self, ne_eq, eq_self_iff_true]; first | done | rfl) | (simp [bI, h2, pM, pU, heldM_45, gvW_45, inW_45, livN_45, sum9_45, sum13_45, brassE, brassR, brassU]; done) | (simp only [pM, pU, heldM_45, gvW_45, inW_45, livN_45, sum9_45, sum13_45, brassE, brassR, brassU, bI, ← Int32.not_le] at *; simp [h2]; done) | (simp_all [bI, h2, pM, pU, heldM_45, gvW_45, inW_45, livN_45, sum9_45, sum13_45, brassE, brassR, brassU]; done) | (simp_all [bI, h2, pM, pU, heldM_45, gvW_45, inW_45, livN_45, sum9_45, sum13_45, brassE, brassR, brassU]; rfl) | (exfalso; omega)), by first | rfl | (simp only [h2, pM, pU, heldM_45, gvW_45, inW_45, livN_45, sum9_45, sum13_45, brassE, brassR, brassU, bI, pM, pU, n10, n20, n30, n0, if_true, if_false, ite_true, ite_false, not_true_eq_false, not_false_eq_true, and_true, true_and, and_false, false_and, or_true, true_or, or_false, false_or, reduceIte, and_self, or_self, ne_eq, eq_self_iff_true]; first | done | rfl) | (simp [bI, h2, pM, pU, heldM_45, gvW_45, inW_45, livN_45, sum9_45, sum13_45, brassE, brassR, brassU]; done) | (simp only [pM, pU, heldM_45, gvW_45, inW_45, livN_45, sum9_45, sum13_45, brassE, brassR, brassU, bI, ← Int32.not_le] at *; simp [h2]; done) | (simp_all [bI, h2, pM, pU, heldM_45, gvW_45, inW_45, livN_45, sum9_45, sum13_45, brassE, brassR, brassU]; done) | (simp_all [bI, h2, pM, pU, heldM_45, gvW_45, inW_45, livN_45, sum9_45, sum13_45, brassE, brassR, brassU]; rfl) | (exfalso; omega), by trivial⟩

abbrev r_X8_rumour : Room := { frames := 2, cells := 0, slots := 0, locals := 42 }
set_option maxRecDepth 4000 in
theorem c_X8_rumour {l : Launch} {G : GG} {a : AD} {s t s0 : SS} {L : List (Nat × Nat)}  (hst : l.stackTraces = false) (hG : GOK G) (hL : Live L s0) (c : Int32) (b : Int32)  : Mth l yX8_rumour cX8_rumour 4 (Option.some Jvm.ClassFile.FieldType.int) r_X8_rumour G (wl a (E G.2.2.1 a s t) L) [.ref (a 0 0), .int c, .int b] (RI (.int (pM (rumourE t c b) (rumourR t c b))) (wl a (E G.2.2.1 a s (pU (rumourE t c b) (rumourU (su t 45 0 0) c b) t)) L) (True)) nX := by
  refine mth_of rfl (Nat.le_of_ble_eq_true rfl) hst hG (fun X hX C0 => ?_)
  subst hX
  have C : Cx X G cX8_rumour 4 RX8 (Option.some Jvm.ClassFile.FieldType.int) r_X8_rumour "rumour" [] := C0
  clear C0
  show V X G 4 _ 0 0 _ 0 [(0, .ref (a 0 0)), (1, .int (c)), (2, .int (b))] []
  refine v_aload_n C dX8_rumour_0 rfl 0 rfl ?_
  refine v_iload_n C dX8_rumour_1 rfl 1 rfl ?_
  refine w_invSr C [.int (c)] 0 0 L_X8_134 (c_X8_isCell (s := s) (t := t)  hst hG hL c) rfl rfl rfl dX8_rumour_2 rfl kx_no (fun h1 => ?_)
  refine v_ifB_ne C (t := 12) dX8_rumour_5 rfl rfl (fun h2 => ?_) (fun h2 => ?_)
  · skip
    refine v_iload_n C dX8_rumour_12 rfl 2 rfl ?_
    refine v_iconst C (v := 0) dX8_rumour_13 rfl rfl ?_
    refine v_bipush C (v := 100) dX8_rumour_14 rfl rfl ?_
    refine w_invSr C [.int (b), .int (0), .int (100)] 0 0 L_X8_123 (c_X8_isIn (s := s) (t := t)  hst hG hL b 0 100) rfl rfl rfl dX8_rumour_16 rfl kx_no (fun h3 => ?_)
    refine v_ifB_eq C (t := 26) dX8_rumour_19 rfl rfl (fun h4 => ?_) (fun h4 => ?_)
    · skip
      refine v_iconst C (v := 2) dX8_rumour_26 rfl rfl ?_
      refine w_invVr C [.int (2)] 0 0 L_X8_145 (c_X8_holdsTo (s := s) (t := t)  hst hG hL 2) (m0 (s := s) (t := t) (g := G.2.2.1) hL) rfl rfl rfl rfl dX8_rumour_27 rfl kx_no (fun h5 => ?_)
      refine v_ifB_ne C (t := 35) dX8_rumour_30 rfl rfl (fun h => absurd h (by decide)) (fun _ => ?_)
      refine v_iconst C (v := 0) dX8_rumour_33 rfl rfl ?_
      exact v_iret C (by decide) (by decide) dX8_rumour_34 ⟨congrArg (fun z => some (Value.int z)) (by first | rfl | (simp only [h2, h4, pM, pU, heldM_45, gvW_45, inW_45, livN_45, sum9_45, sum13_45, rumourE, rumourR, rumourU, bI, pM, pU, n10, n20, n30, n0, if_true, if_false, ite_true, ite_false, not_true_eq_false, not_false_eq_true, and_true, true_and, and_false, false_and, or_true, true_or, or_false, false_or, reduceIte, and_self, or_self, ne_eq, eq_self_iff_true]; first | done | rfl) | (simp [bI, h2, h4, pM, pU, heldM_45, gvW_45, inW_45, livN_45, sum9_45, sum13_45, rumourE, rumourR, rumourU]; done) | (simp only [pM, pU, heldM_45, gvW_45, inW_45, livN_45, sum9_45, sum13_45, rumourE, rumourR, rumourU, bI, ← Int32.not_le] at *; simp [h2, h4]; done) | (simp_all [bI, h2, h4, pM, pU, heldM_45, gvW_45, inW_45, livN_45, sum9_45, sum13_45, rumourE, rumourR, rumourU]; done) | (simp_all [bI, h2, h4, pM, pU, heldM_45, gvW_45, inW_45, livN_45, sum9_45, sum13_45, rumourE, rumourR, rumourU]; rfl) | (exfalso; omega)), by first | rfl | (simp only [h2, h4, pM, pU, heldM_45, gvW_45, inW_45, livN_45, sum9_45, sum13_45, rumourE, rumourR, rumourU, bI, pM, pU, n10, n20, n30, n0, if_true, if_false, ite_true, ite_false, not_true_eq_false, not_false_eq_true, and_true, true_and, and_false, false_and, or_true, true_or, or_false, false_or, reduceIte, and_self, or_self, ne_eq, eq_self_iff_true]; first | done | rfl) | (simp [bI, h2, h4, pM, pU, heldM_45, gvW_45, inW_45, livN_45, sum9_45, sum13_45, rumourE, rumourR, rumourU]; done) | (simp only [pM, pU, heldM_45, gvW_45, inW_45, livN_45, sum9_45, sum13_45, rumourE, rumourR, rumourU, bI, ← Int32.not_le] at *; simp [h2, h4]; done) | (simp_all [bI, h2, h4, pM, pU, heldM_45, gvW_45, inW_45, livN_45, sum9_45, sum13_45, rumourE, rumourR, rumourU]; done) | (simp_all [bI, h2, h4, pM, pU, heldM_45, gvW_45, inW_45, livN_45, sum9_45, sum13_45, rumourE, rumourR, rumourU]; rfl) | (exfalso; omega), by trivial⟩
    · skip
      refine v_iconst C (v := 0) dX8_rumour_22 rfl rfl ?_
      refine v_goto C (q := 27) dX8_rumour_23 rfl ?_
      refine w_invVr C [.int (0)] 0 0 L_X8_145 (c_X8_holdsTo (s := s) (t := t)  hst hG hL 0) (m0 (s := s) (t := t) (g := G.2.2.1) hL) rfl rfl rfl rfl dX8_rumour_27 rfl kx_no (fun h6 => ?_)
      refine v_ifB_ne C (t := 35) dX8_rumour_30 rfl rfl (fun _ => ?_) (fun h => absurd (by decide) h)
      refine v_aload_n C dX8_rumour_35 rfl 0 rfl ?_
      refine v_get C (v := .ref (a 1 11)) g_X8_32 (m0 (s := s) (t := ((su t 45 0 0))) (g := G.2.2.1) hL) (rg (by decide) rfl) dX8_rumour_36 rfl ?_
      refine v_iload_n C dX8_rumour_39 rfl 1 rfl ?_
      refine v_iald C (len := 40) (m1 (s := s) (t := ((su t 45 0 0))) (g := G.2.2.1) hL 11 rfl) (vp_rng (n := 39) rfl (by decide) (by assumption)) dX8_rumour_40 rfl ?_
      refine xx_top (y := t 11 (tn c)) rfl ?_
      refine v_istore_n C (lv1 := [(3, .int (t 11 (tn c))), (0, .ref (a 0 0)), (1, .int (c)), (2, .int (b))]) dX8_rumour_41 rfl (by decide) rfl ?_
      refine v_aload_n C dX8_rumour_42 rfl 1 rfl ?_
      refine v_get C (v := .ref (a 1 11)) g_X8_32 (m0 (s := s) (t := ((su t 45 0 0))) (g := G.2.2.1) hL) (rg (by decide) rfl) dX8_rumour_43 rfl ?_
      refine v_iload_n C dX8_rumour_46 rfl 2 rfl ?_
      refine v_iload_n C dX8_rumour_47 rfl 3 rfl ?_
      refine v_iastE C (len := 40) (tn c) (put_m1 (s := s) (t := ((su t 45 0 0))) (g := G.2.2.1) hL 11 rfl (tn c) b) rfl (vp_rng (n := 39) rfl (by decide) (by assumption)) dX8_rumour_48 rfl ?_
      refine v_iload_n C dX8_rumour_49 rfl 0 rfl ?_
      exact v_iret C (by decide) (by decide) dX8_rumour_50 ⟨congrArg (fun z => some (Value.int z)) (by first | rfl | (simp only [h2, h4, pM, pU, heldM_45, gvW_45, inW_45, livN_45, sum9_45, sum13_45, rumourE, rumourR, rumourU, bI, pM, pU, n10, n20, n30, n0, if_true, if_false, ite_true, ite_false, not_true_eq_false, not_false_eq_true, and_true, true_and, and_false, false_and, or_true, true_or, or_false, false_or, reduceIte, and_self, or_self, ne_eq, eq_self_iff_true]; first | done | rfl) | (simp [bI, h2, h4, pM, pU, heldM_45, gvW_45, inW_45, livN_45, sum9_45, sum13_45, rumourE, rumourR, rumourU]; done) | (simp only [pM, pU, heldM_45, gvW_45, inW_45, livN_45, sum9_45, sum13_45, rumourE, rumourR, rumourU, bI, ← Int32.not_le] at *; simp [h2, h4]; done) | (simp_all [bI, h2, h4, pM, pU, heldM_45, gvW_45, inW_45, livN_45, sum9_45, sum13_45, rumourE, rumourR, rumourU]; done) | (simp_all [bI, h2, h4, pM, pU, heldM_45, gvW_45, inW_45, livN_45, sum9_45, sum13_45, rumourE, rumourR, rumourU]; rfl) | (exfalso; omega)), by first | rfl | (simp only [h2, h4, pM, pU, heldM_45, gvW_45, inW_45, livN_45, sum9_45, sum13_45, rumourE, rumourR, rumourU, bI, pM, pU, n10, n20, n30, n0, if_true, if_false, ite_true, ite_false, not_true_eq_false, not_false_eq_true, and_true, true_and, and_false, false_and, or_true, true_or, or_false, false_or, reduceIte, and_self, or_self, ne_eq, eq_self_iff_true]; first | done | rfl) | (simp [bI, h2, h4, pM, pU, heldM_45, gvW_45, inW_45, livN_45, sum9_45, sum13_45, rumourE, rumourR, rumourU]; done) | (simp only [pM, pU, heldM_45, gvW_45, inW_45, livN_45, sum9_45, sum13_45, rumourE, rumourR, rumourU, bI, ← Int32.not_le] at *; simp [h2, h4]; done) | (simp_all [bI, h2, h4, pM, pU, heldM_45, gvW_45, inW_45, livN_45, sum9_45, sum13_45, rumourE, rumourR, rumourU]; done) | (simp_all [bI, h2, h4, pM, pU, heldM_45, gvW_45, inW_45, livN_45, sum9_45, sum13_45, rumourE, rumourR, rumourU]; rfl) | (exfalso; omega), by trivial⟩
  · skip
    refine v_iconst C (v := 1) dX8_rumour_8 rfl rfl ?_
    refine v_goto C (q := 27) dX8_rumour_9 rfl ?_
    refine w_invVr C [.int (1)] 0 0 L_X8_145 (c_X8_holdsTo (s := s) (t := t)  hst hG hL 1) (m0 (s := s) (t := t) (g := G.2.2.1) hL) rfl rfl rfl rfl dX8_rumour_27 rfl kx_no (fun h7 => ?_)
    refine v_ifB_ne C (t := 35) dX8_rumour_30 rfl rfl (fun h => absurd h (by decide)) (fun _ => ?_)
    refine v_iconst C (v := 0) dX8_rumour_33 rfl rfl ?_
    exact v_iret C (by decide) (by decide) dX8_rumour_34 ⟨congrArg (fun z => some (Value.int z)) (by first | rfl | (simp only [h2, pM, pU, heldM_45, gvW_45, inW_45, livN_45, sum9_45, sum13_45, rumourE, rumourR, rumourU, bI, pM, pU, n10, n20, n30, n0, if_true, if_false, ite_true, ite_false, not_true_eq_false, not_false_eq_true, and_true, true_and, and_false, false_and, or_true, true_or, or_false, false_or, reduceIte, and_self, or_self, ne_eq, eq_self_iff_true]; first | done | rfl) | (simp [bI, h2, pM, pU, heldM_45, gvW_45, inW_45, livN_45, sum9_45, sum13_45, rumourE, rumourR, rumourU]; done) | (simp only [pM, pU, heldM_45, gvW_45, inW_45, livN_45, sum9_45, sum13_45, rumourE, rumourR, rumourU, bI, ← Int32.not_le] at *; simp [h2]; done) | (simp_all [bI, h2, pM, pU, heldM_45, gvW_45, inW_45, livN_45, sum9_45, sum13_45, rumourE, rumourR, rumourU]; done) | (simp_all [bI, h2, pM, pU, heldM_45, gvW_45, inW_45, livN_45, sum9_45, sum13_45, rumourE, rumourR, rumourU]; rfl) | (exfalso; omega)), by first | rfl | (simp only [h2, pM, pU, heldM_45, gvW_45, inW_45, livN_45, sum9_45, sum13_45, rumourE, rumourR, rumourU, bI, pM, pU, n10, n20, n30, n0, if_true, if_false, ite_true, ite_false, not_true_eq_false, not_false_eq_true, and_true, true_and, and_false, false_and, or_true, true_or, or_false, false_or, reduceIte, and_self, or_self, ne_eq, eq_self_iff_true]; first | done | rfl) | (simp [bI, h2, pM, pU, heldM_45, gvW_45, inW_45, livN_45, sum9_45, sum13_45, rumourE, rumourR, rumourU]; done) | (simp only [pM, pU, heldM_45, gvW_45, inW_45, livN_45, sum9_45, sum13_45, rumourE, rumourR, rumourU, bI, ← Int32.not_le] at *; simp [h2]; done) | (simp_all [bI, h2, pM, pU, heldM_45, gvW_45, inW_45, livN_45, sum9_45, sum13_45, rumourE, rumourR, rumourU]; done) | (simp_all [bI, h2, pM, pU, heldM_45, gvW_45, inW_45, livN_45, sum9_45, sum13_45, rumourE, rumourR, rumourU]; rfl) | (exfalso; omega), by trivial⟩

abbrev r_X8_belief : Room := { frames := 2, cells := 0, slots := 0, locals := 42 }
set_option maxRecDepth 4000 in
theorem c_X8_belief {l : Launch} {G : GG} {a : AD} {s t s0 : SS} {L : List (Nat × Nat)}  (hst : l.stackTraces = false) (hG : GOK G) (hL : Live L s0) (c : Int32)  : Mth l yX8_belief cX8_belief 2 (Option.some Jvm.ClassFile.FieldType.int) r_X8_belief G (wl a (E G.2.2.1 a s t) L) [.ref (a 0 0), .int c] (RI (.int (pM (beliefE t c) (beliefR t c))) (wl a (E G.2.2.1 a s (pU (beliefE t c) (su t 45 0 0) t)) L) (True)) nX := by
  refine mth_of rfl (Nat.le_of_ble_eq_true rfl) hst hG (fun X hX C0 => ?_)
  subst hX
  have C : Cx X G cX8_belief 2 RX8 (Option.some Jvm.ClassFile.FieldType.int) r_X8_belief "belief" [] := C0
  clear C0
  show V X G 2 _ 0 0 _ 0 [(0, .ref (a 0 0)), (1, .int (c))] []
  refine v_aload_n C dX8_belief_0 rfl 0 rfl ?_
  refine v_iload_n C dX8_belief_1 rfl 1 rfl ?_
  refine w_invSr C [.int (c)] 0 0 L_X8_134 (c_X8_isCell (s := s) (t := t)  hst hG hL c) rfl rfl rfl dX8_belief_2 rfl kx_no (fun h1 => ?_)
  refine v_ifB_eq C (t := 12) dX8_belief_5 rfl rfl (fun h2 => ?_) (fun h2 => ?_)
  · skip
    refine v_iconst C (v := 1) dX8_belief_12 rfl rfl ?_
    refine w_invVr C [.int (1)] 0 0 L_X8_145 (c_X8_holdsTo (s := s) (t := t)  hst hG hL 1) (m0 (s := s) (t := t) (g := G.2.2.1) hL) rfl rfl rfl rfl dX8_belief_13 rfl kx_no (fun h3 => ?_)
    refine v_ifB_eq C (t := 28) dX8_belief_16 rfl rfl (fun _ => ?_) (fun h => absurd h (by decide))
    refine v_iconst C (v := 0) dX8_belief_28 rfl rfl ?_
    exact v_iret C (by decide) (by decide) dX8_belief_29 ⟨congrArg (fun z => some (Value.int z)) (by first | rfl | (simp only [h2, pM, pU, heldM_45, gvW_45, inW_45, livN_45, sum9_45, sum13_45, beliefE, beliefR, bI, pM, pU, n10, n20, n30, n0, if_true, if_false, ite_true, ite_false, not_true_eq_false, not_false_eq_true, and_true, true_and, and_false, false_and, or_true, true_or, or_false, false_or, reduceIte, and_self, or_self, ne_eq, eq_self_iff_true]; first | done | rfl) | (simp [bI, h2, pM, pU, heldM_45, gvW_45, inW_45, livN_45, sum9_45, sum13_45, beliefE, beliefR]; done) | (simp only [pM, pU, heldM_45, gvW_45, inW_45, livN_45, sum9_45, sum13_45, beliefE, beliefR, bI, ← Int32.not_le] at *; simp [h2]; done) | (simp_all [bI, h2, pM, pU, heldM_45, gvW_45, inW_45, livN_45, sum9_45, sum13_45, beliefE, beliefR]; done) | (simp_all [bI, h2, pM, pU, heldM_45, gvW_45, inW_45, livN_45, sum9_45, sum13_45, beliefE, beliefR]; rfl) | (exfalso; omega)), by first | rfl | (simp only [h2, pM, pU, heldM_45, gvW_45, inW_45, livN_45, sum9_45, sum13_45, beliefE, beliefR, bI, pM, pU, n10, n20, n30, n0, if_true, if_false, ite_true, ite_false, not_true_eq_false, not_false_eq_true, and_true, true_and, and_false, false_and, or_true, true_or, or_false, false_or, reduceIte, and_self, or_self, ne_eq, eq_self_iff_true]; first | done | rfl) | (simp [bI, h2, pM, pU, heldM_45, gvW_45, inW_45, livN_45, sum9_45, sum13_45, beliefE, beliefR]; done) | (simp only [pM, pU, heldM_45, gvW_45, inW_45, livN_45, sum9_45, sum13_45, beliefE, beliefR, bI, ← Int32.not_le] at *; simp [h2]; done) | (simp_all [bI, h2, pM, pU, heldM_45, gvW_45, inW_45, livN_45, sum9_45, sum13_45, beliefE, beliefR]; done) | (simp_all [bI, h2, pM, pU, heldM_45, gvW_45, inW_45, livN_45, sum9_45, sum13_45, beliefE, beliefR]; rfl) | (exfalso; omega), by trivial⟩
  · skip
    refine v_iconst C (v := 0) dX8_belief_8 rfl rfl ?_
    refine v_goto C (q := 13) dX8_belief_9 rfl ?_
    refine w_invVr C [.int (0)] 0 0 L_X8_145 (c_X8_holdsTo (s := s) (t := t)  hst hG hL 0) (m0 (s := s) (t := t) (g := G.2.2.1) hL) rfl rfl rfl rfl dX8_belief_13 rfl kx_no (fun h4 => ?_)
    refine v_ifB_eq C (t := 28) dX8_belief_16 rfl rfl (fun h => absurd (by decide) h) (fun _ => ?_)
    refine v_aload_n C dX8_belief_19 rfl 0 rfl ?_
    refine v_get C (v := .ref (a 1 11)) g_X8_32 (m0 (s := s) (t := ((su t 45 0 0))) (g := G.2.2.1) hL) (rg (by decide) rfl) dX8_belief_20 rfl ?_
    refine v_iload_n C dX8_belief_23 rfl 1 rfl ?_
    refine v_iald C (len := 40) (m1 (s := s) (t := ((su t 45 0 0))) (g := G.2.2.1) hL 11 rfl) (vp_rng (n := 39) rfl (by decide) (by assumption)) dX8_belief_24 rfl ?_
    refine xx_top (y := t 11 (tn c)) rfl ?_
    refine v_goto C (q := 29) dX8_belief_25 rfl ?_
    exact v_iret C (by decide) (by decide) dX8_belief_29 ⟨congrArg (fun z => some (Value.int z)) (by first | rfl | (simp only [h2, pM, pU, heldM_45, gvW_45, inW_45, livN_45, sum9_45, sum13_45, beliefE, beliefR, bI, pM, pU, n10, n20, n30, n0, if_true, if_false, ite_true, ite_false, not_true_eq_false, not_false_eq_true, and_true, true_and, and_false, false_and, or_true, true_or, or_false, false_or, reduceIte, and_self, or_self, ne_eq, eq_self_iff_true]; first | done | rfl) | (simp [bI, h2, pM, pU, heldM_45, gvW_45, inW_45, livN_45, sum9_45, sum13_45, beliefE, beliefR]; done) | (simp only [pM, pU, heldM_45, gvW_45, inW_45, livN_45, sum9_45, sum13_45, beliefE, beliefR, bI, ← Int32.not_le] at *; simp [h2]; done) | (simp_all [bI, h2, pM, pU, heldM_45, gvW_45, inW_45, livN_45, sum9_45, sum13_45, beliefE, beliefR]; done) | (simp_all [bI, h2, pM, pU, heldM_45, gvW_45, inW_45, livN_45, sum9_45, sum13_45, beliefE, beliefR]; rfl) | (exfalso; omega)), by first | rfl | (simp only [h2, pM, pU, heldM_45, gvW_45, inW_45, livN_45, sum9_45, sum13_45, beliefE, beliefR, bI, pM, pU, n10, n20, n30, n0, if_true, if_false, ite_true, ite_false, not_true_eq_false, not_false_eq_true, and_true, true_and, and_false, false_and, or_true, true_or, or_false, false_or, reduceIte, and_self, or_self, ne_eq, eq_self_iff_true]; first | done | rfl) | (simp [bI, h2, pM, pU, heldM_45, gvW_45, inW_45, livN_45, sum9_45, sum13_45, beliefE, beliefR]; done) | (simp only [pM, pU, heldM_45, gvW_45, inW_45, livN_45, sum9_45, sum13_45, beliefE, beliefR, bI, ← Int32.not_le] at *; simp [h2]; done) | (simp_all [bI, h2, pM, pU, heldM_45, gvW_45, inW_45, livN_45, sum9_45, sum13_45, beliefE, beliefR]; done) | (simp_all [bI, h2, pM, pU, heldM_45, gvW_45, inW_45, livN_45, sum9_45, sum13_45, beliefE, beliefR]; rfl) | (exfalso; omega), by trivial⟩

abbrev r_X8_holds : Room := { frames := 2, cells := 0, slots := 0, locals := 45 }
set_option maxRecDepth 4000 in
theorem c_X8_holds {l : Launch} {G : GG} {a : AD} {s t s0 : SS} {L : List (Nat × Nat)} {nc : Nat} (hst : l.stackTraces = false) (hG : GOK G) (hL : Live L s0) (c : Int32) (hc : t 21 0 = nI nc) (hc30 : nc ≤ 30) : Mth l yX8_holds cX8_holds 2 (Option.some Jvm.ClassFile.FieldType.int) r_X8_holds G (wl a (E G.2.2.1 a s t) L) [.ref (a 0 0), .int c] (RI (.int (pM (holdsE t nc c) (holdsR t nc c))) (wl a (E G.2.2.1 a s (pU (holdsE t nc c) (su t 45 0 0) t)) L) (True)) nX := by
  refine mth_of rfl (Nat.le_of_ble_eq_true rfl) hst hG (fun X hX C0 => ?_)
  subst hX
  have C : Cx X G cX8_holds 2 RX8 (Option.some Jvm.ClassFile.FieldType.int) r_X8_holds "holds" [] := C0
  clear C0
  show V X G 2 _ 0 0 _ 0 [(0, .ref (a 0 0)), (1, .int (c))] []
  refine v_aload_n C dX8_holds_0 rfl 0 rfl ?_
  refine v_iload_n C dX8_holds_1 rfl 1 rfl ?_
  refine w_invSr C [.int (c)] 0 0 L_X8_134 (c_X8_isCell (s := s) (t := t)  hst hG hL c) rfl rfl rfl dX8_holds_2 rfl kx_no (fun h1 => ?_)
  refine v_ifB_eq C (t := 12) dX8_holds_5 rfl rfl (fun h2 => ?_) (fun h2 => ?_)
  · skip
    refine v_iconst C (v := 1) dX8_holds_12 rfl rfl ?_
    refine w_invVr C [.int (1)] 0 0 L_X8_145 (c_X8_holdsTo (s := s) (t := t)  hst hG hL 1) (m0 (s := s) (t := t) (g := G.2.2.1) hL) rfl rfl rfl rfl dX8_holds_13 rfl kx_no (fun h3 => ?_)
    refine v_ifB_eq C (t := 27) dX8_holds_16 rfl rfl (fun _ => ?_) (fun h => absurd h (by decide))
    refine v_iconst C (v := 0) dX8_holds_27 rfl rfl ?_
    exact v_iret C (by decide) (by decide) dX8_holds_28 ⟨congrArg (fun z => some (Value.int z)) (by first | rfl | (simp only [h2, pM, pU, heldM_45, gvW_45, inW_45, livN_45, sum9_45, sum13_45, holdsE, holdsR, bI, pM, pU, n10, n20, n30, n0, if_true, if_false, ite_true, ite_false, not_true_eq_false, not_false_eq_true, and_true, true_and, and_false, false_and, or_true, true_or, or_false, false_or, reduceIte, and_self, or_self, ne_eq, eq_self_iff_true]; first | done | rfl) | (simp [bI, h2, pM, pU, heldM_45, gvW_45, inW_45, livN_45, sum9_45, sum13_45, holdsE, holdsR]; done) | (simp only [pM, pU, heldM_45, gvW_45, inW_45, livN_45, sum9_45, sum13_45, holdsE, holdsR, bI, ← Int32.not_le] at *; simp [h2]; done) | (simp_all [bI, h2, pM, pU, heldM_45, gvW_45, inW_45, livN_45, sum9_45, sum13_45, holdsE, holdsR]; done) | (simp_all [bI, h2, pM, pU, heldM_45, gvW_45, inW_45, livN_45, sum9_45, sum13_45, holdsE, holdsR]; rfl) | (exfalso; omega)), by first | rfl | (simp only [h2, pM, pU, heldM_45, gvW_45, inW_45, livN_45, sum9_45, sum13_45, holdsE, holdsR, bI, pM, pU, n10, n20, n30, n0, if_true, if_false, ite_true, ite_false, not_true_eq_false, not_false_eq_true, and_true, true_and, and_false, false_and, or_true, true_or, or_false, false_or, reduceIte, and_self, or_self, ne_eq, eq_self_iff_true]; first | done | rfl) | (simp [bI, h2, pM, pU, heldM_45, gvW_45, inW_45, livN_45, sum9_45, sum13_45, holdsE, holdsR]; done) | (simp only [pM, pU, heldM_45, gvW_45, inW_45, livN_45, sum9_45, sum13_45, holdsE, holdsR, bI, ← Int32.not_le] at *; simp [h2]; done) | (simp_all [bI, h2, pM, pU, heldM_45, gvW_45, inW_45, livN_45, sum9_45, sum13_45, holdsE, holdsR]; done) | (simp_all [bI, h2, pM, pU, heldM_45, gvW_45, inW_45, livN_45, sum9_45, sum13_45, holdsE, holdsR]; rfl) | (exfalso; omega), by trivial⟩
  · skip
    refine v_iconst C (v := 0) dX8_holds_8 rfl rfl ?_
    refine v_goto C (q := 13) dX8_holds_9 rfl ?_
    refine w_invVr C [.int (0)] 0 0 L_X8_145 (c_X8_holdsTo (s := s) (t := t)  hst hG hL 0) (m0 (s := s) (t := t) (g := G.2.2.1) hL) rfl rfl rfl rfl dX8_holds_13 rfl kx_no (fun h4 => ?_)
    refine v_ifB_eq C (t := 27) dX8_holds_16 rfl rfl (fun h => absurd (by decide) h) (fun _ => ?_)
    refine v_aload_n C dX8_holds_19 rfl 0 rfl ?_
    refine v_iload_n C dX8_holds_20 rfl 1 rfl ?_
    refine w_invVr C [.int (c)] 0 0 L_X8_172 (c_X8_heldAt (s := s) (t := ((su t 45 0 0))) (nc := nc) hst hG hL c hc hc30) (m0 (s := s) (t := ((su t 45 0 0))) (g := G.2.2.1) hL) rfl rfl rfl rfl dX8_holds_21 rfl kx_no (fun h5 => ?_)
    refine v_goto C (q := 28) dX8_holds_24 rfl ?_
    exact v_iret C (by decide) (by decide) dX8_holds_28 ⟨congrArg (fun z => some (Value.int z)) (by first | rfl | (simp only [h2, pM, pU, heldM_45, gvW_45, inW_45, livN_45, sum9_45, sum13_45, holdsE, holdsR, bI, pM, pU, n10, n20, n30, n0, if_true, if_false, ite_true, ite_false, not_true_eq_false, not_false_eq_true, and_true, true_and, and_false, false_and, or_true, true_or, or_false, false_or, reduceIte, and_self, or_self, ne_eq, eq_self_iff_true]; first | done | rfl) | (simp [bI, h2, pM, pU, heldM_45, gvW_45, inW_45, livN_45, sum9_45, sum13_45, holdsE, holdsR]; done) | (simp only [pM, pU, heldM_45, gvW_45, inW_45, livN_45, sum9_45, sum13_45, holdsE, holdsR, bI, ← Int32.not_le] at *; simp [h2]; done) | (simp_all [bI, h2, pM, pU, heldM_45, gvW_45, inW_45, livN_45, sum9_45, sum13_45, holdsE, holdsR]; done) | (simp_all [bI, h2, pM, pU, heldM_45, gvW_45, inW_45, livN_45, sum9_45, sum13_45, holdsE, holdsR]; rfl) | (exfalso; omega)), by first | rfl | (simp only [h2, pM, pU, heldM_45, gvW_45, inW_45, livN_45, sum9_45, sum13_45, holdsE, holdsR, bI, pM, pU, n10, n20, n30, n0, if_true, if_false, ite_true, ite_false, not_true_eq_false, not_false_eq_true, and_true, true_and, and_false, false_and, or_true, true_or, or_false, false_or, reduceIte, and_self, or_self, ne_eq, eq_self_iff_true]; first | done | rfl) | (simp [bI, h2, pM, pU, heldM_45, gvW_45, inW_45, livN_45, sum9_45, sum13_45, holdsE, holdsR]; done) | (simp only [pM, pU, heldM_45, gvW_45, inW_45, livN_45, sum9_45, sum13_45, holdsE, holdsR, bI, ← Int32.not_le] at *; simp [h2]; done) | (simp_all [bI, h2, pM, pU, heldM_45, gvW_45, inW_45, livN_45, sum9_45, sum13_45, holdsE, holdsR]; done) | (simp_all [bI, h2, pM, pU, heldM_45, gvW_45, inW_45, livN_45, sum9_45, sum13_45, holdsE, holdsR]; rfl) | (exfalso; omega), by trivial⟩

abbrev r_X8_meet : Room := { frames := 2, cells := 0, slots := 0, locals := 43 }
set_option maxRecDepth 4000 in
theorem c_X8_meet {l : Launch} {G : GG} {a : AD} {s t s0 : SS} {L : List (Nat × Nat)} {nm : Nat} (hst : l.stackTraces = false) (hG : GOK G) (hL : Live L s0) (m : Int32) (d : Int32) (y : Int32) (n_ : Int32) (hm : t 12 0 = nI nm) (hm12 : nm ≤ 12) : Mth l yX8_meet cX8_meet 6 (Option.some Jvm.ClassFile.FieldType.boolean) r_X8_meet G (wl a (E G.2.2.1 a s t) L) [.ref (a 0 0), .int m, .int d, .int y, .int n_] (RI (.int (pM (meetE t nm m d y n_) (meetR t nm m d y n_))) (wl a (E G.2.2.1 a s (pU (meetE t nm m d y n_) (meetU (su t 45 0 0) nm m d y n_) t)) L) (True)) nX := by
  refine mth_of rfl (Nat.le_of_ble_eq_true rfl) hst hG (fun X hX C0 => ?_)
  subst hX
  have C : Cx X G cX8_meet 6 RX8 (Option.some Jvm.ClassFile.FieldType.boolean) r_X8_meet "meet" [] := C0
  clear C0
  show V X G 6 _ 0 0 _ 0 [(0, .ref (a 0 0)), (1, .int (m)), (2, .int (d)), (3, .int (y)), (4, .int (n_))] []
  refine v_iload_n C dX8_meet_0 rfl 1 rfl ?_
  refine v_iconst C (v := 1) dX8_meet_1 rfl rfl ?_
  refine v_bipush C (v := 10) dX8_meet_2 rfl rfl ?_
  refine w_invSr C [.int (m), .int (1), .int (10)] 0 0 L_X8_123 (c_X8_isIn (s := s) (t := t)  hst hG hL m 1 10) rfl rfl rfl dX8_meet_4 rfl kx_no (fun h1 => ?_)
  refine v_ifB_eq C (t := 45) dX8_meet_7 rfl rfl (fun h2 => ?_) (fun h2 => ?_)
  · skip
    refine v_iconst C (v := 0) dX8_meet_45 rfl rfl ?_
    refine v_istore C (lv1 := [(5, .int (0)), (0, .ref (a 0 0)), (1, .int (m)), (2, .int (d)), (3, .int (y)), (4, .int (n_))]) dX8_meet_46 rfl (by decide) rfl ?_
    refine v_aload_n C dX8_meet_48 rfl 1 rfl ?_
    refine v_iload C dX8_meet_49 rfl 0 rfl ?_
    refine v_if_eq C (t := 69) dX8_meet_51 rfl rfl (fun _ => ?_) (fun h => absurd h (by decide))
    refine v_iconst C (v := 1) dX8_meet_69 rfl rfl ?_
    refine w_invVr C [.int (1)] 0 0 L_X8_145 (c_X8_holdsTo (s := s) (t := t)  hst hG hL 1) (m0 (s := s) (t := t) (g := G.2.2.1) hL) rfl rfl rfl rfl dX8_meet_70 rfl kx_no (fun h3 => ?_)
    refine v_ifB_ne C (t := 78) dX8_meet_73 rfl rfl (fun h => absurd h (by decide)) (fun _ => ?_)
    refine v_iconst C (v := 0) dX8_meet_76 rfl rfl ?_
    exact v_zret C rfl (by decide) (by decide) dX8_meet_77 ⟨congrArg (fun z => some (Value.int z)) (by first | rfl | (simp only [h2, pM, pU, heldM_45, gvW_45, inW_45, livN_45, sum9_45, sum13_45, meetE, meetR, meetU, bI, pM, pU, n10, n20, n30, n0, if_true, if_false, ite_true, ite_false, not_true_eq_false, not_false_eq_true, and_true, true_and, and_false, false_and, or_true, true_or, or_false, false_or, reduceIte, and_self, or_self, ne_eq, eq_self_iff_true]; first | done | rfl) | (simp [bI, h2, pM, pU, heldM_45, gvW_45, inW_45, livN_45, sum9_45, sum13_45, meetE, meetR, meetU]; done) | (simp only [pM, pU, heldM_45, gvW_45, inW_45, livN_45, sum9_45, sum13_45, meetE, meetR, meetU, bI, ← Int32.not_le] at *; simp [h2]; done) | (simp_all [bI, h2, pM, pU, heldM_45, gvW_45, inW_45, livN_45, sum9_45, sum13_45, meetE, meetR, meetU]; done) | (simp_all [bI, h2, pM, pU, heldM_45, gvW_45, inW_45, livN_45, sum9_45, sum13_45, meetE, meetR, meetU]; rfl) | (exfalso; omega)), by first | rfl | (simp only [h2, pM, pU, heldM_45, gvW_45, inW_45, livN_45, sum9_45, sum13_45, meetE, meetR, meetU, bI, pM, pU, n10, n20, n30, n0, if_true, if_false, ite_true, ite_false, not_true_eq_false, not_false_eq_true, and_true, true_and, and_false, false_and, or_true, true_or, or_false, false_or, reduceIte, and_self, or_self, ne_eq, eq_self_iff_true]; first | done | rfl) | (simp [bI, h2, pM, pU, heldM_45, gvW_45, inW_45, livN_45, sum9_45, sum13_45, meetE, meetR, meetU]; done) | (simp only [pM, pU, heldM_45, gvW_45, inW_45, livN_45, sum9_45, sum13_45, meetE, meetR, meetU, bI, ← Int32.not_le] at *; simp [h2]; done) | (simp_all [bI, h2, pM, pU, heldM_45, gvW_45, inW_45, livN_45, sum9_45, sum13_45, meetE, meetR, meetU]; done) | (simp_all [bI, h2, pM, pU, heldM_45, gvW_45, inW_45, livN_45, sum9_45, sum13_45, meetE, meetR, meetU]; rfl) | (exfalso; omega), by trivial⟩
  · skip
    refine v_iload_n C dX8_meet_10 rfl 2 rfl ?_
    refine v_iconst C (v := 1) dX8_meet_11 rfl rfl ?_
    refine v_bipush C (v := 100) dX8_meet_12 rfl rfl ?_
    refine w_invSr C [.int (d), .int (1), .int (100)] 0 0 L_X8_123 (c_X8_isIn (s := s) (t := t)  hst hG hL d 1 100) rfl rfl rfl dX8_meet_14 rfl kx_no (fun h4 => ?_)
    refine v_ifB_eq C (t := 45) dX8_meet_17 rfl rfl (fun h5 => ?_) (fun h5 => ?_)
    · skip
      refine v_iconst C (v := 0) dX8_meet_45 rfl rfl ?_
      refine v_istore C (lv1 := [(5, .int (0)), (0, .ref (a 0 0)), (1, .int (m)), (2, .int (d)), (3, .int (y)), (4, .int (n_))]) dX8_meet_46 rfl (by decide) rfl ?_
      refine v_aload_n C dX8_meet_48 rfl 1 rfl ?_
      refine v_iload C dX8_meet_49 rfl 0 rfl ?_
      refine v_if_eq C (t := 69) dX8_meet_51 rfl rfl (fun _ => ?_) (fun h => absurd h (by decide))
      refine v_iconst C (v := 1) dX8_meet_69 rfl rfl ?_
      refine w_invVr C [.int (1)] 0 0 L_X8_145 (c_X8_holdsTo (s := s) (t := t)  hst hG hL 1) (m0 (s := s) (t := t) (g := G.2.2.1) hL) rfl rfl rfl rfl dX8_meet_70 rfl kx_no (fun h6 => ?_)
      refine v_ifB_ne C (t := 78) dX8_meet_73 rfl rfl (fun h => absurd h (by decide)) (fun _ => ?_)
      refine v_iconst C (v := 0) dX8_meet_76 rfl rfl ?_
      exact v_zret C rfl (by decide) (by decide) dX8_meet_77 ⟨congrArg (fun z => some (Value.int z)) (by first | rfl | (simp only [h2, h5, pM, pU, heldM_45, gvW_45, inW_45, livN_45, sum9_45, sum13_45, meetE, meetR, meetU, bI, pM, pU, n10, n20, n30, n0, if_true, if_false, ite_true, ite_false, not_true_eq_false, not_false_eq_true, and_true, true_and, and_false, false_and, or_true, true_or, or_false, false_or, reduceIte, and_self, or_self, ne_eq, eq_self_iff_true]; first | done | rfl) | (simp [bI, h2, h5, pM, pU, heldM_45, gvW_45, inW_45, livN_45, sum9_45, sum13_45, meetE, meetR, meetU]; done) | (simp only [pM, pU, heldM_45, gvW_45, inW_45, livN_45, sum9_45, sum13_45, meetE, meetR, meetU, bI, ← Int32.not_le] at *; simp [h2, h5]; done) | (simp_all [bI, h2, h5, pM, pU, heldM_45, gvW_45, inW_45, livN_45, sum9_45, sum13_45, meetE, meetR, meetU]; done) | (simp_all [bI, h2, h5, pM, pU, heldM_45, gvW_45, inW_45, livN_45, sum9_45, sum13_45, meetE, meetR, meetU]; rfl) | (exfalso; omega)), by first | rfl | (simp only [h2, h5, pM, pU, heldM_45, gvW_45, inW_45, livN_45, sum9_45, sum13_45, meetE, meetR, meetU, bI, pM, pU, n10, n20, n30, n0, if_true, if_false, ite_true, ite_false, not_true_eq_false, not_false_eq_true, and_true, true_and, and_false, false_and, or_true, true_or, or_false, false_or, reduceIte, and_self, or_self, ne_eq, eq_self_iff_true]; first | done | rfl) | (simp [bI, h2, h5, pM, pU, heldM_45, gvW_45, inW_45, livN_45, sum9_45, sum13_45, meetE, meetR, meetU]; done) | (simp only [pM, pU, heldM_45, gvW_45, inW_45, livN_45, sum9_45, sum13_45, meetE, meetR, meetU, bI, ← Int32.not_le] at *; simp [h2, h5]; done) | (simp_all [bI, h2, h5, pM, pU, heldM_45, gvW_45, inW_45, livN_45, sum9_45, sum13_45, meetE, meetR, meetU]; done) | (simp_all [bI, h2, h5, pM, pU, heldM_45, gvW_45, inW_45, livN_45, sum9_45, sum13_45, meetE, meetR, meetU]; rfl) | (exfalso; omega), by trivial⟩
    · skip
      refine v_iload_n C dX8_meet_20 rfl 3 rfl ?_
      refine v_iconst C (v := 0) dX8_meet_21 rfl rfl ?_
      refine v_bipush C (v := 12) dX8_meet_22 rfl rfl ?_
      refine w_invSr C [.int (y), .int (0), .int (12)] 0 0 L_X8_123 (c_X8_isIn (s := s) (t := t)  hst hG hL y 0 12) rfl rfl rfl dX8_meet_24 rfl kx_no (fun h7 => ?_)
      refine v_ifB_eq C (t := 45) dX8_meet_27 rfl rfl (fun h8 => ?_) (fun h8 => ?_)
      · skip
        refine v_iconst C (v := 0) dX8_meet_45 rfl rfl ?_
        refine v_istore C (lv1 := [(5, .int (0)), (0, .ref (a 0 0)), (1, .int (m)), (2, .int (d)), (3, .int (y)), (4, .int (n_))]) dX8_meet_46 rfl (by decide) rfl ?_
        refine v_aload_n C dX8_meet_48 rfl 1 rfl ?_
        refine v_iload C dX8_meet_49 rfl 0 rfl ?_
        refine v_if_eq C (t := 69) dX8_meet_51 rfl rfl (fun _ => ?_) (fun h => absurd h (by decide))
        refine v_iconst C (v := 1) dX8_meet_69 rfl rfl ?_
        refine w_invVr C [.int (1)] 0 0 L_X8_145 (c_X8_holdsTo (s := s) (t := t)  hst hG hL 1) (m0 (s := s) (t := t) (g := G.2.2.1) hL) rfl rfl rfl rfl dX8_meet_70 rfl kx_no (fun h9 => ?_)
        refine v_ifB_ne C (t := 78) dX8_meet_73 rfl rfl (fun h => absurd h (by decide)) (fun _ => ?_)
        refine v_iconst C (v := 0) dX8_meet_76 rfl rfl ?_
        exact v_zret C rfl (by decide) (by decide) dX8_meet_77 ⟨congrArg (fun z => some (Value.int z)) (by first | rfl | (simp only [h2, h5, h8, pM, pU, heldM_45, gvW_45, inW_45, livN_45, sum9_45, sum13_45, meetE, meetR, meetU, bI, pM, pU, n10, n20, n30, n0, if_true, if_false, ite_true, ite_false, not_true_eq_false, not_false_eq_true, and_true, true_and, and_false, false_and, or_true, true_or, or_false, false_or, reduceIte, and_self, or_self, ne_eq, eq_self_iff_true]; first | done | rfl) | (simp [bI, h2, h5, h8, pM, pU, heldM_45, gvW_45, inW_45, livN_45, sum9_45, sum13_45, meetE, meetR, meetU]; done) | (simp only [pM, pU, heldM_45, gvW_45, inW_45, livN_45, sum9_45, sum13_45, meetE, meetR, meetU, bI, ← Int32.not_le] at *; simp [h2, h5, h8]; done) | (simp_all [bI, h2, h5, h8, pM, pU, heldM_45, gvW_45, inW_45, livN_45, sum9_45, sum13_45, meetE, meetR, meetU]; done) | (simp_all [bI, h2, h5, h8, pM, pU, heldM_45, gvW_45, inW_45, livN_45, sum9_45, sum13_45, meetE, meetR, meetU]; rfl) | (exfalso; omega)), by first | rfl | (simp only [h2, h5, h8, pM, pU, heldM_45, gvW_45, inW_45, livN_45, sum9_45, sum13_45, meetE, meetR, meetU, bI, pM, pU, n10, n20, n30, n0, if_true, if_false, ite_true, ite_false, not_true_eq_false, not_false_eq_true, and_true, true_and, and_false, false_and, or_true, true_or, or_false, false_or, reduceIte, and_self, or_self, ne_eq, eq_self_iff_true]; first | done | rfl) | (simp [bI, h2, h5, h8, pM, pU, heldM_45, gvW_45, inW_45, livN_45, sum9_45, sum13_45, meetE, meetR, meetU]; done) | (simp only [pM, pU, heldM_45, gvW_45, inW_45, livN_45, sum9_45, sum13_45, meetE, meetR, meetU, bI, ← Int32.not_le] at *; simp [h2, h5, h8]; done) | (simp_all [bI, h2, h5, h8, pM, pU, heldM_45, gvW_45, inW_45, livN_45, sum9_45, sum13_45, meetE, meetR, meetU]; done) | (simp_all [bI, h2, h5, h8, pM, pU, heldM_45, gvW_45, inW_45, livN_45, sum9_45, sum13_45, meetE, meetR, meetU]; rfl) | (exfalso; omega), by trivial⟩
      · skip
        refine v_iload C dX8_meet_30 rfl 4 rfl ?_
        refine v_iconst C (v := 0) dX8_meet_32 rfl rfl ?_
        refine v_bipush C (v := 12) dX8_meet_33 rfl rfl ?_
        refine w_invSr C [.int (n_), .int (0), .int (12)] 0 0 L_X8_123 (c_X8_isIn (s := s) (t := t)  hst hG hL n_ 0 12) rfl rfl rfl dX8_meet_35 rfl kx_no (fun h10 => ?_)
        refine v_ifB_eq C (t := 45) dX8_meet_38 rfl rfl (fun h11 => ?_) (fun h11 => ?_)
        · skip
          refine v_iconst C (v := 0) dX8_meet_45 rfl rfl ?_
          refine v_istore C (lv1 := [(5, .int (0)), (0, .ref (a 0 0)), (1, .int (m)), (2, .int (d)), (3, .int (y)), (4, .int (n_))]) dX8_meet_46 rfl (by decide) rfl ?_
          refine v_aload_n C dX8_meet_48 rfl 1 rfl ?_
          refine v_iload C dX8_meet_49 rfl 0 rfl ?_
          refine v_if_eq C (t := 69) dX8_meet_51 rfl rfl (fun _ => ?_) (fun h => absurd h (by decide))
          refine v_iconst C (v := 1) dX8_meet_69 rfl rfl ?_
          refine w_invVr C [.int (1)] 0 0 L_X8_145 (c_X8_holdsTo (s := s) (t := t)  hst hG hL 1) (m0 (s := s) (t := t) (g := G.2.2.1) hL) rfl rfl rfl rfl dX8_meet_70 rfl kx_no (fun h12 => ?_)
          refine v_ifB_ne C (t := 78) dX8_meet_73 rfl rfl (fun h => absurd h (by decide)) (fun _ => ?_)
          refine v_iconst C (v := 0) dX8_meet_76 rfl rfl ?_
          exact v_zret C rfl (by decide) (by decide) dX8_meet_77 ⟨congrArg (fun z => some (Value.int z)) (by first | rfl | (simp only [h2, h5, h8, h11, pM, pU, heldM_45, gvW_45, inW_45, livN_45, sum9_45, sum13_45, meetE, meetR, meetU, bI, pM, pU, n10, n20, n30, n0, if_true, if_false, ite_true, ite_false, not_true_eq_false, not_false_eq_true, and_true, true_and, and_false, false_and, or_true, true_or, or_false, false_or, reduceIte, and_self, or_self, ne_eq, eq_self_iff_true]; first | done | rfl) | (simp [bI, h2, h5, h8, h11, pM, pU, heldM_45, gvW_45, inW_45, livN_45, sum9_45, sum13_45, meetE, meetR, meetU]; done) | (simp only [pM, pU, heldM_45, gvW_45, inW_45, livN_45, sum9_45, sum13_45, meetE, meetR, meetU, bI, ← Int32.not_le] at *; simp [h2, h5, h8, h11]; done) | (simp_all [bI, h2, h5, h8, h11, pM, pU, heldM_45, gvW_45, inW_45, livN_45, sum9_45, sum13_45, meetE, meetR, meetU]; done) | (simp_all [bI, h2, h5, h8, h11, pM, pU, heldM_45, gvW_45, inW_45, livN_45, sum9_45, sum13_45, meetE, meetR, meetU]; rfl) | (exfalso; omega)), by first | rfl | (simp only [h2, h5, h8, h11, pM, pU, heldM_45, gvW_45, inW_45, livN_45, sum9_45, sum13_45, meetE, meetR, meetU, bI, pM, pU, n10, n20, n30, n0, if_true, if_false, ite_true, ite_false, not_true_eq_false, not_false_eq_true, and_true, true_and, and_false, false_and, or_true, true_or, or_false, false_or, reduceIte, and_self, or_self, ne_eq, eq_self_iff_true]; first | done | rfl) | (simp [bI, h2, h5, h8, h11, pM, pU, heldM_45, gvW_45, inW_45, livN_45, sum9_45, sum13_45, meetE, meetR, meetU]; done) | (simp only [pM, pU, heldM_45, gvW_45, inW_45, livN_45, sum9_45, sum13_45, meetE, meetR, meetU, bI, ← Int32.not_le] at *; simp [h2, h5, h8, h11]; done) | (simp_all [bI, h2, h5, h8, h11, pM, pU, heldM_45, gvW_45, inW_45, livN_45, sum9_45, sum13_45, meetE, meetR, meetU]; done) | (simp_all [bI, h2, h5, h8, h11, pM, pU, heldM_45, gvW_45, inW_45, livN_45, sum9_45, sum13_45, meetE, meetR, meetU]; rfl) | (exfalso; omega), by trivial⟩
        · skip
          refine v_iconst C (v := 1) dX8_meet_41 rfl rfl ?_
          refine v_goto C (q := 46) dX8_meet_42 rfl ?_
          refine v_istore C (lv1 := [(5, .int (1)), (0, .ref (a 0 0)), (1, .int (m)), (2, .int (d)), (3, .int (y)), (4, .int (n_))]) dX8_meet_46 rfl (by decide) rfl ?_
          refine v_aload_n C dX8_meet_48 rfl 1 rfl ?_
          refine v_iload C dX8_meet_49 rfl 0 rfl ?_
          refine v_if_eq C (t := 69) dX8_meet_51 rfl rfl (fun h => absurd h (by decide)) (fun _ => ?_)
          refine v_iload_n C dX8_meet_54 rfl 4 rfl ?_
          refine v_iload C dX8_meet_55 rfl 5 rfl ?_
          refine v_iadd C dX8_meet_57 rfl ?_
          refine v_aload_n C dX8_meet_58 rfl 1 rfl ?_
          refine w_invVr C [] 0 0 L_X8_168 (c_X8_living (s := s) (t := t) (nm := nm) hst hG hL hm hm12) (m0 (s := s) (t := t) (g := G.2.2.1) hL) rfl rfl rfl rfl dX8_meet_59 rfl kx_no (fun h13 => ?_)
          refine v_icmp_gt C (t := 69) dX8_meet_62 rfl rfl (fun h14 => ?_) (fun h14 => ?_)
          · skip
            refine v_iconst C (v := 1) dX8_meet_69 rfl rfl ?_
            refine w_invVr C [.int (1)] 0 0 L_X8_145 (c_X8_holdsTo (s := s) (t := t)  hst hG hL 1) (m0 (s := s) (t := t) (g := G.2.2.1) hL) rfl rfl rfl rfl dX8_meet_70 rfl kx_no (fun h15 => ?_)
            refine v_ifB_ne C (t := 78) dX8_meet_73 rfl rfl (fun h => absurd h (by decide)) (fun _ => ?_)
            refine v_iconst C (v := 0) dX8_meet_76 rfl rfl ?_
            exact v_zret C rfl (by decide) (by decide) dX8_meet_77 ⟨congrArg (fun z => some (Value.int z)) (by first | rfl | (simp only [h2, h5, h8, h11, h14, Int32.not_le.mpr h14, pM, pU, heldM_45, gvW_45, inW_45, livN_45, sum9_45, sum13_45, meetE, meetR, meetU, bI, pM, pU, n10, n20, n30, n0, if_true, if_false, ite_true, ite_false, not_true_eq_false, not_false_eq_true, and_true, true_and, and_false, false_and, or_true, true_or, or_false, false_or, reduceIte, and_self, or_self, ne_eq, eq_self_iff_true]; first | done | rfl) | (simp [bI, h2, h5, h8, h11, h14, Int32.not_le.mpr h14, pM, pU, heldM_45, gvW_45, inW_45, livN_45, sum9_45, sum13_45, meetE, meetR, meetU]; done) | (simp only [pM, pU, heldM_45, gvW_45, inW_45, livN_45, sum9_45, sum13_45, meetE, meetR, meetU, bI, ← Int32.not_le] at *; simp [h2, h5, h8, h11, h14, Int32.not_le.mpr h14]; done) | (simp_all [bI, h2, h5, h8, h11, h14, Int32.not_le.mpr h14, pM, pU, heldM_45, gvW_45, inW_45, livN_45, sum9_45, sum13_45, meetE, meetR, meetU]; done) | (simp_all [bI, h2, h5, h8, h11, h14, Int32.not_le.mpr h14, pM, pU, heldM_45, gvW_45, inW_45, livN_45, sum9_45, sum13_45, meetE, meetR, meetU]; rfl) | (exfalso; omega)), by first | rfl | (simp only [h2, h5, h8, h11, h14, Int32.not_le.mpr h14, pM, pU, heldM_45, gvW_45, inW_45, livN_45, sum9_45, sum13_45, meetE, meetR, meetU, bI, pM, pU, n10, n20, n30, n0, if_true, if_false, ite_true, ite_false, not_true_eq_false, not_false_eq_true, and_true, true_and, and_false, false_and, or_true, true_or, or_false, false_or, reduceIte, and_self, or_self, ne_eq, eq_self_iff_true]; first | done | rfl) | (simp [bI, h2, h5, h8, h11, h14, Int32.not_le.mpr h14, pM, pU, heldM_45, gvW_45, inW_45, livN_45, sum9_45, sum13_45, meetE, meetR, meetU]; done) | (simp only [pM, pU, heldM_45, gvW_45, inW_45, livN_45, sum9_45, sum13_45, meetE, meetR, meetU, bI, ← Int32.not_le] at *; simp [h2, h5, h8, h11, h14, Int32.not_le.mpr h14]; done) | (simp_all [bI, h2, h5, h8, h11, h14, Int32.not_le.mpr h14, pM, pU, heldM_45, gvW_45, inW_45, livN_45, sum9_45, sum13_45, meetE, meetR, meetU]; done) | (simp_all [bI, h2, h5, h8, h11, h14, Int32.not_le.mpr h14, pM, pU, heldM_45, gvW_45, inW_45, livN_45, sum9_45, sum13_45, meetE, meetR, meetU]; rfl) | (exfalso; omega), by trivial⟩
          · skip
            refine v_iconst C (v := 0) dX8_meet_65 rfl rfl ?_
            refine v_goto C (q := 70) dX8_meet_66 rfl ?_
            refine w_invVr C [.int (0)] 0 0 L_X8_145 (c_X8_holdsTo (s := s) (t := t)  hst hG hL 0) (m0 (s := s) (t := t) (g := G.2.2.1) hL) rfl rfl rfl rfl dX8_meet_70 rfl kx_no (fun h16 => ?_)
            refine v_ifB_ne C (t := 78) dX8_meet_73 rfl rfl (fun _ => ?_) (fun h => absurd (by decide) h)
            refine v_iload_n C dX8_meet_78 rfl 4 rfl ?_
            refine v_iload C dX8_meet_79 rfl 5 rfl ?_
            refine v_icmp_le C (t := 94) dX8_meet_81 rfl rfl (fun h17 => ?_) (fun h17 => ?_)
            · skip
              refine v_iload_n C dX8_meet_94 rfl 4 rfl ?_
              refine v_iload C dX8_meet_95 rfl 5 rfl ?_
              refine v_icmp_le C (t := 104) dX8_meet_97 rfl rfl (fun _ => ?_) (fun h => absurd h17 h)
              refine v_iconst C (v := 0) dX8_meet_104 rfl rfl ?_
              exact v_zret C rfl (by decide) (by decide) dX8_meet_105 ⟨congrArg (fun z => some (Value.int z)) (by first | rfl | (simp only [h2, h5, h8, h11, h14, Int32.not_lt.mp h14, h17, Int32.not_lt.mpr h17, pM, pU, heldM_45, gvW_45, inW_45, livN_45, sum9_45, sum13_45, meetE, meetR, meetU, bI, pM, pU, n10, n20, n30, n0, if_true, if_false, ite_true, ite_false, not_true_eq_false, not_false_eq_true, and_true, true_and, and_false, false_and, or_true, true_or, or_false, false_or, reduceIte, and_self, or_self, ne_eq, eq_self_iff_true]; first | done | rfl) | (simp [bI, h2, h5, h8, h11, h14, Int32.not_lt.mp h14, h17, Int32.not_lt.mpr h17, pM, pU, heldM_45, gvW_45, inW_45, livN_45, sum9_45, sum13_45, meetE, meetR, meetU]; done) | (simp only [pM, pU, heldM_45, gvW_45, inW_45, livN_45, sum9_45, sum13_45, meetE, meetR, meetU, bI, ← Int32.not_le] at *; simp [h2, h5, h8, h11, h14, Int32.not_lt.mp h14, h17, Int32.not_lt.mpr h17]; done) | (simp_all [bI, h2, h5, h8, h11, h14, Int32.not_lt.mp h14, h17, Int32.not_lt.mpr h17, pM, pU, heldM_45, gvW_45, inW_45, livN_45, sum9_45, sum13_45, meetE, meetR, meetU]; done) | (simp_all [bI, h2, h5, h8, h11, h14, Int32.not_lt.mp h14, h17, Int32.not_lt.mpr h17, pM, pU, heldM_45, gvW_45, inW_45, livN_45, sum9_45, sum13_45, meetE, meetR, meetU]; rfl) | (exfalso; omega)), by first | rfl | (simp only [h2, h5, h8, h11, h14, Int32.not_lt.mp h14, h17, Int32.not_lt.mpr h17, pM, pU, heldM_45, gvW_45, inW_45, livN_45, sum9_45, sum13_45, meetE, meetR, meetU, bI, pM, pU, n10, n20, n30, n0, if_true, if_false, ite_true, ite_false, not_true_eq_false, not_false_eq_true, and_true, true_and, and_false, false_and, or_true, true_or, or_false, false_or, reduceIte, and_self, or_self, ne_eq, eq_self_iff_true]; first | done | rfl) | (simp [bI, h2, h5, h8, h11, h14, Int32.not_lt.mp h14, h17, Int32.not_lt.mpr h17, pM, pU, heldM_45, gvW_45, inW_45, livN_45, sum9_45, sum13_45, meetE, meetR, meetU]; done) | (simp only [pM, pU, heldM_45, gvW_45, inW_45, livN_45, sum9_45, sum13_45, meetE, meetR, meetU, bI, ← Int32.not_le] at *; simp [h2, h5, h8, h11, h14, Int32.not_lt.mp h14, h17, Int32.not_lt.mpr h17]; done) | (simp_all [bI, h2, h5, h8, h11, h14, Int32.not_lt.mp h14, h17, Int32.not_lt.mpr h17, pM, pU, heldM_45, gvW_45, inW_45, livN_45, sum9_45, sum13_45, meetE, meetR, meetU]; done) | (simp_all [bI, h2, h5, h8, h11, h14, Int32.not_lt.mp h14, h17, Int32.not_lt.mpr h17, pM, pU, heldM_45, gvW_45, inW_45, livN_45, sum9_45, sum13_45, meetE, meetR, meetU]; rfl) | (exfalso; omega), by trivial⟩
            · skip
              refine v_aload_n C dX8_meet_84 rfl 1 rfl ?_
              refine v_iload_n C dX8_meet_85 rfl 2 rfl ?_
              refine v_put C f_X8_13 (put_m0 (s := s) (t := ((su t 45 0 0))) (g := G.2.2.1) hL 2 rfl m) rfl rfl (rg_len (by decide)) dX8_meet_86 rfl ?_
              refine v_aload_n C dX8_meet_89 rfl 1 rfl ?_
              refine v_iload_n C dX8_meet_90 rfl 3 rfl ?_
              refine v_put C f_X8_16 (put_m0 (s := s) (t := ((su (su t 45 0 0) 2 0 m))) (g := G.2.2.1) hL 3 rfl d) rfl rfl (rg_len (by decide)) dX8_meet_91 rfl ?_
              refine v_iload_n C dX8_meet_94 rfl 4 rfl ?_
              refine v_iload C dX8_meet_95 rfl 5 rfl ?_
              refine v_icmp_le C (t := 104) dX8_meet_97 rfl rfl (fun h => absurd h h17) (fun _ => ?_)
              refine v_iconst C (v := 1) dX8_meet_100 rfl rfl ?_
              refine v_goto C (q := 105) dX8_meet_101 rfl ?_
              exact v_zret C rfl (by decide) (by decide) dX8_meet_105 ⟨congrArg (fun z => some (Value.int z)) (by first | rfl | (simp only [h2, h5, h8, h11, h14, Int32.not_lt.mp h14, h17, Int32.not_le.mp h17, pM, pU, heldM_45, gvW_45, inW_45, livN_45, sum9_45, sum13_45, meetE, meetR, meetU, bI, pM, pU, n10, n20, n30, n0, if_true, if_false, ite_true, ite_false, not_true_eq_false, not_false_eq_true, and_true, true_and, and_false, false_and, or_true, true_or, or_false, false_or, reduceIte, and_self, or_self, ne_eq, eq_self_iff_true]; first | done | rfl) | (simp [bI, h2, h5, h8, h11, h14, Int32.not_lt.mp h14, h17, Int32.not_le.mp h17, pM, pU, heldM_45, gvW_45, inW_45, livN_45, sum9_45, sum13_45, meetE, meetR, meetU]; done) | (simp only [pM, pU, heldM_45, gvW_45, inW_45, livN_45, sum9_45, sum13_45, meetE, meetR, meetU, bI, ← Int32.not_le] at *; simp [h2, h5, h8, h11, h14, Int32.not_lt.mp h14, h17, Int32.not_le.mp h17]; done) | (simp_all [bI, h2, h5, h8, h11, h14, Int32.not_lt.mp h14, h17, Int32.not_le.mp h17, pM, pU, heldM_45, gvW_45, inW_45, livN_45, sum9_45, sum13_45, meetE, meetR, meetU]; done) | (simp_all [bI, h2, h5, h8, h11, h14, Int32.not_lt.mp h14, h17, Int32.not_le.mp h17, pM, pU, heldM_45, gvW_45, inW_45, livN_45, sum9_45, sum13_45, meetE, meetR, meetU]; rfl) | (exfalso; omega)), by first | rfl | (simp only [h2, h5, h8, h11, h14, Int32.not_lt.mp h14, h17, Int32.not_le.mp h17, pM, pU, heldM_45, gvW_45, inW_45, livN_45, sum9_45, sum13_45, meetE, meetR, meetU, bI, pM, pU, n10, n20, n30, n0, if_true, if_false, ite_true, ite_false, not_true_eq_false, not_false_eq_true, and_true, true_and, and_false, false_and, or_true, true_or, or_false, false_or, reduceIte, and_self, or_self, ne_eq, eq_self_iff_true]; first | done | rfl) | (simp [bI, h2, h5, h8, h11, h14, Int32.not_lt.mp h14, h17, Int32.not_le.mp h17, pM, pU, heldM_45, gvW_45, inW_45, livN_45, sum9_45, sum13_45, meetE, meetR, meetU]; done) | (simp only [pM, pU, heldM_45, gvW_45, inW_45, livN_45, sum9_45, sum13_45, meetE, meetR, meetU, bI, ← Int32.not_le] at *; simp [h2, h5, h8, h11, h14, Int32.not_lt.mp h14, h17, Int32.not_le.mp h17]; done) | (simp_all [bI, h2, h5, h8, h11, h14, Int32.not_lt.mp h14, h17, Int32.not_le.mp h17, pM, pU, heldM_45, gvW_45, inW_45, livN_45, sum9_45, sum13_45, meetE, meetR, meetU]; done) | (simp_all [bI, h2, h5, h8, h11, h14, Int32.not_lt.mp h14, h17, Int32.not_le.mp h17, pM, pU, heldM_45, gvW_45, inW_45, livN_45, sum9_45, sum13_45, meetE, meetR, meetU]; rfl) | (exfalso; omega), by trivial⟩

abbrev r_X8_buy : Room := { frames := 2, cells := 0, slots := 0, locals := 43 }
set_option maxRecDepth 4000 in
theorem c_X8_buy {l : Launch} {G : GG} {a : AD} {s t s0 : SS} {L : List (Nat × Nat)} {nm : Nat} (hst : l.stackTraces = false) (hG : GOK G) (hL : Live L s0) (x : Int32) (m : Int32) (hm : t 12 0 = nI nm) (hm12 : nm ≤ 12) : Mth l yX8_buy cX8_buy 6 (Option.some Jvm.ClassFile.FieldType.int) r_X8_buy G (wl a (E G.2.2.1 a s t) L) [.ref (a 0 0), .int x, .int m] (RI (.int (pM (buyE t x m) (buyR t x m))) (wl a (E G.2.2.1 a s (pU (buyE t x m) (buyU (su t 45 0 0) x m) t)) L) (True)) nX := by
  refine mth_of rfl (Nat.le_of_ble_eq_true rfl) hst hG (fun X hX C0 => ?_)
  subst hX
  have C : Cx X G cX8_buy 6 RX8 (Option.some Jvm.ClassFile.FieldType.int) r_X8_buy "buy" [] := C0
  clear C0
  show V X G 6 _ 0 0 _ 0 [(0, .ref (a 0 0)), (1, .int (x)), (2, .int (m))] []
  refine v_aload_n C dX8_buy_0 rfl 0 rfl ?_
  refine v_iload_n C dX8_buy_1 rfl 1 rfl ?_
  refine w_invVr C [.int (x)] 0 0 L_X8_176 (c_X8_isMiner (s := s) (t := t)  hst hG hL x) (m0 (s := s) (t := t) (g := G.2.2.1) hL) rfl rfl rfl rfl dX8_buy_2 rfl kx_no (fun h1 => ?_)
  refine v_istore_n C (lv1 := [(3, .int (bI ((0 : Int32) ≤ x ∧ x ≤ t 12 0 - 1))), (0, .ref (a 0 0)), (1, .int (x)), (2, .int (m))]) dX8_buy_5 rfl (by decide) rfl ?_
  refine v_iload_n C dX8_buy_6 rfl 0 rfl ?_
  refine v_ifB_eq C (t := 56) dX8_buy_7 rfl rfl (fun h2 => ?_) (fun h2 => ?_)
  · skip
    refine v_iconst C (v := 0) dX8_buy_56 rfl rfl ?_
    refine v_istore C (lv1 := [(4, .int (0)), (3, .int (bI ((0 : Int32) ≤ x ∧ x ≤ t 12 0 - 1))), (0, .ref (a 0 0)), (1, .int (x)), (2, .int (m))]) dX8_buy_57 rfl (by decide) rfl ?_
    refine v_aload_n C dX8_buy_59 rfl 2 rfl ?_
    refine v_iload_n C dX8_buy_60 rfl 1 rfl ?_
    refine v_ifB_ne C (t := 68) dX8_buy_61 rfl rfl (fun h => absurd h h2) (fun _ => ?_)
    refine v_iconst C (v := 1) dX8_buy_64 rfl rfl ?_
    refine v_goto C (q := 93) dX8_buy_65 rfl ?_
    refine w_invVr C [.int (1)] 0 0 L_X8_145 (c_X8_holdsTo (s := s) (t := t)  hst hG hL 1) (m0 (s := s) (t := t) (g := G.2.2.1) hL) rfl rfl rfl rfl dX8_buy_93 rfl kx_no (fun h3 => ?_)
    refine v_ifB_ne C (t := 101) dX8_buy_96 rfl rfl (fun h => absurd h (by decide)) (fun _ => ?_)
    refine v_iconst C (v := 0) dX8_buy_99 rfl rfl ?_
    exact v_iret C (by decide) (by decide) dX8_buy_100 ⟨congrArg (fun z => some (Value.int z)) (by first | rfl | (simp only [h2, pM, pU, heldM_45, gvW_45, inW_45, livN_45, sum9_45, sum13_45, buyE, buyR, buyU, bI, pM, pU, n10, n20, n30, n0, if_true, if_false, ite_true, ite_false, not_true_eq_false, not_false_eq_true, and_true, true_and, and_false, false_and, or_true, true_or, or_false, false_or, reduceIte, and_self, or_self, ne_eq, eq_self_iff_true]; first | done | rfl) | (simp [bI, h2, pM, pU, heldM_45, gvW_45, inW_45, livN_45, sum9_45, sum13_45, buyE, buyR, buyU]; done) | (simp only [pM, pU, heldM_45, gvW_45, inW_45, livN_45, sum9_45, sum13_45, buyE, buyR, buyU, bI, ← Int32.not_le] at *; simp [h2]; done) | (simp_all [bI, h2, pM, pU, heldM_45, gvW_45, inW_45, livN_45, sum9_45, sum13_45, buyE, buyR, buyU]; done) | (simp_all [bI, h2, pM, pU, heldM_45, gvW_45, inW_45, livN_45, sum9_45, sum13_45, buyE, buyR, buyU]; rfl) | (exfalso; omega)), by first | rfl | (simp only [h2, pM, pU, heldM_45, gvW_45, inW_45, livN_45, sum9_45, sum13_45, buyE, buyR, buyU, bI, pM, pU, n10, n20, n30, n0, if_true, if_false, ite_true, ite_false, not_true_eq_false, not_false_eq_true, and_true, true_and, and_false, false_and, or_true, true_or, or_false, false_or, reduceIte, and_self, or_self, ne_eq, eq_self_iff_true]; first | done | rfl) | (simp [bI, h2, pM, pU, heldM_45, gvW_45, inW_45, livN_45, sum9_45, sum13_45, buyE, buyR, buyU]; done) | (simp only [pM, pU, heldM_45, gvW_45, inW_45, livN_45, sum9_45, sum13_45, buyE, buyR, buyU, bI, ← Int32.not_le] at *; simp [h2]; done) | (simp_all [bI, h2, pM, pU, heldM_45, gvW_45, inW_45, livN_45, sum9_45, sum13_45, buyE, buyR, buyU]; done) | (simp_all [bI, h2, pM, pU, heldM_45, gvW_45, inW_45, livN_45, sum9_45, sum13_45, buyE, buyR, buyU]; rfl) | (exfalso; omega), by trivial⟩
  · skip
    refine v_iload_n C dX8_buy_10 rfl 3 rfl ?_
    refine v_iconst C (v := 1) dX8_buy_11 rfl rfl ?_
    refine v_sipush C (v := 1000) dX8_buy_12 rfl rfl ?_
    refine w_invSr C [.int (m), .int (1), .int (1000)] 0 0 L_X8_123 (c_X8_isIn (s := s) (t := t)  hst hG hL m 1 1000) rfl rfl rfl dX8_buy_15 rfl kx_no (fun h4 => ?_)
    refine v_ifB_eq C (t := 56) dX8_buy_18 rfl rfl (fun h5 => ?_) (fun h5 => ?_)
    · skip
      refine v_iconst C (v := 0) dX8_buy_56 rfl rfl ?_
      refine v_istore C (lv1 := [(4, .int (0)), (3, .int (bI ((0 : Int32) ≤ x ∧ x ≤ t 12 0 - 1))), (0, .ref (a 0 0)), (1, .int (x)), (2, .int (m))]) dX8_buy_57 rfl (by decide) rfl ?_
      refine v_aload_n C dX8_buy_59 rfl 2 rfl ?_
      refine v_iload_n C dX8_buy_60 rfl 1 rfl ?_
      refine v_ifB_ne C (t := 68) dX8_buy_61 rfl rfl (fun _ => ?_) (fun h => absurd h2 h)
      refine v_iload_n C dX8_buy_68 rfl 4 rfl ?_
      refine v_iconst C (v := 1) dX8_buy_69 rfl rfl ?_
      refine v_sipush C (v := 1000) dX8_buy_70 rfl rfl ?_
      refine w_invSr C [.int (m), .int (1), .int (1000)] 0 0 L_X8_123 (c_X8_isIn (s := s) (t := t)  hst hG hL m 1 1000) rfl rfl rfl dX8_buy_73 rfl kx_no (fun h6 => ?_)
      refine v_ifB_ne C (t := 83) dX8_buy_76 rfl rfl (fun h => absurd h h5) (fun _ => ?_)
      refine v_iconst C (v := 2) dX8_buy_79 rfl rfl ?_
      refine v_goto C (q := 93) dX8_buy_80 rfl ?_
      refine w_invVr C [.int (2)] 0 0 L_X8_145 (c_X8_holdsTo (s := s) (t := t)  hst hG hL 2) (m0 (s := s) (t := t) (g := G.2.2.1) hL) rfl rfl rfl rfl dX8_buy_93 rfl kx_no (fun h7 => ?_)
      refine v_ifB_ne C (t := 101) dX8_buy_96 rfl rfl (fun h => absurd h (by decide)) (fun _ => ?_)
      refine v_iconst C (v := 0) dX8_buy_99 rfl rfl ?_
      exact v_iret C (by decide) (by decide) dX8_buy_100 ⟨congrArg (fun z => some (Value.int z)) (by first | rfl | (simp only [h2, h5, pM, pU, heldM_45, gvW_45, inW_45, livN_45, sum9_45, sum13_45, buyE, buyR, buyU, bI, pM, pU, n10, n20, n30, n0, if_true, if_false, ite_true, ite_false, not_true_eq_false, not_false_eq_true, and_true, true_and, and_false, false_and, or_true, true_or, or_false, false_or, reduceIte, and_self, or_self, ne_eq, eq_self_iff_true]; first | done | rfl) | (simp [bI, h2, h5, pM, pU, heldM_45, gvW_45, inW_45, livN_45, sum9_45, sum13_45, buyE, buyR, buyU]; done) | (simp only [pM, pU, heldM_45, gvW_45, inW_45, livN_45, sum9_45, sum13_45, buyE, buyR, buyU, bI, ← Int32.not_le] at *; simp [h2, h5]; done) | (simp_all [bI, h2, h5, pM, pU, heldM_45, gvW_45, inW_45, livN_45, sum9_45, sum13_45, buyE, buyR, buyU]; done) | (simp_all [bI, h2, h5, pM, pU, heldM_45, gvW_45, inW_45, livN_45, sum9_45, sum13_45, buyE, buyR, buyU]; rfl) | (exfalso; omega)), by first | rfl | (simp only [h2, h5, pM, pU, heldM_45, gvW_45, inW_45, livN_45, sum9_45, sum13_45, buyE, buyR, buyU, bI, pM, pU, n10, n20, n30, n0, if_true, if_false, ite_true, ite_false, not_true_eq_false, not_false_eq_true, and_true, true_and, and_false, false_and, or_true, true_or, or_false, false_or, reduceIte, and_self, or_self, ne_eq, eq_self_iff_true]; first | done | rfl) | (simp [bI, h2, h5, pM, pU, heldM_45, gvW_45, inW_45, livN_45, sum9_45, sum13_45, buyE, buyR, buyU]; done) | (simp only [pM, pU, heldM_45, gvW_45, inW_45, livN_45, sum9_45, sum13_45, buyE, buyR, buyU, bI, ← Int32.not_le] at *; simp [h2, h5]; done) | (simp_all [bI, h2, h5, pM, pU, heldM_45, gvW_45, inW_45, livN_45, sum9_45, sum13_45, buyE, buyR, buyU]; done) | (simp_all [bI, h2, h5, pM, pU, heldM_45, gvW_45, inW_45, livN_45, sum9_45, sum13_45, buyE, buyR, buyU]; rfl) | (exfalso; omega), by trivial⟩
    · skip
      refine v_aload_n C dX8_buy_21 rfl 1 rfl ?_
      refine v_iload_n C dX8_buy_22 rfl 2 rfl ?_
      refine w_invVr C [.int (x)] 0 0 L_X8_155 (c_X8_isDead (s := s) (t := t)  hst hG hL x _ (in_nI (N := 12) (vp_cnt (by assumption) hm hm12 (by decide)) (by omega)) (in_lt (N := 12) (vp_cnt (by assumption) hm hm12 (by decide)))) (m0 (s := s) (t := t) (g := G.2.2.1) hL) rfl rfl rfl rfl dX8_buy_23 rfl kx_no (fun h8 => ?_)
      refine v_ifB_ne C (t := 56) dX8_buy_26 rfl rfl (fun h9 => ?_) (fun h9 => ?_)
      · skip
        refine v_iconst C (v := 0) dX8_buy_56 rfl rfl ?_
        refine v_istore C (lv1 := [(4, .int (0)), (3, .int (bI ((0 : Int32) ≤ x ∧ x ≤ t 12 0 - 1))), (0, .ref (a 0 0)), (1, .int (x)), (2, .int (m))]) dX8_buy_57 rfl (by decide) rfl ?_
        refine v_aload_n C dX8_buy_59 rfl 2 rfl ?_
        refine v_iload_n C dX8_buy_60 rfl 1 rfl ?_
        refine v_ifB_ne C (t := 68) dX8_buy_61 rfl rfl (fun _ => ?_) (fun h => absurd h2 h)
        refine v_iload_n C dX8_buy_68 rfl 4 rfl ?_
        refine v_iconst C (v := 1) dX8_buy_69 rfl rfl ?_
        refine v_sipush C (v := 1000) dX8_buy_70 rfl rfl ?_
        refine w_invSr C [.int (m), .int (1), .int (1000)] 0 0 L_X8_123 (c_X8_isIn (s := s) (t := t)  hst hG hL m 1 1000) rfl rfl rfl dX8_buy_73 rfl kx_no (fun h10 => ?_)
        refine v_ifB_ne C (t := 83) dX8_buy_76 rfl rfl (fun _ => ?_) (fun h => absurd h5 h)
        refine v_iload C dX8_buy_83 rfl 0 rfl ?_
        refine v_if_eq C (t := 92) dX8_buy_85 rfl rfl (fun _ => ?_) (fun h => absurd h (by decide))
        refine v_iconst C (v := 3) dX8_buy_92 rfl rfl ?_
        refine w_invVr C [.int (3)] 0 0 L_X8_145 (c_X8_holdsTo (s := s) (t := t)  hst hG hL 3) (m0 (s := s) (t := t) (g := G.2.2.1) hL) rfl rfl rfl rfl dX8_buy_93 rfl kx_no (fun h11 => ?_)
        refine v_ifB_ne C (t := 101) dX8_buy_96 rfl rfl (fun h => absurd h (by decide)) (fun _ => ?_)
        refine v_iconst C (v := 0) dX8_buy_99 rfl rfl ?_
        exact v_iret C (by decide) (by decide) dX8_buy_100 ⟨congrArg (fun z => some (Value.int z)) (by first | rfl | (simp only [h2, h5, eq_true h9, pM, pU, heldM_45, gvW_45, inW_45, livN_45, sum9_45, sum13_45, buyE, buyR, buyU, bI, pM, pU, n10, n20, n30, n0, if_true, if_false, ite_true, ite_false, not_true_eq_false, not_false_eq_true, and_true, true_and, and_false, false_and, or_true, true_or, or_false, false_or, reduceIte, and_self, or_self, ne_eq, eq_self_iff_true]; first | done | rfl) | (simp [bI, h2, h5, eq_true h9, pM, pU, heldM_45, gvW_45, inW_45, livN_45, sum9_45, sum13_45, buyE, buyR, buyU]; done) | (simp only [pM, pU, heldM_45, gvW_45, inW_45, livN_45, sum9_45, sum13_45, buyE, buyR, buyU, bI, ← Int32.not_le] at *; simp [h2, h5, eq_true h9]; done) | (simp_all [bI, h2, h5, eq_true h9, pM, pU, heldM_45, gvW_45, inW_45, livN_45, sum9_45, sum13_45, buyE, buyR, buyU]; done) | (simp_all [bI, h2, h5, eq_true h9, pM, pU, heldM_45, gvW_45, inW_45, livN_45, sum9_45, sum13_45, buyE, buyR, buyU]; rfl) | (exfalso; omega)), by first | rfl | (simp only [h2, h5, eq_true h9, pM, pU, heldM_45, gvW_45, inW_45, livN_45, sum9_45, sum13_45, buyE, buyR, buyU, bI, pM, pU, n10, n20, n30, n0, if_true, if_false, ite_true, ite_false, not_true_eq_false, not_false_eq_true, and_true, true_and, and_false, false_and, or_true, true_or, or_false, false_or, reduceIte, and_self, or_self, ne_eq, eq_self_iff_true]; first | done | rfl) | (simp [bI, h2, h5, eq_true h9, pM, pU, heldM_45, gvW_45, inW_45, livN_45, sum9_45, sum13_45, buyE, buyR, buyU]; done) | (simp only [pM, pU, heldM_45, gvW_45, inW_45, livN_45, sum9_45, sum13_45, buyE, buyR, buyU, bI, ← Int32.not_le] at *; simp [h2, h5, eq_true h9]; done) | (simp_all [bI, h2, h5, eq_true h9, pM, pU, heldM_45, gvW_45, inW_45, livN_45, sum9_45, sum13_45, buyE, buyR, buyU]; done) | (simp_all [bI, h2, h5, eq_true h9, pM, pU, heldM_45, gvW_45, inW_45, livN_45, sum9_45, sum13_45, buyE, buyR, buyU]; rfl) | (exfalso; omega), by trivial⟩
      · skip
        refine v_iload_n C dX8_buy_29 rfl 3 rfl ?_
        refine v_aload_n C dX8_buy_30 rfl 1 rfl ?_
        refine v_get C (v := .int (t 5 0)) g_X8_22 (m0 (s := s) (t := t) (g := G.2.2.1) hL) (rg (by decide) rfl) dX8_buy_31 rfl ?_
        refine v_icmp_gt C (t := 56) dX8_buy_34 rfl rfl (fun h12 => ?_) (fun h12 => ?_)
        · skip
          refine v_iconst C (v := 0) dX8_buy_56 rfl rfl ?_
          refine v_istore C (lv1 := [(4, .int (0)), (3, .int (bI ((0 : Int32) ≤ x ∧ x ≤ t 12 0 - 1))), (0, .ref (a 0 0)), (1, .int (x)), (2, .int (m))]) dX8_buy_57 rfl (by decide) rfl ?_
          refine v_aload_n C dX8_buy_59 rfl 2 rfl ?_
          refine v_iload_n C dX8_buy_60 rfl 1 rfl ?_
          refine v_ifB_ne C (t := 68) dX8_buy_61 rfl rfl (fun _ => ?_) (fun h => absurd h2 h)
          refine v_iload_n C dX8_buy_68 rfl 4 rfl ?_
          refine v_iconst C (v := 1) dX8_buy_69 rfl rfl ?_
          refine v_sipush C (v := 1000) dX8_buy_70 rfl rfl ?_
          refine w_invSr C [.int (m), .int (1), .int (1000)] 0 0 L_X8_123 (c_X8_isIn (s := s) (t := t)  hst hG hL m 1 1000) rfl rfl rfl dX8_buy_73 rfl kx_no (fun h13 => ?_)
          refine v_ifB_ne C (t := 83) dX8_buy_76 rfl rfl (fun _ => ?_) (fun h => absurd h5 h)
          refine v_iload C dX8_buy_83 rfl 0 rfl ?_
          refine v_if_eq C (t := 92) dX8_buy_85 rfl rfl (fun _ => ?_) (fun h => absurd h (by decide))
          refine v_iconst C (v := 3) dX8_buy_92 rfl rfl ?_
          refine w_invVr C [.int (3)] 0 0 L_X8_145 (c_X8_holdsTo (s := s) (t := t)  hst hG hL 3) (m0 (s := s) (t := t) (g := G.2.2.1) hL) rfl rfl rfl rfl dX8_buy_93 rfl kx_no (fun h14 => ?_)
          refine v_ifB_ne C (t := 101) dX8_buy_96 rfl rfl (fun h => absurd h (by decide)) (fun _ => ?_)
          refine v_iconst C (v := 0) dX8_buy_99 rfl rfl ?_
          exact v_iret C (by decide) (by decide) dX8_buy_100 ⟨congrArg (fun z => some (Value.int z)) (by first | rfl | (simp only [h2, h5, h9, h12, Int32.not_le.mpr h12, pM, pU, heldM_45, gvW_45, inW_45, livN_45, sum9_45, sum13_45, buyE, buyR, buyU, bI, pM, pU, n10, n20, n30, n0, if_true, if_false, ite_true, ite_false, not_true_eq_false, not_false_eq_true, and_true, true_and, and_false, false_and, or_true, true_or, or_false, false_or, reduceIte, and_self, or_self, ne_eq, eq_self_iff_true]; first | done | rfl) | (simp [bI, h2, h5, h9, h12, Int32.not_le.mpr h12, pM, pU, heldM_45, gvW_45, inW_45, livN_45, sum9_45, sum13_45, buyE, buyR, buyU]; done) | (simp only [pM, pU, heldM_45, gvW_45, inW_45, livN_45, sum9_45, sum13_45, buyE, buyR, buyU, bI, ← Int32.not_le] at *; simp [h2, h5, h9, h12, Int32.not_le.mpr h12]; done) | (simp_all [bI, h2, h5, h9, h12, Int32.not_le.mpr h12, pM, pU, heldM_45, gvW_45, inW_45, livN_45, sum9_45, sum13_45, buyE, buyR, buyU]; done) | (simp_all [bI, h2, h5, h9, h12, Int32.not_le.mpr h12, pM, pU, heldM_45, gvW_45, inW_45, livN_45, sum9_45, sum13_45, buyE, buyR, buyU]; rfl) | (exfalso; omega)), by first | rfl | (simp only [h2, h5, h9, h12, Int32.not_le.mpr h12, pM, pU, heldM_45, gvW_45, inW_45, livN_45, sum9_45, sum13_45, buyE, buyR, buyU, bI, pM, pU, n10, n20, n30, n0, if_true, if_false, ite_true, ite_false, not_true_eq_false, not_false_eq_true, and_true, true_and, and_false, false_and, or_true, true_or, or_false, false_or, reduceIte, and_self, or_self, ne_eq, eq_self_iff_true]; first | done | rfl) | (simp [bI, h2, h5, h9, h12, Int32.not_le.mpr h12, pM, pU, heldM_45, gvW_45, inW_45, livN_45, sum9_45, sum13_45, buyE, buyR, buyU]; done) | (simp only [pM, pU, heldM_45, gvW_45, inW_45, livN_45, sum9_45, sum13_45, buyE, buyR, buyU, bI, ← Int32.not_le] at *; simp [h2, h5, h9, h12, Int32.not_le.mpr h12]; done) | (simp_all [bI, h2, h5, h9, h12, Int32.not_le.mpr h12, pM, pU, heldM_45, gvW_45, inW_45, livN_45, sum9_45, sum13_45, buyE, buyR, buyU]; done) | (simp_all [bI, h2, h5, h9, h12, Int32.not_le.mpr h12, pM, pU, heldM_45, gvW_45, inW_45, livN_45, sum9_45, sum13_45, buyE, buyR, buyU]; rfl) | (exfalso; omega), by trivial⟩
        · skip
          refine v_aload_n C dX8_buy_37 rfl 1 rfl ?_
          refine v_get C (v := .ref (a 1 16)) g_X8_44 (m0 (s := s) (t := t) (g := G.2.2.1) hL) (rg (by decide) rfl) dX8_buy_38 rfl ?_
          refine v_iload_n C dX8_buy_41 rfl 2 rfl ?_
          refine v_iald C (len := 12) (m1 (s := s) (t := t) (g := G.2.2.1) hL 16 rfl) (vp_cnt (by assumption) hm hm12 (by decide)) dX8_buy_42 rfl ?_
          refine v_iload_n C dX8_buy_43 rfl 3 rfl ?_
          refine v_aload_n C dX8_buy_44 rfl 1 rfl ?_
          refine w_invVr C [] 0 0 L_X8_224 (c_X8_price (s := s) (t := t)  hst hG hL ) (m0 (s := s) (t := t) (g := G.2.2.1) hL) rfl rfl rfl rfl dX8_buy_45 rfl kx_no (fun h15 => ?_)
          refine v_imul C dX8_buy_48 rfl ?_
          refine v_icmp_lt C (t := 56) dX8_buy_49 rfl rfl (fun h16 => ?_) (fun h16 => ?_)
          · skip
            refine v_iconst C (v := 0) dX8_buy_56 rfl rfl ?_
            refine v_istore C (lv1 := [(4, .int (0)), (3, .int (bI ((0 : Int32) ≤ x ∧ x ≤ t 12 0 - 1))), (0, .ref (a 0 0)), (1, .int (x)), (2, .int (m))]) dX8_buy_57 rfl (by decide) rfl ?_
            refine v_aload_n C dX8_buy_59 rfl 2 rfl ?_
            refine v_iload_n C dX8_buy_60 rfl 1 rfl ?_
            refine v_ifB_ne C (t := 68) dX8_buy_61 rfl rfl (fun _ => ?_) (fun h => absurd h2 h)
            refine v_iload_n C dX8_buy_68 rfl 4 rfl ?_
            refine v_iconst C (v := 1) dX8_buy_69 rfl rfl ?_
            refine v_sipush C (v := 1000) dX8_buy_70 rfl rfl ?_
            refine w_invSr C [.int (m), .int (1), .int (1000)] 0 0 L_X8_123 (c_X8_isIn (s := s) (t := t)  hst hG hL m 1 1000) rfl rfl rfl dX8_buy_73 rfl kx_no (fun h17 => ?_)
            refine v_ifB_ne C (t := 83) dX8_buy_76 rfl rfl (fun _ => ?_) (fun h => absurd h5 h)
            refine v_iload C dX8_buy_83 rfl 0 rfl ?_
            refine v_if_eq C (t := 92) dX8_buy_85 rfl rfl (fun _ => ?_) (fun h => absurd h (by decide))
            refine v_iconst C (v := 3) dX8_buy_92 rfl rfl ?_
            refine w_invVr C [.int (3)] 0 0 L_X8_145 (c_X8_holdsTo (s := s) (t := t)  hst hG hL 3) (m0 (s := s) (t := t) (g := G.2.2.1) hL) rfl rfl rfl rfl dX8_buy_93 rfl kx_no (fun h18 => ?_)
            refine v_ifB_ne C (t := 101) dX8_buy_96 rfl rfl (fun h => absurd h (by decide)) (fun _ => ?_)
            refine v_iconst C (v := 0) dX8_buy_99 rfl rfl ?_
            exact v_iret C (by decide) (by decide) dX8_buy_100 ⟨congrArg (fun z => some (Value.int z)) (by first | rfl | (simp only [h2, h5, h9, h12, Int32.not_lt.mp h12, h16, Int32.not_le.mpr h16, pM, pU, heldM_45, gvW_45, inW_45, livN_45, sum9_45, sum13_45, buyE, buyR, buyU, bI, pM, pU, n10, n20, n30, n0, if_true, if_false, ite_true, ite_false, not_true_eq_false, not_false_eq_true, and_true, true_and, and_false, false_and, or_true, true_or, or_false, false_or, reduceIte, and_self, or_self, ne_eq, eq_self_iff_true]; first | done | rfl) | (simp [bI, h2, h5, h9, h12, Int32.not_lt.mp h12, h16, Int32.not_le.mpr h16, pM, pU, heldM_45, gvW_45, inW_45, livN_45, sum9_45, sum13_45, buyE, buyR, buyU]; done) | (simp only [pM, pU, heldM_45, gvW_45, inW_45, livN_45, sum9_45, sum13_45, buyE, buyR, buyU, bI, ← Int32.not_le] at *; simp [h2, h5, h9, h12, Int32.not_lt.mp h12, h16, Int32.not_le.mpr h16]; done) | (simp_all [bI, h2, h5, h9, h12, Int32.not_lt.mp h12, h16, Int32.not_le.mpr h16, pM, pU, heldM_45, gvW_45, inW_45, livN_45, sum9_45, sum13_45, buyE, buyR, buyU]; done) | (simp_all [bI, h2, h5, h9, h12, Int32.not_lt.mp h12, h16, Int32.not_le.mpr h16, pM, pU, heldM_45, gvW_45, inW_45, livN_45, sum9_45, sum13_45, buyE, buyR, buyU]; rfl) | (exfalso; omega)), by first | rfl | (simp only [h2, h5, h9, h12, Int32.not_lt.mp h12, h16, Int32.not_le.mpr h16, pM, pU, heldM_45, gvW_45, inW_45, livN_45, sum9_45, sum13_45, buyE, buyR, buyU, bI, pM, pU, n10, n20, n30, n0, if_true, if_false, ite_true, ite_false, not_true_eq_false, not_false_eq_true, and_true, true_and, and_false, false_and, or_true, true_or, or_false, false_or, reduceIte, and_self, or_self, ne_eq, eq_self_iff_true]; first | done | rfl) | (simp [bI, h2, h5, h9, h12, Int32.not_lt.mp h12, h16, Int32.not_le.mpr h16, pM, pU, heldM_45, gvW_45, inW_45, livN_45, sum9_45, sum13_45, buyE, buyR, buyU]; done) | (simp only [pM, pU, heldM_45, gvW_45, inW_45, livN_45, sum9_45, sum13_45, buyE, buyR, buyU, bI, ← Int32.not_le] at *; simp [h2, h5, h9, h12, Int32.not_lt.mp h12, h16, Int32.not_le.mpr h16]; done) | (simp_all [bI, h2, h5, h9, h12, Int32.not_lt.mp h12, h16, Int32.not_le.mpr h16, pM, pU, heldM_45, gvW_45, inW_45, livN_45, sum9_45, sum13_45, buyE, buyR, buyU]; done) | (simp_all [bI, h2, h5, h9, h12, Int32.not_lt.mp h12, h16, Int32.not_le.mpr h16, pM, pU, heldM_45, gvW_45, inW_45, livN_45, sum9_45, sum13_45, buyE, buyR, buyU]; rfl) | (exfalso; omega), by trivial⟩
          · skip
            refine v_iconst C (v := 1) dX8_buy_52 rfl rfl ?_
            refine v_goto C (q := 57) dX8_buy_53 rfl ?_
            refine v_istore C (lv1 := [(4, .int (1)), (3, .int (bI ((0 : Int32) ≤ x ∧ x ≤ t 12 0 - 1))), (0, .ref (a 0 0)), (1, .int (x)), (2, .int (m))]) dX8_buy_57 rfl (by decide) rfl ?_
            refine v_aload_n C dX8_buy_59 rfl 2 rfl ?_
            refine v_iload_n C dX8_buy_60 rfl 1 rfl ?_
            refine v_ifB_ne C (t := 68) dX8_buy_61 rfl rfl (fun _ => ?_) (fun h => absurd h2 h)
            refine v_iload_n C dX8_buy_68 rfl 4 rfl ?_
            refine v_iconst C (v := 1) dX8_buy_69 rfl rfl ?_
            refine v_sipush C (v := 1000) dX8_buy_70 rfl rfl ?_
            refine w_invSr C [.int (m), .int (1), .int (1000)] 0 0 L_X8_123 (c_X8_isIn (s := s) (t := t)  hst hG hL m 1 1000) rfl rfl rfl dX8_buy_73 rfl kx_no (fun h19 => ?_)
            refine v_ifB_ne C (t := 83) dX8_buy_76 rfl rfl (fun _ => ?_) (fun h => absurd h5 h)
            refine v_iload C dX8_buy_83 rfl 0 rfl ?_
            refine v_if_eq C (t := 92) dX8_buy_85 rfl rfl (fun h => absurd h (by decide)) (fun _ => ?_)
            refine v_iconst C (v := 0) dX8_buy_88 rfl rfl ?_
            refine v_goto C (q := 93) dX8_buy_89 rfl ?_
            refine w_invVr C [.int (0)] 0 0 L_X8_145 (c_X8_holdsTo (s := s) (t := t)  hst hG hL 0) (m0 (s := s) (t := t) (g := G.2.2.1) hL) rfl rfl rfl rfl dX8_buy_93 rfl kx_no (fun h20 => ?_)
            refine v_ifB_ne C (t := 101) dX8_buy_96 rfl rfl (fun _ => ?_) (fun h => absurd (by decide) h)
            refine v_iload_n C dX8_buy_101 rfl 4 rfl ?_
            refine v_aload_n C dX8_buy_102 rfl 2 rfl ?_
            refine w_invVr C [] 0 0 L_X8_224 (c_X8_price (s := s) (t := ((su t 45 0 0)))  hst hG hL ) (m0 (s := s) (t := ((su t 45 0 0))) (g := G.2.2.1) hL) rfl rfl rfl rfl dX8_buy_103 rfl kx_no (fun h21 => ?_)
            refine v_imul C dX8_buy_106 rfl ?_
            refine v_istore C (lv1 := [(5, .int (m * (priceF ((su t 45 0 0) 5 0)))), (4, .int (1)), (3, .int (bI ((0 : Int32) ≤ x ∧ x ≤ t 12 0 - 1))), (0, .ref (a 0 0)), (1, .int (x)), (2, .int (m))]) dX8_buy_107 rfl (by decide) rfl ?_
            refine v_aload_n C dX8_buy_109 rfl 3 rfl ?_
            refine v_dup C dX8_buy_110 rfl rfl ?_
            refine v_get C (v := .int (t 5 0)) g_X8_22 (m0 (s := s) (t := ((su t 45 0 0))) (g := G.2.2.1) hL) (rg (by decide) rfl) dX8_buy_111 rfl ?_
            refine v_iload_n C dX8_buy_114 rfl 5 rfl ?_
            refine v_isub C dX8_buy_115 rfl ?_
            refine v_put C f_X8_22 (put_m0 (s := s) (t := ((su t 45 0 0))) (g := G.2.2.1) hL 5 rfl ((t 5 0) - m)) rfl rfl (rg_len (by decide)) dX8_buy_116 rfl ?_
            refine v_aload_n C dX8_buy_119 rfl 3 rfl ?_
            refine v_get C (v := .ref (a 1 15)) g_X8_41 (m0 (s := s) (t := ((su (su t 45 0 0) 5 0 ((t 5 0) - m)))) (g := G.2.2.1) hL) (rg (by decide) rfl) dX8_buy_120 rfl ?_
            refine v_iload_n C dX8_buy_123 rfl 4 rfl ?_
            refine v_dup2 C dX8_buy_124 rfl rfl rfl ?_
            refine v_iald C (len := 12) (m1 (s := s) (t := ((su (su t 45 0 0) 5 0 ((t 5 0) - m)))) (g := G.2.2.1) hL 15 rfl) (vp_cnt (by assumption) hm hm12 (by decide)) dX8_buy_125 rfl ?_
            refine xx_top (y := t 15 (tn x)) rfl ?_
            refine v_iload_n C dX8_buy_126 rfl 5 rfl ?_
            refine v_iadd C dX8_buy_127 rfl ?_
            refine v_iastE C (len := 12) (tn x) (put_m1 (s := s) (t := ((su (su t 45 0 0) 5 0 ((t 5 0) - m)))) (g := G.2.2.1) hL 15 rfl (tn x) ((t 15 (tn x)) + m)) rfl (vp_cnt (by assumption) hm hm12 (by decide)) dX8_buy_128 rfl ?_
            refine v_aload_n C dX8_buy_129 rfl 3 rfl ?_
            refine v_get C (v := .ref (a 1 16)) g_X8_44 (m0 (s := s) (t := ((su (su (su t 45 0 0) 5 0 ((t 5 0) - m)) 15 (tn x) ((t 15 (tn x)) + m)))) (g := G.2.2.1) hL) (rg (by decide) rfl) dX8_buy_130 rfl ?_
            refine v_iload_n C dX8_buy_133 rfl 4 rfl ?_
            refine v_dup2 C dX8_buy_134 rfl rfl rfl ?_
            refine v_iald C (len := 12) (m1 (s := s) (t := ((su (su (su t 45 0 0) 5 0 ((t 5 0) - m)) 15 (tn x) ((t 15 (tn x)) + m)))) (g := G.2.2.1) hL 16 rfl) (vp_cnt (by assumption) hm hm12 (by decide)) dX8_buy_135 rfl ?_
            refine xx_top (y := t 16 (tn x)) rfl ?_
            refine v_iload C dX8_buy_136 rfl 0 rfl ?_
            refine v_isub C dX8_buy_138 rfl ?_
            refine v_iastE C (len := 12) (tn x) (put_m1 (s := s) (t := ((su (su (su t 45 0 0) 5 0 ((t 5 0) - m)) 15 (tn x) ((t 15 (tn x)) + m)))) (g := G.2.2.1) hL 16 rfl (tn x) ((t 16 (tn x)) - (m * (priceF ((su t 45 0 0) 5 0))))) rfl (vp_cnt (by assumption) hm hm12 (by decide)) dX8_buy_139 rfl ?_
            refine v_iload C dX8_buy_140 rfl 0 rfl ?_
            exact v_iret C (by decide) (by decide) dX8_buy_142 ⟨congrArg (fun z => some (Value.int z)) (by first | rfl | (simp only [h2, h5, h9, h12, Int32.not_lt.mp h12, h16, Int32.not_lt.mp h16, pM, pU, heldM_45, gvW_45, inW_45, livN_45, sum9_45, sum13_45, buyE, buyR, buyU, bI, pM, pU, n10, n20, n30, n0, if_true, if_false, ite_true, ite_false, not_true_eq_false, not_false_eq_true, and_true, true_and, and_false, false_and, or_true, true_or, or_false, false_or, reduceIte, and_self, or_self, ne_eq, eq_self_iff_true]; first | done | rfl) | (simp [bI, h2, h5, h9, h12, Int32.not_lt.mp h12, h16, Int32.not_lt.mp h16, pM, pU, heldM_45, gvW_45, inW_45, livN_45, sum9_45, sum13_45, buyE, buyR, buyU]; done) | (simp only [pM, pU, heldM_45, gvW_45, inW_45, livN_45, sum9_45, sum13_45, buyE, buyR, buyU, bI, ← Int32.not_le] at *; simp [h2, h5, h9, h12, Int32.not_lt.mp h12, h16, Int32.not_lt.mp h16]; done) | (simp_all [bI, h2, h5, h9, h12, Int32.not_lt.mp h12, h16, Int32.not_lt.mp h16, pM, pU, heldM_45, gvW_45, inW_45, livN_45, sum9_45, sum13_45, buyE, buyR, buyU]; done) | (simp_all [bI, h2, h5, h9, h12, Int32.not_lt.mp h12, h16, Int32.not_lt.mp h16, pM, pU, heldM_45, gvW_45, inW_45, livN_45, sum9_45, sum13_45, buyE, buyR, buyU]; rfl) | (exfalso; omega)), by first | rfl | (simp only [h2, h5, h9, h12, Int32.not_lt.mp h12, h16, Int32.not_lt.mp h16, pM, pU, heldM_45, gvW_45, inW_45, livN_45, sum9_45, sum13_45, buyE, buyR, buyU, bI, pM, pU, n10, n20, n30, n0, if_true, if_false, ite_true, ite_false, not_true_eq_false, not_false_eq_true, and_true, true_and, and_false, false_and, or_true, true_or, or_false, false_or, reduceIte, and_self, or_self, ne_eq, eq_self_iff_true]; first | done | rfl) | (simp [bI, h2, h5, h9, h12, Int32.not_lt.mp h12, h16, Int32.not_lt.mp h16, pM, pU, heldM_45, gvW_45, inW_45, livN_45, sum9_45, sum13_45, buyE, buyR, buyU]; done) | (simp only [pM, pU, heldM_45, gvW_45, inW_45, livN_45, sum9_45, sum13_45, buyE, buyR, buyU, bI, ← Int32.not_le] at *; simp [h2, h5, h9, h12, Int32.not_lt.mp h12, h16, Int32.not_lt.mp h16]; done) | (simp_all [bI, h2, h5, h9, h12, Int32.not_lt.mp h12, h16, Int32.not_lt.mp h16, pM, pU, heldM_45, gvW_45, inW_45, livN_45, sum9_45, sum13_45, buyE, buyR, buyU]; done) | (simp_all [bI, h2, h5, h9, h12, Int32.not_lt.mp h12, h16, Int32.not_lt.mp h16, pM, pU, heldM_45, gvW_45, inW_45, livN_45, sum9_45, sum13_45, buyE, buyR, buyU]; rfl) | (exfalso; omega), by trivial⟩

abbrev r_X8_gold : Room := { frames := 1, cells := 0, slots := 0, locals := 22 }
set_option maxRecDepth 4000 in
theorem c_X8_gold {l : Launch} {G : GG} {a : AD} {s t s0 : SS} {L : List (Nat × Nat)} {nm : Nat} (hst : l.stackTraces = false) (hG : GOK G) (hL : Live L s0) (w_ : Int32) (hm : t 12 0 = nI nm) (hm12 : nm ≤ 12) : Mth l yX8_gold cX8_gold 2 (Option.some Jvm.ClassFile.FieldType.int) r_X8_gold G (wl a (E G.2.2.1 a s t) L) [.ref (a 0 0), .int w_] (RI (.int (pM (goldE t nm w_) (goldR t nm w_))) (wl a (E G.2.2.1 a s (pU (goldE t nm w_) (su t 45 0 0) t)) L) (True)) nX := by
  refine mth_of rfl (Nat.le_of_ble_eq_true rfl) hst hG (fun X hX C0 => ?_)
  subst hX
  have C : Cx X G cX8_gold 2 RX8 (Option.some Jvm.ClassFile.FieldType.int) r_X8_gold "gold" [] := C0
  clear C0
  show V X G 2 _ 0 0 _ 0 [(0, .ref (a 0 0)), (1, .int (w_))] []
  refine v_aload_n C dX8_gold_0 rfl 0 rfl ?_
  refine v_iload_n C dX8_gold_1 rfl 1 rfl ?_
  refine v_iconst C (v := 0) dX8_gold_2 rfl rfl ?_
  refine v_iconst C (v := 4) dX8_gold_3 rfl rfl ?_
  refine w_invSr C [.int (w_), .int (0), .int (4)] 0 0 L_X8_123 (c_X8_isIn (s := s) (t := t)  hst hG hL w_ 0 4) rfl rfl rfl dX8_gold_4 rfl kx_no (fun h1 => ?_)
  refine v_ifB_eq C (t := 14) dX8_gold_7 rfl rfl (fun h2 => ?_) (fun h2 => ?_)
  · skip
    refine v_iconst C (v := 1) dX8_gold_14 rfl rfl ?_
    refine w_invVr C [.int (1)] 0 0 L_X8_145 (c_X8_holdsTo (s := s) (t := t)  hst hG hL 1) (m0 (s := s) (t := t) (g := G.2.2.1) hL) rfl rfl rfl rfl dX8_gold_15 rfl kx_no (fun h3 => ?_)
    refine v_ifB_ne C (t := 23) dX8_gold_18 rfl rfl (fun h => absurd h (by decide)) (fun _ => ?_)
    refine v_iconst C (v := 0) dX8_gold_21 rfl rfl ?_
    exact v_iret C (by decide) (by decide) dX8_gold_22 ⟨congrArg (fun z => some (Value.int z)) (by first | rfl | (simp only [h2, pM, pU, heldM_45, gvW_45, inW_45, livN_45, sum9_45, sum13_45, goldE, goldR, bI, pM, pU, n10, n20, n30, n0, if_true, if_false, ite_true, ite_false, not_true_eq_false, not_false_eq_true, and_true, true_and, and_false, false_and, or_true, true_or, or_false, false_or, reduceIte, and_self, or_self, ne_eq, eq_self_iff_true]; first | done | rfl) | (simp [bI, h2, pM, pU, heldM_45, gvW_45, inW_45, livN_45, sum9_45, sum13_45, goldE, goldR]; done) | (simp only [pM, pU, heldM_45, gvW_45, inW_45, livN_45, sum9_45, sum13_45, goldE, goldR, bI, ← Int32.not_le] at *; simp [h2]; done) | (simp_all [bI, h2, pM, pU, heldM_45, gvW_45, inW_45, livN_45, sum9_45, sum13_45, goldE, goldR]; done) | (simp_all [bI, h2, pM, pU, heldM_45, gvW_45, inW_45, livN_45, sum9_45, sum13_45, goldE, goldR]; rfl) | (exfalso; omega)), by first | rfl | (simp only [h2, pM, pU, heldM_45, gvW_45, inW_45, livN_45, sum9_45, sum13_45, goldE, goldR, bI, pM, pU, n10, n20, n30, n0, if_true, if_false, ite_true, ite_false, not_true_eq_false, not_false_eq_true, and_true, true_and, and_false, false_and, or_true, true_or, or_false, false_or, reduceIte, and_self, or_self, ne_eq, eq_self_iff_true]; first | done | rfl) | (simp [bI, h2, pM, pU, heldM_45, gvW_45, inW_45, livN_45, sum9_45, sum13_45, goldE, goldR]; done) | (simp only [pM, pU, heldM_45, gvW_45, inW_45, livN_45, sum9_45, sum13_45, goldE, goldR, bI, ← Int32.not_le] at *; simp [h2]; done) | (simp_all [bI, h2, pM, pU, heldM_45, gvW_45, inW_45, livN_45, sum9_45, sum13_45, goldE, goldR]; done) | (simp_all [bI, h2, pM, pU, heldM_45, gvW_45, inW_45, livN_45, sum9_45, sum13_45, goldE, goldR]; rfl) | (exfalso; omega), by trivial⟩
  · skip
    refine v_iconst C (v := 0) dX8_gold_10 rfl rfl ?_
    refine v_goto C (q := 15) dX8_gold_11 rfl ?_
    refine w_invVr C [.int (0)] 0 0 L_X8_145 (c_X8_holdsTo (s := s) (t := t)  hst hG hL 0) (m0 (s := s) (t := t) (g := G.2.2.1) hL) rfl rfl rfl rfl dX8_gold_15 rfl kx_no (fun h4 => ?_)
    refine v_ifB_ne C (t := 23) dX8_gold_18 rfl rfl (fun _ => ?_) (fun h => absurd (by decide) h)
    refine v_iload_n C dX8_gold_23 rfl 1 rfl ?_
    refine v_if_ne C (t := 34) dX8_gold_24 rfl rfl (fun h5 => ?_) (fun h5 => ?_)
    · skip
      refine v_iload_n C dX8_gold_34 rfl 1 rfl ?_
      refine v_iconst C (v := 1) dX8_gold_35 rfl rfl ?_
      refine v_icmp_ne C (t := 46) dX8_gold_36 rfl rfl (fun h6 => ?_) (fun h6 => ?_)
      · skip
        refine v_iload_n C dX8_gold_46 rfl 1 rfl ?_
        refine v_iconst C (v := 2) dX8_gold_47 rfl rfl ?_
        refine v_icmp_ne C (t := 58) dX8_gold_48 rfl rfl (fun h7 => ?_) (fun h7 => ?_)
        · skip
          refine v_iload_n C dX8_gold_58 rfl 1 rfl ?_
          refine v_iconst C (v := 3) dX8_gold_59 rfl rfl ?_
          refine v_icmp_ne C (t := 70) dX8_gold_60 rfl rfl (fun h8 => ?_) (fun h8 => ?_)
          · skip
            refine v_aload_n C dX8_gold_70 rfl 0 rfl ?_
            refine w_invVr C [] 0 0 L_X8_236 (c_X8_inGround (s := s) (t := ((su t 45 0 0)))  hst hG hL ) (m0 (s := s) (t := ((su t 45 0 0))) (g := G.2.2.1) hL) rfl rfl rfl rfl dX8_gold_71 rfl kx_no (fun h9 => ?_)
            refine v_aload_n C dX8_gold_74 rfl 0 rfl ?_
            refine v_get C (v := .int (t 6 0)) g_X8_208 (m0 (s := s) (t := ((su t 45 0 0))) (g := G.2.2.1) hL) (rg (by decide) rfl) dX8_gold_75 rfl ?_
            refine v_iadd C dX8_gold_78 rfl ?_
            refine v_aload_n C dX8_gold_79 rfl 0 rfl ?_
            refine w_invVr C [] 0 0 L_X8_239 (c_X8_withMiners (s := s) (t := ((su t 45 0 0))) (nm := nm) hst hG hL hm hm12) (m0 (s := s) (t := ((su t 45 0 0))) (g := G.2.2.1) hL) rfl rfl rfl rfl dX8_gold_80 rfl kx_no (fun h10 => ?_)
            refine v_iadd C dX8_gold_83 rfl ?_
            refine v_aload_n C dX8_gold_84 rfl 0 rfl ?_
            refine v_get C (v := .int (t 7 0)) g_X8_219 (m0 (s := s) (t := ((su t 45 0 0))) (g := G.2.2.1) hL) (rg (by decide) rfl) dX8_gold_85 rfl ?_
            refine v_iadd C dX8_gold_88 rfl ?_
            exact v_iret C (by decide) (by decide) dX8_gold_89 ⟨congrArg (fun z => some (Value.int z)) (by first | rfl | (simp only [h2, h5, h6, h7, h8, pM, pU, heldM_45, gvW_45, inW_45, livN_45, sum9_45, sum13_45, goldE, goldR, bI, pM, pU, n10, n20, n30, n0, if_true, if_false, ite_true, ite_false, not_true_eq_false, not_false_eq_true, and_true, true_and, and_false, false_and, or_true, true_or, or_false, false_or, reduceIte, and_self, or_self, ne_eq, eq_self_iff_true]; first | done | rfl) | (simp [bI, h2, h5, h6, h7, h8, pM, pU, heldM_45, gvW_45, inW_45, livN_45, sum9_45, sum13_45, goldE, goldR]; done) | (simp only [pM, pU, heldM_45, gvW_45, inW_45, livN_45, sum9_45, sum13_45, goldE, goldR, bI, ← Int32.not_le] at *; simp [h2, h5, h6, h7, h8]; done) | (simp_all [bI, h2, h5, h6, h7, h8, pM, pU, heldM_45, gvW_45, inW_45, livN_45, sum9_45, sum13_45, goldE, goldR]; done) | (simp_all [bI, h2, h5, h6, h7, h8, pM, pU, heldM_45, gvW_45, inW_45, livN_45, sum9_45, sum13_45, goldE, goldR]; rfl) | (exfalso; omega)), by first | rfl | (simp only [h2, h5, h6, h7, h8, pM, pU, heldM_45, gvW_45, inW_45, livN_45, sum9_45, sum13_45, goldE, goldR, bI, pM, pU, n10, n20, n30, n0, if_true, if_false, ite_true, ite_false, not_true_eq_false, not_false_eq_true, and_true, true_and, and_false, false_and, or_true, true_or, or_false, false_or, reduceIte, and_self, or_self, ne_eq, eq_self_iff_true]; first | done | rfl) | (simp [bI, h2, h5, h6, h7, h8, pM, pU, heldM_45, gvW_45, inW_45, livN_45, sum9_45, sum13_45, goldE, goldR]; done) | (simp only [pM, pU, heldM_45, gvW_45, inW_45, livN_45, sum9_45, sum13_45, goldE, goldR, bI, ← Int32.not_le] at *; simp [h2, h5, h6, h7, h8]; done) | (simp_all [bI, h2, h5, h6, h7, h8, pM, pU, heldM_45, gvW_45, inW_45, livN_45, sum9_45, sum13_45, goldE, goldR]; done) | (simp_all [bI, h2, h5, h6, h7, h8, pM, pU, heldM_45, gvW_45, inW_45, livN_45, sum9_45, sum13_45, goldE, goldR]; rfl) | (exfalso; omega), by trivial⟩
          · skip
            refine v_aload_n C dX8_gold_63 rfl 0 rfl ?_
            refine v_get C (v := .int (t 7 0)) g_X8_219 (m0 (s := s) (t := ((su t 45 0 0))) (g := G.2.2.1) hL) (rg (by decide) rfl) dX8_gold_64 rfl ?_
            refine v_goto C (q := 89) dX8_gold_67 rfl ?_
            exact v_iret C (by decide) (by decide) dX8_gold_89 ⟨congrArg (fun z => some (Value.int z)) (by first | rfl | (simp only [h2, h5, h6, h7, eq_true h8, pM, pU, heldM_45, gvW_45, inW_45, livN_45, sum9_45, sum13_45, goldE, goldR, bI, pM, pU, n10, n20, n30, n0, if_true, if_false, ite_true, ite_false, not_true_eq_false, not_false_eq_true, and_true, true_and, and_false, false_and, or_true, true_or, or_false, false_or, reduceIte, and_self, or_self, ne_eq, eq_self_iff_true]; first | done | rfl) | (simp [bI, h2, h5, h6, h7, eq_true h8, pM, pU, heldM_45, gvW_45, inW_45, livN_45, sum9_45, sum13_45, goldE, goldR]; done) | (simp only [pM, pU, heldM_45, gvW_45, inW_45, livN_45, sum9_45, sum13_45, goldE, goldR, bI, ← Int32.not_le] at *; simp [h2, h5, h6, h7, eq_true h8]; done) | (simp_all [bI, h2, h5, h6, h7, eq_true h8, pM, pU, heldM_45, gvW_45, inW_45, livN_45, sum9_45, sum13_45, goldE, goldR]; done) | (simp_all [bI, h2, h5, h6, h7, eq_true h8, pM, pU, heldM_45, gvW_45, inW_45, livN_45, sum9_45, sum13_45, goldE, goldR]; rfl) | (exfalso; omega)), by first | rfl | (simp only [h2, h5, h6, h7, eq_true h8, pM, pU, heldM_45, gvW_45, inW_45, livN_45, sum9_45, sum13_45, goldE, goldR, bI, pM, pU, n10, n20, n30, n0, if_true, if_false, ite_true, ite_false, not_true_eq_false, not_false_eq_true, and_true, true_and, and_false, false_and, or_true, true_or, or_false, false_or, reduceIte, and_self, or_self, ne_eq, eq_self_iff_true]; first | done | rfl) | (simp [bI, h2, h5, h6, h7, eq_true h8, pM, pU, heldM_45, gvW_45, inW_45, livN_45, sum9_45, sum13_45, goldE, goldR]; done) | (simp only [pM, pU, heldM_45, gvW_45, inW_45, livN_45, sum9_45, sum13_45, goldE, goldR, bI, ← Int32.not_le] at *; simp [h2, h5, h6, h7, eq_true h8]; done) | (simp_all [bI, h2, h5, h6, h7, eq_true h8, pM, pU, heldM_45, gvW_45, inW_45, livN_45, sum9_45, sum13_45, goldE, goldR]; done) | (simp_all [bI, h2, h5, h6, h7, eq_true h8, pM, pU, heldM_45, gvW_45, inW_45, livN_45, sum9_45, sum13_45, goldE, goldR]; rfl) | (exfalso; omega), by trivial⟩
        · skip
          refine v_aload_n C dX8_gold_51 rfl 0 rfl ?_
          refine w_invVr C [] 0 0 L_X8_239 (c_X8_withMiners (s := s) (t := ((su t 45 0 0))) (nm := nm) hst hG hL hm hm12) (m0 (s := s) (t := ((su t 45 0 0))) (g := G.2.2.1) hL) rfl rfl rfl rfl dX8_gold_52 rfl kx_no (fun h11 => ?_)
          refine v_goto C (q := 89) dX8_gold_55 rfl ?_
          exact v_iret C (by decide) (by decide) dX8_gold_89 ⟨congrArg (fun z => some (Value.int z)) (by first | rfl | (simp only [h2, h5, h6, eq_true h7, pM, pU, heldM_45, gvW_45, inW_45, livN_45, sum9_45, sum13_45, goldE, goldR, bI, pM, pU, n10, n20, n30, n0, if_true, if_false, ite_true, ite_false, not_true_eq_false, not_false_eq_true, and_true, true_and, and_false, false_and, or_true, true_or, or_false, false_or, reduceIte, and_self, or_self, ne_eq, eq_self_iff_true]; first | done | rfl) | (simp [bI, h2, h5, h6, eq_true h7, pM, pU, heldM_45, gvW_45, inW_45, livN_45, sum9_45, sum13_45, goldE, goldR]; done) | (simp only [pM, pU, heldM_45, gvW_45, inW_45, livN_45, sum9_45, sum13_45, goldE, goldR, bI, ← Int32.not_le] at *; simp [h2, h5, h6, eq_true h7]; done) | (simp_all [bI, h2, h5, h6, eq_true h7, pM, pU, heldM_45, gvW_45, inW_45, livN_45, sum9_45, sum13_45, goldE, goldR]; done) | (simp_all [bI, h2, h5, h6, eq_true h7, pM, pU, heldM_45, gvW_45, inW_45, livN_45, sum9_45, sum13_45, goldE, goldR]; rfl) | (exfalso; omega)), by first | rfl | (simp only [h2, h5, h6, eq_true h7, pM, pU, heldM_45, gvW_45, inW_45, livN_45, sum9_45, sum13_45, goldE, goldR, bI, pM, pU, n10, n20, n30, n0, if_true, if_false, ite_true, ite_false, not_true_eq_false, not_false_eq_true, and_true, true_and, and_false, false_and, or_true, true_or, or_false, false_or, reduceIte, and_self, or_self, ne_eq, eq_self_iff_true]; first | done | rfl) | (simp [bI, h2, h5, h6, eq_true h7, pM, pU, heldM_45, gvW_45, inW_45, livN_45, sum9_45, sum13_45, goldE, goldR]; done) | (simp only [pM, pU, heldM_45, gvW_45, inW_45, livN_45, sum9_45, sum13_45, goldE, goldR, bI, ← Int32.not_le] at *; simp [h2, h5, h6, eq_true h7]; done) | (simp_all [bI, h2, h5, h6, eq_true h7, pM, pU, heldM_45, gvW_45, inW_45, livN_45, sum9_45, sum13_45, goldE, goldR]; done) | (simp_all [bI, h2, h5, h6, eq_true h7, pM, pU, heldM_45, gvW_45, inW_45, livN_45, sum9_45, sum13_45, goldE, goldR]; rfl) | (exfalso; omega), by trivial⟩
      · skip
        refine v_aload_n C dX8_gold_39 rfl 0 rfl ?_
        refine v_get C (v := .int (t 6 0)) g_X8_208 (m0 (s := s) (t := ((su t 45 0 0))) (g := G.2.2.1) hL) (rg (by decide) rfl) dX8_gold_40 rfl ?_
        refine v_goto C (q := 89) dX8_gold_43 rfl ?_
        exact v_iret C (by decide) (by decide) dX8_gold_89 ⟨congrArg (fun z => some (Value.int z)) (by first | rfl | (simp only [h2, h5, eq_true h6, pM, pU, heldM_45, gvW_45, inW_45, livN_45, sum9_45, sum13_45, goldE, goldR, bI, pM, pU, n10, n20, n30, n0, if_true, if_false, ite_true, ite_false, not_true_eq_false, not_false_eq_true, and_true, true_and, and_false, false_and, or_true, true_or, or_false, false_or, reduceIte, and_self, or_self, ne_eq, eq_self_iff_true]; first | done | rfl) | (simp [bI, h2, h5, eq_true h6, pM, pU, heldM_45, gvW_45, inW_45, livN_45, sum9_45, sum13_45, goldE, goldR]; done) | (simp only [pM, pU, heldM_45, gvW_45, inW_45, livN_45, sum9_45, sum13_45, goldE, goldR, bI, ← Int32.not_le] at *; simp [h2, h5, eq_true h6]; done) | (simp_all [bI, h2, h5, eq_true h6, pM, pU, heldM_45, gvW_45, inW_45, livN_45, sum9_45, sum13_45, goldE, goldR]; done) | (simp_all [bI, h2, h5, eq_true h6, pM, pU, heldM_45, gvW_45, inW_45, livN_45, sum9_45, sum13_45, goldE, goldR]; rfl) | (exfalso; omega)), by first | rfl | (simp only [h2, h5, eq_true h6, pM, pU, heldM_45, gvW_45, inW_45, livN_45, sum9_45, sum13_45, goldE, goldR, bI, pM, pU, n10, n20, n30, n0, if_true, if_false, ite_true, ite_false, not_true_eq_false, not_false_eq_true, and_true, true_and, and_false, false_and, or_true, true_or, or_false, false_or, reduceIte, and_self, or_self, ne_eq, eq_self_iff_true]; first | done | rfl) | (simp [bI, h2, h5, eq_true h6, pM, pU, heldM_45, gvW_45, inW_45, livN_45, sum9_45, sum13_45, goldE, goldR]; done) | (simp only [pM, pU, heldM_45, gvW_45, inW_45, livN_45, sum9_45, sum13_45, goldE, goldR, bI, ← Int32.not_le] at *; simp [h2, h5, eq_true h6]; done) | (simp_all [bI, h2, h5, eq_true h6, pM, pU, heldM_45, gvW_45, inW_45, livN_45, sum9_45, sum13_45, goldE, goldR]; done) | (simp_all [bI, h2, h5, eq_true h6, pM, pU, heldM_45, gvW_45, inW_45, livN_45, sum9_45, sum13_45, goldE, goldR]; rfl) | (exfalso; omega), by trivial⟩
    · skip
      refine v_aload_n C dX8_gold_27 rfl 0 rfl ?_
      refine w_invVr C [] 0 0 L_X8_236 (c_X8_inGround (s := s) (t := ((su t 45 0 0)))  hst hG hL ) (m0 (s := s) (t := ((su t 45 0 0))) (g := G.2.2.1) hL) rfl rfl rfl rfl dX8_gold_28 rfl kx_no (fun h12 => ?_)
      refine v_goto C (q := 89) dX8_gold_31 rfl ?_
      exact v_iret C (by decide) (by decide) dX8_gold_89 ⟨congrArg (fun z => some (Value.int z)) (by first | rfl | (simp only [h2, eq_true h5, pM, pU, heldM_45, gvW_45, inW_45, livN_45, sum9_45, sum13_45, goldE, goldR, bI, pM, pU, n10, n20, n30, n0, if_true, if_false, ite_true, ite_false, not_true_eq_false, not_false_eq_true, and_true, true_and, and_false, false_and, or_true, true_or, or_false, false_or, reduceIte, and_self, or_self, ne_eq, eq_self_iff_true]; first | done | rfl) | (simp [bI, h2, eq_true h5, pM, pU, heldM_45, gvW_45, inW_45, livN_45, sum9_45, sum13_45, goldE, goldR]; done) | (simp only [pM, pU, heldM_45, gvW_45, inW_45, livN_45, sum9_45, sum13_45, goldE, goldR, bI, ← Int32.not_le] at *; simp [h2, eq_true h5]; done) | (simp_all [bI, h2, eq_true h5, pM, pU, heldM_45, gvW_45, inW_45, livN_45, sum9_45, sum13_45, goldE, goldR]; done) | (simp_all [bI, h2, eq_true h5, pM, pU, heldM_45, gvW_45, inW_45, livN_45, sum9_45, sum13_45, goldE, goldR]; rfl) | (exfalso; omega)), by first | rfl | (simp only [h2, eq_true h5, pM, pU, heldM_45, gvW_45, inW_45, livN_45, sum9_45, sum13_45, goldE, goldR, bI, pM, pU, n10, n20, n30, n0, if_true, if_false, ite_true, ite_false, not_true_eq_false, not_false_eq_true, and_true, true_and, and_false, false_and, or_true, true_or, or_false, false_or, reduceIte, and_self, or_self, ne_eq, eq_self_iff_true]; first | done | rfl) | (simp [bI, h2, eq_true h5, pM, pU, heldM_45, gvW_45, inW_45, livN_45, sum9_45, sum13_45, goldE, goldR]; done) | (simp only [pM, pU, heldM_45, gvW_45, inW_45, livN_45, sum9_45, sum13_45, goldE, goldR, bI, ← Int32.not_le] at *; simp [h2, eq_true h5]; done) | (simp_all [bI, h2, eq_true h5, pM, pU, heldM_45, gvW_45, inW_45, livN_45, sum9_45, sum13_45, goldE, goldR]; done) | (simp_all [bI, h2, eq_true h5, pM, pU, heldM_45, gvW_45, inW_45, livN_45, sum9_45, sum13_45, goldE, goldR]; rfl) | (exfalso; omega), by trivial⟩

abbrev r_X8_camp : Room := { frames := 2, cells := 0, slots := 0, locals := 43 }
set_option maxRecDepth 4000 in
theorem c_X8_camp {l : Launch} {G : GG} {a : AD} {s t s0 : SS} {L : List (Nat × Nat)} {nm : Nat} (hst : l.stackTraces = false) (hG : GOK G) (hL : Live L s0) (w_ : Int32) (hm : t 12 0 = nI nm) (hm12 : nm ≤ 12) : Mth l yX8_camp cX8_camp 2 (Option.some Jvm.ClassFile.FieldType.int) r_X8_camp G (wl a (E G.2.2.1 a s t) L) [.ref (a 0 0), .int w_] (RI (.int (pM (campE t nm w_) (campR t nm w_))) (wl a (E G.2.2.1 a s (pU (campE t nm w_) (su t 45 0 0) t)) L) (True)) nX := by
  refine mth_of rfl (Nat.le_of_ble_eq_true rfl) hst hG (fun X hX C0 => ?_)
  subst hX
  have C : Cx X G cX8_camp 2 RX8 (Option.some Jvm.ClassFile.FieldType.int) r_X8_camp "camp" [] := C0
  clear C0
  show V X G 2 _ 0 0 _ 0 [(0, .ref (a 0 0)), (1, .int (w_))] []
  refine v_aload_n C dX8_camp_0 rfl 0 rfl ?_
  refine v_iload_n C dX8_camp_1 rfl 1 rfl ?_
  refine v_iconst C (v := 0) dX8_camp_2 rfl rfl ?_
  refine v_iconst C (v := 5) dX8_camp_3 rfl rfl ?_
  refine w_invSr C [.int (w_), .int (0), .int (5)] 0 0 L_X8_123 (c_X8_isIn (s := s) (t := t)  hst hG hL w_ 0 5) rfl rfl rfl dX8_camp_4 rfl kx_no (fun h1 => ?_)
  refine v_ifB_eq C (t := 14) dX8_camp_7 rfl rfl (fun h2 => ?_) (fun h2 => ?_)
  · skip
    refine v_iconst C (v := 1) dX8_camp_14 rfl rfl ?_
    refine w_invVr C [.int (1)] 0 0 L_X8_145 (c_X8_holdsTo (s := s) (t := t)  hst hG hL 1) (m0 (s := s) (t := t) (g := G.2.2.1) hL) rfl rfl rfl rfl dX8_camp_15 rfl kx_no (fun h3 => ?_)
    refine v_ifB_ne C (t := 23) dX8_camp_18 rfl rfl (fun h => absurd h (by decide)) (fun _ => ?_)
    refine v_iconst C (v := 0) dX8_camp_21 rfl rfl ?_
    exact v_iret C (by decide) (by decide) dX8_camp_22 ⟨congrArg (fun z => some (Value.int z)) (by first | rfl | (simp only [h2, pM, pU, heldM_45, gvW_45, inW_45, livN_45, sum9_45, sum13_45, campE, campR, bI, pM, pU, n10, n20, n30, n0, if_true, if_false, ite_true, ite_false, not_true_eq_false, not_false_eq_true, and_true, true_and, and_false, false_and, or_true, true_or, or_false, false_or, reduceIte, and_self, or_self, ne_eq, eq_self_iff_true]; first | done | rfl) | (simp [bI, h2, pM, pU, heldM_45, gvW_45, inW_45, livN_45, sum9_45, sum13_45, campE, campR]; done) | (simp only [pM, pU, heldM_45, gvW_45, inW_45, livN_45, sum9_45, sum13_45, campE, campR, bI, ← Int32.not_le] at *; simp [h2]; done) | (simp_all [bI, h2, pM, pU, heldM_45, gvW_45, inW_45, livN_45, sum9_45, sum13_45, campE, campR]; done) | (simp_all [bI, h2, pM, pU, heldM_45, gvW_45, inW_45, livN_45, sum9_45, sum13_45, campE, campR]; rfl) | (exfalso; omega)), by first | rfl | (simp only [h2, pM, pU, heldM_45, gvW_45, inW_45, livN_45, sum9_45, sum13_45, campE, campR, bI, pM, pU, n10, n20, n30, n0, if_true, if_false, ite_true, ite_false, not_true_eq_false, not_false_eq_true, and_true, true_and, and_false, false_and, or_true, true_or, or_false, false_or, reduceIte, and_self, or_self, ne_eq, eq_self_iff_true]; first | done | rfl) | (simp [bI, h2, pM, pU, heldM_45, gvW_45, inW_45, livN_45, sum9_45, sum13_45, campE, campR]; done) | (simp only [pM, pU, heldM_45, gvW_45, inW_45, livN_45, sum9_45, sum13_45, campE, campR, bI, ← Int32.not_le] at *; simp [h2]; done) | (simp_all [bI, h2, pM, pU, heldM_45, gvW_45, inW_45, livN_45, sum9_45, sum13_45, campE, campR]; done) | (simp_all [bI, h2, pM, pU, heldM_45, gvW_45, inW_45, livN_45, sum9_45, sum13_45, campE, campR]; rfl) | (exfalso; omega), by trivial⟩
  · skip
    refine v_iconst C (v := 0) dX8_camp_10 rfl rfl ?_
    refine v_goto C (q := 15) dX8_camp_11 rfl ?_
    refine w_invVr C [.int (0)] 0 0 L_X8_145 (c_X8_holdsTo (s := s) (t := t)  hst hG hL 0) (m0 (s := s) (t := t) (g := G.2.2.1) hL) rfl rfl rfl rfl dX8_camp_15 rfl kx_no (fun h4 => ?_)
    refine v_ifB_ne C (t := 23) dX8_camp_18 rfl rfl (fun _ => ?_) (fun h => absurd (by decide) h)
    refine v_iload_n C dX8_camp_23 rfl 1 rfl ?_
    refine v_if_ne C (t := 34) dX8_camp_24 rfl rfl (fun h5 => ?_) (fun h5 => ?_)
    · skip
      refine v_iload_n C dX8_camp_34 rfl 1 rfl ?_
      refine v_iconst C (v := 1) dX8_camp_35 rfl rfl ?_
      refine v_icmp_ne C (t := 46) dX8_camp_36 rfl rfl (fun h6 => ?_) (fun h6 => ?_)
      · skip
        refine v_iload_n C dX8_camp_46 rfl 1 rfl ?_
        refine v_iconst C (v := 2) dX8_camp_47 rfl rfl ?_
        refine v_icmp_ne C (t := 58) dX8_camp_48 rfl rfl (fun h7 => ?_) (fun h7 => ?_)
        · skip
          refine v_iload_n C dX8_camp_58 rfl 1 rfl ?_
          refine v_iconst C (v := 3) dX8_camp_59 rfl rfl ?_
          refine v_icmp_ne C (t := 70) dX8_camp_60 rfl rfl (fun h8 => ?_) (fun h8 => ?_)
          · skip
            refine v_iload_n C dX8_camp_70 rfl 1 rfl ?_
            refine v_iconst C (v := 4) dX8_camp_71 rfl rfl ?_
            refine v_icmp_ne C (t := 82) dX8_camp_72 rfl rfl (fun h9 => ?_) (fun h9 => ?_)
            · skip
              refine v_aload_n C dX8_camp_82 rfl 0 rfl ?_
              refine w_invVr C [] 0 0 L_X8_168 (c_X8_living (s := s) (t := ((su t 45 0 0))) (nm := nm) hst hG hL hm hm12) (m0 (s := s) (t := ((su t 45 0 0))) (g := G.2.2.1) hL) rfl rfl rfl rfl dX8_camp_83 rfl kx_no (fun h10 => ?_)
              exact v_iret C (by decide) (by decide) dX8_camp_86 ⟨congrArg (fun z => some (Value.int z)) (by first | rfl | (simp only [h2, h5, h6, h7, h8, h9, pM, pU, heldM_45, gvW_45, inW_45, livN_45, sum9_45, sum13_45, campE, campR, bI, pM, pU, n10, n20, n30, n0, if_true, if_false, ite_true, ite_false, not_true_eq_false, not_false_eq_true, and_true, true_and, and_false, false_and, or_true, true_or, or_false, false_or, reduceIte, and_self, or_self, ne_eq, eq_self_iff_true]; first | done | rfl) | (simp [bI, h2, h5, h6, h7, h8, h9, pM, pU, heldM_45, gvW_45, inW_45, livN_45, sum9_45, sum13_45, campE, campR]; done) | (simp only [pM, pU, heldM_45, gvW_45, inW_45, livN_45, sum9_45, sum13_45, campE, campR, bI, ← Int32.not_le] at *; simp [h2, h5, h6, h7, h8, h9]; done) | (simp_all [bI, h2, h5, h6, h7, h8, h9, pM, pU, heldM_45, gvW_45, inW_45, livN_45, sum9_45, sum13_45, campE, campR]; done) | (simp_all [bI, h2, h5, h6, h7, h8, h9, pM, pU, heldM_45, gvW_45, inW_45, livN_45, sum9_45, sum13_45, campE, campR]; rfl) | (exfalso; omega)), by first | rfl | (simp only [h2, h5, h6, h7, h8, h9, pM, pU, heldM_45, gvW_45, inW_45, livN_45, sum9_45, sum13_45, campE, campR, bI, pM, pU, n10, n20, n30, n0, if_true, if_false, ite_true, ite_false, not_true_eq_false, not_false_eq_true, and_true, true_and, and_false, false_and, or_true, true_or, or_false, false_or, reduceIte, and_self, or_self, ne_eq, eq_self_iff_true]; first | done | rfl) | (simp [bI, h2, h5, h6, h7, h8, h9, pM, pU, heldM_45, gvW_45, inW_45, livN_45, sum9_45, sum13_45, campE, campR]; done) | (simp only [pM, pU, heldM_45, gvW_45, inW_45, livN_45, sum9_45, sum13_45, campE, campR, bI, ← Int32.not_le] at *; simp [h2, h5, h6, h7, h8, h9]; done) | (simp_all [bI, h2, h5, h6, h7, h8, h9, pM, pU, heldM_45, gvW_45, inW_45, livN_45, sum9_45, sum13_45, campE, campR]; done) | (simp_all [bI, h2, h5, h6, h7, h8, h9, pM, pU, heldM_45, gvW_45, inW_45, livN_45, sum9_45, sum13_45, campE, campR]; rfl) | (exfalso; omega), by trivial⟩
            · skip
              refine v_aload_n C dX8_camp_75 rfl 0 rfl ?_
              refine v_get C (v := .int (t 36 0)) g_X8_152 (m0 (s := s) (t := ((su t 45 0 0))) (g := G.2.2.1) hL) (rg (by decide) rfl) dX8_camp_76 rfl ?_
              refine v_goto C (q := 86) dX8_camp_79 rfl ?_
              exact v_iret C (by decide) (by decide) dX8_camp_86 ⟨congrArg (fun z => some (Value.int z)) (by first | rfl | (simp only [h2, h5, h6, h7, h8, eq_true h9, pM, pU, heldM_45, gvW_45, inW_45, livN_45, sum9_45, sum13_45, campE, campR, bI, pM, pU, n10, n20, n30, n0, if_true, if_false, ite_true, ite_false, not_true_eq_false, not_false_eq_true, and_true, true_and, and_false, false_and, or_true, true_or, or_false, false_or, reduceIte, and_self, or_self, ne_eq, eq_self_iff_true]; first | done | rfl) | (simp [bI, h2, h5, h6, h7, h8, eq_true h9, pM, pU, heldM_45, gvW_45, inW_45, livN_45, sum9_45, sum13_45, campE, campR]; done) | (simp only [pM, pU, heldM_45, gvW_45, inW_45, livN_45, sum9_45, sum13_45, campE, campR, bI, ← Int32.not_le] at *; simp [h2, h5, h6, h7, h8, eq_true h9]; done) | (simp_all [bI, h2, h5, h6, h7, h8, eq_true h9, pM, pU, heldM_45, gvW_45, inW_45, livN_45, sum9_45, sum13_45, campE, campR]; done) | (simp_all [bI, h2, h5, h6, h7, h8, eq_true h9, pM, pU, heldM_45, gvW_45, inW_45, livN_45, sum9_45, sum13_45, campE, campR]; rfl) | (exfalso; omega)), by first | rfl | (simp only [h2, h5, h6, h7, h8, eq_true h9, pM, pU, heldM_45, gvW_45, inW_45, livN_45, sum9_45, sum13_45, campE, campR, bI, pM, pU, n10, n20, n30, n0, if_true, if_false, ite_true, ite_false, not_true_eq_false, not_false_eq_true, and_true, true_and, and_false, false_and, or_true, true_or, or_false, false_or, reduceIte, and_self, or_self, ne_eq, eq_self_iff_true]; first | done | rfl) | (simp [bI, h2, h5, h6, h7, h8, eq_true h9, pM, pU, heldM_45, gvW_45, inW_45, livN_45, sum9_45, sum13_45, campE, campR]; done) | (simp only [pM, pU, heldM_45, gvW_45, inW_45, livN_45, sum9_45, sum13_45, campE, campR, bI, ← Int32.not_le] at *; simp [h2, h5, h6, h7, h8, eq_true h9]; done) | (simp_all [bI, h2, h5, h6, h7, h8, eq_true h9, pM, pU, heldM_45, gvW_45, inW_45, livN_45, sum9_45, sum13_45, campE, campR]; done) | (simp_all [bI, h2, h5, h6, h7, h8, eq_true h9, pM, pU, heldM_45, gvW_45, inW_45, livN_45, sum9_45, sum13_45, campE, campR]; rfl) | (exfalso; omega), by trivial⟩
          · skip
            refine v_aload_n C dX8_camp_63 rfl 0 rfl ?_
            refine w_invVr C [] 0 0 L_X8_224 (c_X8_price (s := s) (t := ((su t 45 0 0)))  hst hG hL ) (m0 (s := s) (t := ((su t 45 0 0))) (g := G.2.2.1) hL) rfl rfl rfl rfl dX8_camp_64 rfl kx_no (fun h11 => ?_)
            refine v_goto C (q := 86) dX8_camp_67 rfl ?_
            exact v_iret C (by decide) (by decide) dX8_camp_86 ⟨congrArg (fun z => some (Value.int z)) (by first | rfl | (simp only [h2, h5, h6, h7, eq_true h8, pM, pU, heldM_45, gvW_45, inW_45, livN_45, sum9_45, sum13_45, campE, campR, bI, pM, pU, n10, n20, n30, n0, if_true, if_false, ite_true, ite_false, not_true_eq_false, not_false_eq_true, and_true, true_and, and_false, false_and, or_true, true_or, or_false, false_or, reduceIte, and_self, or_self, ne_eq, eq_self_iff_true]; first | done | rfl) | (simp [bI, h2, h5, h6, h7, eq_true h8, pM, pU, heldM_45, gvW_45, inW_45, livN_45, sum9_45, sum13_45, campE, campR]; done) | (simp only [pM, pU, heldM_45, gvW_45, inW_45, livN_45, sum9_45, sum13_45, campE, campR, bI, ← Int32.not_le] at *; simp [h2, h5, h6, h7, eq_true h8]; done) | (simp_all [bI, h2, h5, h6, h7, eq_true h8, pM, pU, heldM_45, gvW_45, inW_45, livN_45, sum9_45, sum13_45, campE, campR]; done) | (simp_all [bI, h2, h5, h6, h7, eq_true h8, pM, pU, heldM_45, gvW_45, inW_45, livN_45, sum9_45, sum13_45, campE, campR]; rfl) | (exfalso; omega)), by first | rfl | (simp only [h2, h5, h6, h7, eq_true h8, pM, pU, heldM_45, gvW_45, inW_45, livN_45, sum9_45, sum13_45, campE, campR, bI, pM, pU, n10, n20, n30, n0, if_true, if_false, ite_true, ite_false, not_true_eq_false, not_false_eq_true, and_true, true_and, and_false, false_and, or_true, true_or, or_false, false_or, reduceIte, and_self, or_self, ne_eq, eq_self_iff_true]; first | done | rfl) | (simp [bI, h2, h5, h6, h7, eq_true h8, pM, pU, heldM_45, gvW_45, inW_45, livN_45, sum9_45, sum13_45, campE, campR]; done) | (simp only [pM, pU, heldM_45, gvW_45, inW_45, livN_45, sum9_45, sum13_45, campE, campR, bI, ← Int32.not_le] at *; simp [h2, h5, h6, h7, eq_true h8]; done) | (simp_all [bI, h2, h5, h6, h7, eq_true h8, pM, pU, heldM_45, gvW_45, inW_45, livN_45, sum9_45, sum13_45, campE, campR]; done) | (simp_all [bI, h2, h5, h6, h7, eq_true h8, pM, pU, heldM_45, gvW_45, inW_45, livN_45, sum9_45, sum13_45, campE, campR]; rfl) | (exfalso; omega), by trivial⟩
        · skip
          refine v_aload_n C dX8_camp_51 rfl 0 rfl ?_
          refine v_get C (v := .int (t 5 0)) g_X8_22 (m0 (s := s) (t := ((su t 45 0 0))) (g := G.2.2.1) hL) (rg (by decide) rfl) dX8_camp_52 rfl ?_
          refine v_goto C (q := 86) dX8_camp_55 rfl ?_
          exact v_iret C (by decide) (by decide) dX8_camp_86 ⟨congrArg (fun z => some (Value.int z)) (by first | rfl | (simp only [h2, h5, h6, eq_true h7, pM, pU, heldM_45, gvW_45, inW_45, livN_45, sum9_45, sum13_45, campE, campR, bI, pM, pU, n10, n20, n30, n0, if_true, if_false, ite_true, ite_false, not_true_eq_false, not_false_eq_true, and_true, true_and, and_false, false_and, or_true, true_or, or_false, false_or, reduceIte, and_self, or_self, ne_eq, eq_self_iff_true]; first | done | rfl) | (simp [bI, h2, h5, h6, eq_true h7, pM, pU, heldM_45, gvW_45, inW_45, livN_45, sum9_45, sum13_45, campE, campR]; done) | (simp only [pM, pU, heldM_45, gvW_45, inW_45, livN_45, sum9_45, sum13_45, campE, campR, bI, ← Int32.not_le] at *; simp [h2, h5, h6, eq_true h7]; done) | (simp_all [bI, h2, h5, h6, eq_true h7, pM, pU, heldM_45, gvW_45, inW_45, livN_45, sum9_45, sum13_45, campE, campR]; done) | (simp_all [bI, h2, h5, h6, eq_true h7, pM, pU, heldM_45, gvW_45, inW_45, livN_45, sum9_45, sum13_45, campE, campR]; rfl) | (exfalso; omega)), by first | rfl | (simp only [h2, h5, h6, eq_true h7, pM, pU, heldM_45, gvW_45, inW_45, livN_45, sum9_45, sum13_45, campE, campR, bI, pM, pU, n10, n20, n30, n0, if_true, if_false, ite_true, ite_false, not_true_eq_false, not_false_eq_true, and_true, true_and, and_false, false_and, or_true, true_or, or_false, false_or, reduceIte, and_self, or_self, ne_eq, eq_self_iff_true]; first | done | rfl) | (simp [bI, h2, h5, h6, eq_true h7, pM, pU, heldM_45, gvW_45, inW_45, livN_45, sum9_45, sum13_45, campE, campR]; done) | (simp only [pM, pU, heldM_45, gvW_45, inW_45, livN_45, sum9_45, sum13_45, campE, campR, bI, ← Int32.not_le] at *; simp [h2, h5, h6, eq_true h7]; done) | (simp_all [bI, h2, h5, h6, eq_true h7, pM, pU, heldM_45, gvW_45, inW_45, livN_45, sum9_45, sum13_45, campE, campR]; done) | (simp_all [bI, h2, h5, h6, eq_true h7, pM, pU, heldM_45, gvW_45, inW_45, livN_45, sum9_45, sum13_45, campE, campR]; rfl) | (exfalso; omega), by trivial⟩
      · skip
        refine v_aload_n C dX8_camp_39 rfl 0 rfl ?_
        refine v_get C (v := .int (t 3 0)) g_X8_16 (m0 (s := s) (t := ((su t 45 0 0))) (g := G.2.2.1) hL) (rg (by decide) rfl) dX8_camp_40 rfl ?_
        refine v_goto C (q := 86) dX8_camp_43 rfl ?_
        exact v_iret C (by decide) (by decide) dX8_camp_86 ⟨congrArg (fun z => some (Value.int z)) (by first | rfl | (simp only [h2, h5, eq_true h6, pM, pU, heldM_45, gvW_45, inW_45, livN_45, sum9_45, sum13_45, campE, campR, bI, pM, pU, n10, n20, n30, n0, if_true, if_false, ite_true, ite_false, not_true_eq_false, not_false_eq_true, and_true, true_and, and_false, false_and, or_true, true_or, or_false, false_or, reduceIte, and_self, or_self, ne_eq, eq_self_iff_true]; first | done | rfl) | (simp [bI, h2, h5, eq_true h6, pM, pU, heldM_45, gvW_45, inW_45, livN_45, sum9_45, sum13_45, campE, campR]; done) | (simp only [pM, pU, heldM_45, gvW_45, inW_45, livN_45, sum9_45, sum13_45, campE, campR, bI, ← Int32.not_le] at *; simp [h2, h5, eq_true h6]; done) | (simp_all [bI, h2, h5, eq_true h6, pM, pU, heldM_45, gvW_45, inW_45, livN_45, sum9_45, sum13_45, campE, campR]; done) | (simp_all [bI, h2, h5, eq_true h6, pM, pU, heldM_45, gvW_45, inW_45, livN_45, sum9_45, sum13_45, campE, campR]; rfl) | (exfalso; omega)), by first | rfl | (simp only [h2, h5, eq_true h6, pM, pU, heldM_45, gvW_45, inW_45, livN_45, sum9_45, sum13_45, campE, campR, bI, pM, pU, n10, n20, n30, n0, if_true, if_false, ite_true, ite_false, not_true_eq_false, not_false_eq_true, and_true, true_and, and_false, false_and, or_true, true_or, or_false, false_or, reduceIte, and_self, or_self, ne_eq, eq_self_iff_true]; first | done | rfl) | (simp [bI, h2, h5, eq_true h6, pM, pU, heldM_45, gvW_45, inW_45, livN_45, sum9_45, sum13_45, campE, campR]; done) | (simp only [pM, pU, heldM_45, gvW_45, inW_45, livN_45, sum9_45, sum13_45, campE, campR, bI, ← Int32.not_le] at *; simp [h2, h5, eq_true h6]; done) | (simp_all [bI, h2, h5, eq_true h6, pM, pU, heldM_45, gvW_45, inW_45, livN_45, sum9_45, sum13_45, campE, campR]; done) | (simp_all [bI, h2, h5, eq_true h6, pM, pU, heldM_45, gvW_45, inW_45, livN_45, sum9_45, sum13_45, campE, campR]; rfl) | (exfalso; omega), by trivial⟩
    · skip
      refine v_aload_n C dX8_camp_27 rfl 0 rfl ?_
      refine v_get C (v := .int (t 2 0)) g_X8_13 (m0 (s := s) (t := ((su t 45 0 0))) (g := G.2.2.1) hL) (rg (by decide) rfl) dX8_camp_28 rfl ?_
      refine v_goto C (q := 86) dX8_camp_31 rfl ?_
      exact v_iret C (by decide) (by decide) dX8_camp_86 ⟨congrArg (fun z => some (Value.int z)) (by first | rfl | (simp only [h2, eq_true h5, pM, pU, heldM_45, gvW_45, inW_45, livN_45, sum9_45, sum13_45, campE, campR, bI, pM, pU, n10, n20, n30, n0, if_true, if_false, ite_true, ite_false, not_true_eq_false, not_false_eq_true, and_true, true_and, and_false, false_and, or_true, true_or, or_false, false_or, reduceIte, and_self, or_self, ne_eq, eq_self_iff_true]; first | done | rfl) | (simp [bI, h2, eq_true h5, pM, pU, heldM_45, gvW_45, inW_45, livN_45, sum9_45, sum13_45, campE, campR]; done) | (simp only [pM, pU, heldM_45, gvW_45, inW_45, livN_45, sum9_45, sum13_45, campE, campR, bI, ← Int32.not_le] at *; simp [h2, eq_true h5]; done) | (simp_all [bI, h2, eq_true h5, pM, pU, heldM_45, gvW_45, inW_45, livN_45, sum9_45, sum13_45, campE, campR]; done) | (simp_all [bI, h2, eq_true h5, pM, pU, heldM_45, gvW_45, inW_45, livN_45, sum9_45, sum13_45, campE, campR]; rfl) | (exfalso; omega)), by first | rfl | (simp only [h2, eq_true h5, pM, pU, heldM_45, gvW_45, inW_45, livN_45, sum9_45, sum13_45, campE, campR, bI, pM, pU, n10, n20, n30, n0, if_true, if_false, ite_true, ite_false, not_true_eq_false, not_false_eq_true, and_true, true_and, and_false, false_and, or_true, true_or, or_false, false_or, reduceIte, and_self, or_self, ne_eq, eq_self_iff_true]; first | done | rfl) | (simp [bI, h2, eq_true h5, pM, pU, heldM_45, gvW_45, inW_45, livN_45, sum9_45, sum13_45, campE, campR]; done) | (simp only [pM, pU, heldM_45, gvW_45, inW_45, livN_45, sum9_45, sum13_45, campE, campR, bI, ← Int32.not_le] at *; simp [h2, eq_true h5]; done) | (simp_all [bI, h2, eq_true h5, pM, pU, heldM_45, gvW_45, inW_45, livN_45, sum9_45, sum13_45, campE, campR]; done) | (simp_all [bI, h2, eq_true h5, pM, pU, heldM_45, gvW_45, inW_45, livN_45, sum9_45, sum13_45, campE, campR]; rfl) | (exfalso; omega), by trivial⟩

abbrev r_X8_gets : Room := { frames := 2, cells := 0, slots := 0, locals := 45 }
set_option maxRecDepth 4000 in
theorem c_X8_gets {l : Launch} {G : GG} {a : AD} {s t s0 : SS} {L : List (Nat × Nat)} {nr : Nat} (hst : l.stackTraces = false) (hG : GOK G) (hL : Live L s0) (x : Int32) (hr : t 33 0 = nI nr) (hr20 : nr ≤ 20) (hro : ∀ i, i < nr → vp_in (t 34 i) 12) : Mth l yX8_gets cX8_gets 2 (Option.some Jvm.ClassFile.FieldType.int) r_X8_gets G (wl a (E G.2.2.1 a s t) L) [.ref (a 0 0), .int x] (RI (.int (pM (getsE t x) (getsR t x))) (wl a (E G.2.2.1 a s (pU (getsE t x) (su t 45 0 0) t)) L) (True)) nX := by
  refine mth_of rfl (Nat.le_of_ble_eq_true rfl) hst hG (fun X hX C0 => ?_)
  subst hX
  have C : Cx X G cX8_gets 2 RX8 (Option.some Jvm.ClassFile.FieldType.int) r_X8_gets "gets" [] := C0
  clear C0
  show V X G 2 _ 0 0 _ 0 [(0, .ref (a 0 0)), (1, .int (x))] []
  refine v_aload_n C dX8_gets_0 rfl 0 rfl ?_
  refine v_iload_n C dX8_gets_1 rfl 1 rfl ?_
  refine v_iconst C (v := 0) dX8_gets_2 rfl rfl ?_
  refine v_aload_n C dX8_gets_3 rfl 0 rfl ?_
  refine v_get C (v := .int (t 33 0)) g_X8_183 (m0 (s := s) (t := t) (g := G.2.2.1) hL) (rg (by decide) rfl) dX8_gets_4 rfl ?_
  refine v_iconst C (v := 1) dX8_gets_7 rfl rfl ?_
  refine v_isub C dX8_gets_8 rfl ?_
  refine w_invSr C [.int (x), .int (0), .int ((t 33 0) - 1)] 0 0 L_X8_123 (c_X8_isIn (s := s) (t := t)  hst hG hL x 0 ((t 33 0) - 1)) rfl rfl rfl dX8_gets_9 rfl kx_no (fun h1 => ?_)
  refine v_ifB_eq C (t := 19) dX8_gets_12 rfl rfl (fun h2 => ?_) (fun h2 => ?_)
  · skip
    refine v_iconst C (v := 1) dX8_gets_19 rfl rfl ?_
    refine w_invVr C [.int (1)] 0 0 L_X8_145 (c_X8_holdsTo (s := s) (t := t)  hst hG hL 1) (m0 (s := s) (t := t) (g := G.2.2.1) hL) rfl rfl rfl rfl dX8_gets_20 rfl kx_no (fun h3 => ?_)
    refine v_ifB_eq C (t := 34) dX8_gets_23 rfl rfl (fun _ => ?_) (fun h => absurd h (by decide))
    refine v_iconst C (v := 0) dX8_gets_34 rfl rfl ?_
    exact v_iret C (by decide) (by decide) dX8_gets_35 ⟨congrArg (fun z => some (Value.int z)) (by first | rfl | (simp only [h2, pM, pU, heldM_45, gvW_45, inW_45, livN_45, sum9_45, sum13_45, getsE, getsR, bI, pM, pU, n10, n20, n30, n0, if_true, if_false, ite_true, ite_false, not_true_eq_false, not_false_eq_true, and_true, true_and, and_false, false_and, or_true, true_or, or_false, false_or, reduceIte, and_self, or_self, ne_eq, eq_self_iff_true]; first | done | rfl) | (simp [bI, h2, pM, pU, heldM_45, gvW_45, inW_45, livN_45, sum9_45, sum13_45, getsE, getsR]; done) | (simp only [pM, pU, heldM_45, gvW_45, inW_45, livN_45, sum9_45, sum13_45, getsE, getsR, bI, ← Int32.not_le] at *; simp [h2]; done) | (simp_all [bI, h2, pM, pU, heldM_45, gvW_45, inW_45, livN_45, sum9_45, sum13_45, getsE, getsR]; done) | (simp_all [bI, h2, pM, pU, heldM_45, gvW_45, inW_45, livN_45, sum9_45, sum13_45, getsE, getsR]; rfl) | (exfalso; omega)), by first | rfl | (simp only [h2, pM, pU, heldM_45, gvW_45, inW_45, livN_45, sum9_45, sum13_45, getsE, getsR, bI, pM, pU, n10, n20, n30, n0, if_true, if_false, ite_true, ite_false, not_true_eq_false, not_false_eq_true, and_true, true_and, and_false, false_and, or_true, true_or, or_false, false_or, reduceIte, and_self, or_self, ne_eq, eq_self_iff_true]; first | done | rfl) | (simp [bI, h2, pM, pU, heldM_45, gvW_45, inW_45, livN_45, sum9_45, sum13_45, getsE, getsR]; done) | (simp only [pM, pU, heldM_45, gvW_45, inW_45, livN_45, sum9_45, sum13_45, getsE, getsR, bI, ← Int32.not_le] at *; simp [h2]; done) | (simp_all [bI, h2, pM, pU, heldM_45, gvW_45, inW_45, livN_45, sum9_45, sum13_45, getsE, getsR]; done) | (simp_all [bI, h2, pM, pU, heldM_45, gvW_45, inW_45, livN_45, sum9_45, sum13_45, getsE, getsR]; rfl) | (exfalso; omega), by trivial⟩
  · skip
    refine v_iconst C (v := 0) dX8_gets_15 rfl rfl ?_
    refine v_goto C (q := 20) dX8_gets_16 rfl ?_
    refine w_invVr C [.int (0)] 0 0 L_X8_145 (c_X8_holdsTo (s := s) (t := t)  hst hG hL 0) (m0 (s := s) (t := t) (g := G.2.2.1) hL) rfl rfl rfl rfl dX8_gets_20 rfl kx_no (fun h4 => ?_)
    refine v_ifB_eq C (t := 34) dX8_gets_23 rfl rfl (fun h => absurd (by decide) h) (fun _ => ?_)
    refine v_aload_n C dX8_gets_26 rfl 0 rfl ?_
    refine v_iload_n C dX8_gets_27 rfl 1 rfl ?_
    refine w_invVr C [.int (x)] 0 0 L_X8_186 (c_X8_getsOf (s := s) (t := ((su t 45 0 0))) (nr := nr) hst hG hL x _ (in_nI (N := 20) (vp_cnt (by assumption) hr hr20 (by decide)) (by omega)) (in_lt (N := 20) (vp_cnt (by assumption) hr hr20 (by decide))) (in_lt (vp_cnt (by assumption) hr (Nat.le_refl _) (by omega))) hr hr20 hro) (m0 (s := s) (t := ((su t 45 0 0))) (g := G.2.2.1) hL) rfl rfl rfl rfl dX8_gets_28 rfl kx_no (fun h5 => ?_)
    refine v_goto C (q := 35) dX8_gets_31 rfl ?_
    exact v_iret C (by decide) (by decide) dX8_gets_35 ⟨congrArg (fun z => some (Value.int z)) (by first | rfl | (simp only [h2, pM, pU, heldM_45, gvW_45, inW_45, livN_45, sum9_45, sum13_45, getsE, getsR, bI, pM, pU, n10, n20, n30, n0, if_true, if_false, ite_true, ite_false, not_true_eq_false, not_false_eq_true, and_true, true_and, and_false, false_and, or_true, true_or, or_false, false_or, reduceIte, and_self, or_self, ne_eq, eq_self_iff_true]; first | done | rfl) | (simp [bI, h2, pM, pU, heldM_45, gvW_45, inW_45, livN_45, sum9_45, sum13_45, getsE, getsR]; done) | (simp only [pM, pU, heldM_45, gvW_45, inW_45, livN_45, sum9_45, sum13_45, getsE, getsR, bI, ← Int32.not_le] at *; simp [h2]; done) | (simp_all [bI, h2, pM, pU, heldM_45, gvW_45, inW_45, livN_45, sum9_45, sum13_45, getsE, getsR]; done) | (simp_all [bI, h2, pM, pU, heldM_45, gvW_45, inW_45, livN_45, sum9_45, sum13_45, getsE, getsR]; rfl) | (exfalso; omega)), by first | rfl | (simp only [h2, pM, pU, heldM_45, gvW_45, inW_45, livN_45, sum9_45, sum13_45, getsE, getsR, bI, pM, pU, n10, n20, n30, n0, if_true, if_false, ite_true, ite_false, not_true_eq_false, not_false_eq_true, and_true, true_and, and_false, false_and, or_true, true_or, or_false, false_or, reduceIte, and_self, or_self, ne_eq, eq_self_iff_true]; first | done | rfl) | (simp [bI, h2, pM, pU, heldM_45, gvW_45, inW_45, livN_45, sum9_45, sum13_45, getsE, getsR]; done) | (simp only [pM, pU, heldM_45, gvW_45, inW_45, livN_45, sum9_45, sum13_45, getsE, getsR, bI, ← Int32.not_le] at *; simp [h2]; done) | (simp_all [bI, h2, pM, pU, heldM_45, gvW_45, inW_45, livN_45, sum9_45, sum13_45, getsE, getsR]; done) | (simp_all [bI, h2, pM, pU, heldM_45, gvW_45, inW_45, livN_45, sum9_45, sum13_45, getsE, getsR]; rfl) | (exfalso; omega), by trivial⟩

abbrev r_X8_ofClaim : Room := { frames := 2, cells := 0, slots := 0, locals := 43 }
set_option maxRecDepth 4000 in
theorem c_X8_ofClaim {l : Launch} {G : GG} {a : AD} {s t s0 : SS} {L : List (Nat × Nat)} {nc : Nat} (hst : l.stackTraces = false) (hG : GOK G) (hL : Live L s0) (x : Int32) (w_ : Int32) (hc : t 21 0 = nI nc) (hc30 : nc ≤ 30) : Mth l yX8_ofClaim cX8_ofClaim 3 (Option.some Jvm.ClassFile.FieldType.int) r_X8_ofClaim G (wl a (E G.2.2.1 a s t) L) [.ref (a 0 0), .int x, .int w_] (RI (.int (pM (ofClaimE t x w_) (ofClaimR t x w_))) (wl a (E G.2.2.1 a s (pU (ofClaimE t x w_) (su t 45 0 0) t)) L) (True)) nX := by
  refine mth_of rfl (Nat.le_of_ble_eq_true rfl) hst hG (fun X hX C0 => ?_)
  subst hX
  have C : Cx X G cX8_ofClaim 3 RX8 (Option.some Jvm.ClassFile.FieldType.int) r_X8_ofClaim "ofClaim" [] := C0
  clear C0
  show V X G 3 _ 0 0 _ 0 [(0, .ref (a 0 0)), (1, .int (x)), (2, .int (w_))] []
  refine v_aload_n C dX8_ofClaim_0 rfl 0 rfl ?_
  refine v_aload_n C dX8_ofClaim_1 rfl 0 rfl ?_
  refine v_iload_n C dX8_ofClaim_2 rfl 1 rfl ?_
  refine w_invVr C [.int (x)] 0 0 L_X8_230 (c_X8_isClaim (s := s) (t := t)  hst hG hL x) (m0 (s := s) (t := t) (g := G.2.2.1) hL) rfl rfl rfl rfl dX8_ofClaim_3 rfl kx_no (fun h1 => ?_)
  refine v_ifB_ne C (t := 13) dX8_ofClaim_6 rfl rfl (fun h2 => ?_) (fun h2 => ?_)
  · skip
    refine v_iload_n C dX8_ofClaim_13 rfl 2 rfl ?_
    refine v_iconst C (v := 0) dX8_ofClaim_14 rfl rfl ?_
    refine v_iconst C (v := 5) dX8_ofClaim_15 rfl rfl ?_
    refine w_invSr C [.int (w_), .int (0), .int (5)] 0 0 L_X8_123 (c_X8_isIn (s := s) (t := t)  hst hG hL w_ 0 5) rfl rfl rfl dX8_ofClaim_16 rfl kx_no (fun h3 => ?_)
    refine v_ifB_eq C (t := 26) dX8_ofClaim_19 rfl rfl (fun h4 => ?_) (fun h4 => ?_)
    · skip
      refine v_iconst C (v := 2) dX8_ofClaim_26 rfl rfl ?_
      refine w_invVr C [.int (2)] 0 0 L_X8_145 (c_X8_holdsTo (s := s) (t := t)  hst hG hL 2) (m0 (s := s) (t := t) (g := G.2.2.1) hL) rfl rfl rfl rfl dX8_ofClaim_27 rfl kx_no (fun h5 => ?_)
      refine v_ifB_ne C (t := 35) dX8_ofClaim_30 rfl rfl (fun h => absurd h (by decide)) (fun _ => ?_)
      refine v_iconst C (v := 0) dX8_ofClaim_33 rfl rfl ?_
      exact v_iret C (by decide) (by decide) dX8_ofClaim_34 ⟨congrArg (fun z => some (Value.int z)) (by first | rfl | (simp only [h2, h4, pM, pU, heldM_45, gvW_45, inW_45, livN_45, sum9_45, sum13_45, ofClaimE, ofClaimR, bI, pM, pU, n10, n20, n30, n0, if_true, if_false, ite_true, ite_false, not_true_eq_false, not_false_eq_true, and_true, true_and, and_false, false_and, or_true, true_or, or_false, false_or, reduceIte, and_self, or_self, ne_eq, eq_self_iff_true]; first | done | rfl) | (simp [bI, h2, h4, pM, pU, heldM_45, gvW_45, inW_45, livN_45, sum9_45, sum13_45, ofClaimE, ofClaimR]; done) | (simp only [pM, pU, heldM_45, gvW_45, inW_45, livN_45, sum9_45, sum13_45, ofClaimE, ofClaimR, bI, ← Int32.not_le] at *; simp [h2, h4]; done) | (simp_all [bI, h2, h4, pM, pU, heldM_45, gvW_45, inW_45, livN_45, sum9_45, sum13_45, ofClaimE, ofClaimR]; done) | (simp_all [bI, h2, h4, pM, pU, heldM_45, gvW_45, inW_45, livN_45, sum9_45, sum13_45, ofClaimE, ofClaimR]; rfl) | (exfalso; omega)), by first | rfl | (simp only [h2, h4, pM, pU, heldM_45, gvW_45, inW_45, livN_45, sum9_45, sum13_45, ofClaimE, ofClaimR, bI, pM, pU, n10, n20, n30, n0, if_true, if_false, ite_true, ite_false, not_true_eq_false, not_false_eq_true, and_true, true_and, and_false, false_and, or_true, true_or, or_false, false_or, reduceIte, and_self, or_self, ne_eq, eq_self_iff_true]; first | done | rfl) | (simp [bI, h2, h4, pM, pU, heldM_45, gvW_45, inW_45, livN_45, sum9_45, sum13_45, ofClaimE, ofClaimR]; done) | (simp only [pM, pU, heldM_45, gvW_45, inW_45, livN_45, sum9_45, sum13_45, ofClaimE, ofClaimR, bI, ← Int32.not_le] at *; simp [h2, h4]; done) | (simp_all [bI, h2, h4, pM, pU, heldM_45, gvW_45, inW_45, livN_45, sum9_45, sum13_45, ofClaimE, ofClaimR]; done) | (simp_all [bI, h2, h4, pM, pU, heldM_45, gvW_45, inW_45, livN_45, sum9_45, sum13_45, ofClaimE, ofClaimR]; rfl) | (exfalso; omega), by trivial⟩
    · skip
      refine v_iconst C (v := 0) dX8_ofClaim_22 rfl rfl ?_
      refine v_goto C (q := 27) dX8_ofClaim_23 rfl ?_
      refine w_invVr C [.int (0)] 0 0 L_X8_145 (c_X8_holdsTo (s := s) (t := t)  hst hG hL 0) (m0 (s := s) (t := t) (g := G.2.2.1) hL) rfl rfl rfl rfl dX8_ofClaim_27 rfl kx_no (fun h6 => ?_)
      refine v_ifB_ne C (t := 35) dX8_ofClaim_30 rfl rfl (fun _ => ?_) (fun h => absurd (by decide) h)
      refine v_iload_n C dX8_ofClaim_35 rfl 2 rfl ?_
      refine v_if_ne C (t := 48) dX8_ofClaim_36 rfl rfl (fun h7 => ?_) (fun h7 => ?_)
      · skip
        refine v_iload_n C dX8_ofClaim_48 rfl 2 rfl ?_
        refine v_iconst C (v := 1) dX8_ofClaim_49 rfl rfl ?_
        refine v_icmp_ne C (t := 62) dX8_ofClaim_50 rfl rfl (fun h8 => ?_) (fun h8 => ?_)
        · skip
          refine v_iload_n C dX8_ofClaim_62 rfl 2 rfl ?_
          refine v_iconst C (v := 2) dX8_ofClaim_63 rfl rfl ?_
          refine v_icmp_ne C (t := 76) dX8_ofClaim_64 rfl rfl (fun h9 => ?_) (fun h9 => ?_)
          · skip
            refine v_iload_n C dX8_ofClaim_76 rfl 2 rfl ?_
            refine v_iconst C (v := 3) dX8_ofClaim_77 rfl rfl ?_
            refine v_icmp_ne C (t := 98) dX8_ofClaim_78 rfl rfl (fun h10 => ?_) (fun h10 => ?_)
            · skip
              refine v_iload_n C dX8_ofClaim_98 rfl 2 rfl ?_
              refine v_iconst C (v := 4) dX8_ofClaim_99 rfl rfl ?_
              refine v_icmp_ne C (t := 112) dX8_ofClaim_100 rfl rfl (fun h11 => ?_) (fun h11 => ?_)
              · skip
                refine v_aload_n C dX8_ofClaim_112 rfl 0 rfl ?_
                refine v_get C (v := .ref (a 1 27)) g_X8_75 (m0 (s := s) (t := ((su t 45 0 0))) (g := G.2.2.1) hL) (rg (by decide) rfl) dX8_ofClaim_113 rfl ?_
                refine v_iload_n C dX8_ofClaim_116 rfl 1 rfl ?_
                refine v_iald C (len := 30) (m1 (s := s) (t := ((su t 45 0 0))) (g := G.2.2.1) hL 27 rfl) (vp_cnt (by assumption) hc hc30 (by decide)) dX8_ofClaim_117 rfl ?_
                refine xx_top (y := t 27 (tn x)) rfl ?_
                exact v_iret C (by decide) (by decide) dX8_ofClaim_118 ⟨congrArg (fun z => some (Value.int z)) (by first | rfl | (simp only [h2, h4, h7, h8, h9, h10, h11, pM, pU, heldM_45, gvW_45, inW_45, livN_45, sum9_45, sum13_45, ofClaimE, ofClaimR, bI, pM, pU, n10, n20, n30, n0, if_true, if_false, ite_true, ite_false, not_true_eq_false, not_false_eq_true, and_true, true_and, and_false, false_and, or_true, true_or, or_false, false_or, reduceIte, and_self, or_self, ne_eq, eq_self_iff_true]; first | done | rfl) | (simp [bI, h2, h4, h7, h8, h9, h10, h11, pM, pU, heldM_45, gvW_45, inW_45, livN_45, sum9_45, sum13_45, ofClaimE, ofClaimR]; done) | (simp only [pM, pU, heldM_45, gvW_45, inW_45, livN_45, sum9_45, sum13_45, ofClaimE, ofClaimR, bI, ← Int32.not_le] at *; simp [h2, h4, h7, h8, h9, h10, h11]; done) | (simp_all [bI, h2, h4, h7, h8, h9, h10, h11, pM, pU, heldM_45, gvW_45, inW_45, livN_45, sum9_45, sum13_45, ofClaimE, ofClaimR]; done) | (simp_all [bI, h2, h4, h7, h8, h9, h10, h11, pM, pU, heldM_45, gvW_45, inW_45, livN_45, sum9_45, sum13_45, ofClaimE, ofClaimR]; rfl) | (exfalso; omega)), by first | rfl | (simp only [h2, h4, h7, h8, h9, h10, h11, pM, pU, heldM_45, gvW_45, inW_45, livN_45, sum9_45, sum13_45, ofClaimE, ofClaimR, bI, pM, pU, n10, n20, n30, n0, if_true, if_false, ite_true, ite_false, not_true_eq_false, not_false_eq_true, and_true, true_and, and_false, false_and, or_true, true_or, or_false, false_or, reduceIte, and_self, or_self, ne_eq, eq_self_iff_true]; first | done | rfl) | (simp [bI, h2, h4, h7, h8, h9, h10, h11, pM, pU, heldM_45, gvW_45, inW_45, livN_45, sum9_45, sum13_45, ofClaimE, ofClaimR]; done) | (simp only [pM, pU, heldM_45, gvW_45, inW_45, livN_45, sum9_45, sum13_45, ofClaimE, ofClaimR, bI, ← Int32.not_le] at *; simp [h2, h4, h7, h8, h9, h10, h11]; done) | (simp_all [bI, h2, h4, h7, h8, h9, h10, h11, pM, pU, heldM_45, gvW_45, inW_45, livN_45, sum9_45, sum13_45, ofClaimE, ofClaimR]; done) | (simp_all [bI, h2, h4, h7, h8, h9, h10, h11, pM, pU, heldM_45, gvW_45, inW_45, livN_45, sum9_45, sum13_45, ofClaimE, ofClaimR]; rfl) | (exfalso; omega), by trivial⟩
              · skip
                refine v_aload_n C dX8_ofClaim_103 rfl 0 rfl ?_
                refine v_get C (v := .ref (a 1 26)) g_X8_72 (m0 (s := s) (t := ((su t 45 0 0))) (g := G.2.2.1) hL) (rg (by decide) rfl) dX8_ofClaim_104 rfl ?_
                refine v_iload_n C dX8_ofClaim_107 rfl 1 rfl ?_
                refine v_iald C (len := 30) (m1 (s := s) (t := ((su t 45 0 0))) (g := G.2.2.1) hL 26 rfl) (vp_cnt (by assumption) hc hc30 (by decide)) dX8_ofClaim_108 rfl ?_
                refine xx_top (y := t 26 (tn x)) rfl ?_
                refine v_goto C (q := 118) dX8_ofClaim_109 rfl ?_
                exact v_iret C (by decide) (by decide) dX8_ofClaim_118 ⟨congrArg (fun z => some (Value.int z)) (by first | rfl | (simp only [h2, h4, h7, h8, h9, h10, eq_true h11, pM, pU, heldM_45, gvW_45, inW_45, livN_45, sum9_45, sum13_45, ofClaimE, ofClaimR, bI, pM, pU, n10, n20, n30, n0, if_true, if_false, ite_true, ite_false, not_true_eq_false, not_false_eq_true, and_true, true_and, and_false, false_and, or_true, true_or, or_false, false_or, reduceIte, and_self, or_self, ne_eq, eq_self_iff_true]; first | done | rfl) | (simp [bI, h2, h4, h7, h8, h9, h10, eq_true h11, pM, pU, heldM_45, gvW_45, inW_45, livN_45, sum9_45, sum13_45, ofClaimE, ofClaimR]; done) | (simp only [pM, pU, heldM_45, gvW_45, inW_45, livN_45, sum9_45, sum13_45, ofClaimE, ofClaimR, bI, ← Int32.not_le] at *; simp [h2, h4, h7, h8, h9, h10, eq_true h11]; done) | (simp_all [bI, h2, h4, h7, h8, h9, h10, eq_true h11, pM, pU, heldM_45, gvW_45, inW_45, livN_45, sum9_45, sum13_45, ofClaimE, ofClaimR]; done) | (simp_all [bI, h2, h4, h7, h8, h9, h10, eq_true h11, pM, pU, heldM_45, gvW_45, inW_45, livN_45, sum9_45, sum13_45, ofClaimE, ofClaimR]; rfl) | (exfalso; omega)), by first | rfl | (simp only [h2, h4, h7, h8, h9, h10, eq_true h11, pM, pU, heldM_45, gvW_45, inW_45, livN_45, sum9_45, sum13_45, ofClaimE, ofClaimR, bI, pM, pU, n10, n20, n30, n0, if_true, if_false, ite_true, ite_false, not_true_eq_false, not_false_eq_true, and_true, true_and, and_false, false_and, or_true, true_or, or_false, false_or, reduceIte, and_self, or_self, ne_eq, eq_self_iff_true]; first | done | rfl) | (simp [bI, h2, h4, h7, h8, h9, h10, eq_true h11, pM, pU, heldM_45, gvW_45, inW_45, livN_45, sum9_45, sum13_45, ofClaimE, ofClaimR]; done) | (simp only [pM, pU, heldM_45, gvW_45, inW_45, livN_45, sum9_45, sum13_45, ofClaimE, ofClaimR, bI, ← Int32.not_le] at *; simp [h2, h4, h7, h8, h9, h10, eq_true h11]; done) | (simp_all [bI, h2, h4, h7, h8, h9, h10, eq_true h11, pM, pU, heldM_45, gvW_45, inW_45, livN_45, sum9_45, sum13_45, ofClaimE, ofClaimR]; done) | (simp_all [bI, h2, h4, h7, h8, h9, h10, eq_true h11, pM, pU, heldM_45, gvW_45, inW_45, livN_45, sum9_45, sum13_45, ofClaimE, ofClaimR]; rfl) | (exfalso; omega), by trivial⟩
            · skip
              refine v_aload_n C dX8_ofClaim_81 rfl 0 rfl ?_
              refine v_get C (v := .ref (a 1 25)) g_X8_68 (m0 (s := s) (t := ((su t 45 0 0))) (g := G.2.2.1) hL) (rg (by decide) rfl) dX8_ofClaim_82 rfl ?_
              refine v_iload_n C dX8_ofClaim_85 rfl 1 rfl ?_
              refine v_zald C (len := 30) (m1 (s := s) (t := ((su t 45 0 0))) (g := G.2.2.1) hL 25 rfl) (vp_cnt (by assumption) hc hc30 (by decide)) dX8_ofClaim_86 rfl ?_
              refine xx_top (y := t 25 (tn x)) rfl ?_
              refine v_if_eq C (t := 94) dX8_ofClaim_87 rfl rfl (fun h12 => ?_) (fun h12 => ?_)
              · skip
                refine v_iconst C (v := 0) dX8_ofClaim_94 rfl rfl ?_
                refine v_goto C (q := 118) dX8_ofClaim_95 rfl ?_
                exact v_iret C (by decide) (by decide) dX8_ofClaim_118 ⟨congrArg (fun z => some (Value.int z)) (by first | rfl | (simp only [h2, h4, h7, h8, h9, eq_true h10, eq_true h12, pM, pU, heldM_45, gvW_45, inW_45, livN_45, sum9_45, sum13_45, ofClaimE, ofClaimR, bI, pM, pU, n10, n20, n30, n0, if_true, if_false, ite_true, ite_false, not_true_eq_false, not_false_eq_true, and_true, true_and, and_false, false_and, or_true, true_or, or_false, false_or, reduceIte, and_self, or_self, ne_eq, eq_self_iff_true]; first | done | rfl) | (simp [bI, h2, h4, h7, h8, h9, eq_true h10, eq_true h12, pM, pU, heldM_45, gvW_45, inW_45, livN_45, sum9_45, sum13_45, ofClaimE, ofClaimR]; done) | (simp only [pM, pU, heldM_45, gvW_45, inW_45, livN_45, sum9_45, sum13_45, ofClaimE, ofClaimR, bI, ← Int32.not_le] at *; simp [h2, h4, h7, h8, h9, eq_true h10, eq_true h12]; done) | (simp_all [bI, h2, h4, h7, h8, h9, eq_true h10, eq_true h12, pM, pU, heldM_45, gvW_45, inW_45, livN_45, sum9_45, sum13_45, ofClaimE, ofClaimR]; done) | (simp_all [bI, h2, h4, h7, h8, h9, eq_true h10, eq_true h12, pM, pU, heldM_45, gvW_45, inW_45, livN_45, sum9_45, sum13_45, ofClaimE, ofClaimR]; rfl) | (exfalso; omega)), by first | rfl | (simp only [h2, h4, h7, h8, h9, eq_true h10, eq_true h12, pM, pU, heldM_45, gvW_45, inW_45, livN_45, sum9_45, sum13_45, ofClaimE, ofClaimR, bI, pM, pU, n10, n20, n30, n0, if_true, if_false, ite_true, ite_false, not_true_eq_false, not_false_eq_true, and_true, true_and, and_false, false_and, or_true, true_or, or_false, false_or, reduceIte, and_self, or_self, ne_eq, eq_self_iff_true]; first | done | rfl) | (simp [bI, h2, h4, h7, h8, h9, eq_true h10, eq_true h12, pM, pU, heldM_45, gvW_45, inW_45, livN_45, sum9_45, sum13_45, ofClaimE, ofClaimR]; done) | (simp only [pM, pU, heldM_45, gvW_45, inW_45, livN_45, sum9_45, sum13_45, ofClaimE, ofClaimR, bI, ← Int32.not_le] at *; simp [h2, h4, h7, h8, h9, eq_true h10, eq_true h12]; done) | (simp_all [bI, h2, h4, h7, h8, h9, eq_true h10, eq_true h12, pM, pU, heldM_45, gvW_45, inW_45, livN_45, sum9_45, sum13_45, ofClaimE, ofClaimR]; done) | (simp_all [bI, h2, h4, h7, h8, h9, eq_true h10, eq_true h12, pM, pU, heldM_45, gvW_45, inW_45, livN_45, sum9_45, sum13_45, ofClaimE, ofClaimR]; rfl) | (exfalso; omega), by trivial⟩
              · skip
                refine v_iconst C (v := 1) dX8_ofClaim_90 rfl rfl ?_
                refine v_goto C (q := 118) dX8_ofClaim_91 rfl ?_
                exact v_iret C (by decide) (by decide) dX8_ofClaim_118 ⟨congrArg (fun z => some (Value.int z)) (by first | rfl | (simp only [h2, h4, h7, h8, h9, eq_true h10, h12, pM, pU, heldM_45, gvW_45, inW_45, livN_45, sum9_45, sum13_45, ofClaimE, ofClaimR, bI, pM, pU, n10, n20, n30, n0, if_true, if_false, ite_true, ite_false, not_true_eq_false, not_false_eq_true, and_true, true_and, and_false, false_and, or_true, true_or, or_false, false_or, reduceIte, and_self, or_self, ne_eq, eq_self_iff_true]; first | done | rfl) | (simp [bI, h2, h4, h7, h8, h9, eq_true h10, h12, pM, pU, heldM_45, gvW_45, inW_45, livN_45, sum9_45, sum13_45, ofClaimE, ofClaimR]; done) | (simp only [pM, pU, heldM_45, gvW_45, inW_45, livN_45, sum9_45, sum13_45, ofClaimE, ofClaimR, bI, ← Int32.not_le] at *; simp [h2, h4, h7, h8, h9, eq_true h10, h12]; done) | (simp_all [bI, h2, h4, h7, h8, h9, eq_true h10, h12, pM, pU, heldM_45, gvW_45, inW_45, livN_45, sum9_45, sum13_45, ofClaimE, ofClaimR]; done) | (simp_all [bI, h2, h4, h7, h8, h9, eq_true h10, h12, pM, pU, heldM_45, gvW_45, inW_45, livN_45, sum9_45, sum13_45, ofClaimE, ofClaimR]; rfl) | (exfalso; omega)), by first | rfl | (simp only [h2, h4, h7, h8, h9, eq_true h10, h12, pM, pU, heldM_45, gvW_45, inW_45, livN_45, sum9_45, sum13_45, ofClaimE, ofClaimR, bI, pM, pU, n10, n20, n30, n0, if_true, if_false, ite_true, ite_false, not_true_eq_false, not_false_eq_true, and_true, true_and, and_false, false_and, or_true, true_or, or_false, false_or, reduceIte, and_self, or_self, ne_eq, eq_self_iff_true]; first | done | rfl) | (simp [bI, h2, h4, h7, h8, h9, eq_true h10, h12, pM, pU, heldM_45, gvW_45, inW_45, livN_45, sum9_45, sum13_45, ofClaimE, ofClaimR]; done) | (simp only [pM, pU, heldM_45, gvW_45, inW_45, livN_45, sum9_45, sum13_45, ofClaimE, ofClaimR, bI, ← Int32.not_le] at *; simp [h2, h4, h7, h8, h9, eq_true h10, h12]; done) | (simp_all [bI, h2, h4, h7, h8, h9, eq_true h10, h12, pM, pU, heldM_45, gvW_45, inW_45, livN_45, sum9_45, sum13_45, ofClaimE, ofClaimR]; done) | (simp_all [bI, h2, h4, h7, h8, h9, eq_true h10, h12, pM, pU, heldM_45, gvW_45, inW_45, livN_45, sum9_45, sum13_45, ofClaimE, ofClaimR]; rfl) | (exfalso; omega), by trivial⟩
          · skip
            refine v_aload_n C dX8_ofClaim_67 rfl 0 rfl ?_
            refine v_get C (v := .ref (a 1 24)) g_X8_65 (m0 (s := s) (t := ((su t 45 0 0))) (g := G.2.2.1) hL) (rg (by decide) rfl) dX8_ofClaim_68 rfl ?_
            refine v_iload_n C dX8_ofClaim_71 rfl 1 rfl ?_
            refine v_iald C (len := 30) (m1 (s := s) (t := ((su t 45 0 0))) (g := G.2.2.1) hL 24 rfl) (vp_cnt (by assumption) hc hc30 (by decide)) dX8_ofClaim_72 rfl ?_
            refine xx_top (y := t 24 (tn x)) rfl ?_
            refine v_goto C (q := 118) dX8_ofClaim_73 rfl ?_
            exact v_iret C (by decide) (by decide) dX8_ofClaim_118 ⟨congrArg (fun z => some (Value.int z)) (by first | rfl | (simp only [h2, h4, h7, h8, eq_true h9, pM, pU, heldM_45, gvW_45, inW_45, livN_45, sum9_45, sum13_45, ofClaimE, ofClaimR, bI, pM, pU, n10, n20, n30, n0, if_true, if_false, ite_true, ite_false, not_true_eq_false, not_false_eq_true, and_true, true_and, and_false, false_and, or_true, true_or, or_false, false_or, reduceIte, and_self, or_self, ne_eq, eq_self_iff_true]; first | done | rfl) | (simp [bI, h2, h4, h7, h8, eq_true h9, pM, pU, heldM_45, gvW_45, inW_45, livN_45, sum9_45, sum13_45, ofClaimE, ofClaimR]; done) | (simp only [pM, pU, heldM_45, gvW_45, inW_45, livN_45, sum9_45, sum13_45, ofClaimE, ofClaimR, bI, ← Int32.not_le] at *; simp [h2, h4, h7, h8, eq_true h9]; done) | (simp_all [bI, h2, h4, h7, h8, eq_true h9, pM, pU, heldM_45, gvW_45, inW_45, livN_45, sum9_45, sum13_45, ofClaimE, ofClaimR]; done) | (simp_all [bI, h2, h4, h7, h8, eq_true h9, pM, pU, heldM_45, gvW_45, inW_45, livN_45, sum9_45, sum13_45, ofClaimE, ofClaimR]; rfl) | (exfalso; omega)), by first | rfl | (simp only [h2, h4, h7, h8, eq_true h9, pM, pU, heldM_45, gvW_45, inW_45, livN_45, sum9_45, sum13_45, ofClaimE, ofClaimR, bI, pM, pU, n10, n20, n30, n0, if_true, if_false, ite_true, ite_false, not_true_eq_false, not_false_eq_true, and_true, true_and, and_false, false_and, or_true, true_or, or_false, false_or, reduceIte, and_self, or_self, ne_eq, eq_self_iff_true]; first | done | rfl) | (simp [bI, h2, h4, h7, h8, eq_true h9, pM, pU, heldM_45, gvW_45, inW_45, livN_45, sum9_45, sum13_45, ofClaimE, ofClaimR]; done) | (simp only [pM, pU, heldM_45, gvW_45, inW_45, livN_45, sum9_45, sum13_45, ofClaimE, ofClaimR, bI, ← Int32.not_le] at *; simp [h2, h4, h7, h8, eq_true h9]; done) | (simp_all [bI, h2, h4, h7, h8, eq_true h9, pM, pU, heldM_45, gvW_45, inW_45, livN_45, sum9_45, sum13_45, ofClaimE, ofClaimR]; done) | (simp_all [bI, h2, h4, h7, h8, eq_true h9, pM, pU, heldM_45, gvW_45, inW_45, livN_45, sum9_45, sum13_45, ofClaimE, ofClaimR]; rfl) | (exfalso; omega), by trivial⟩
        · skip
          refine v_aload_n C dX8_ofClaim_53 rfl 0 rfl ?_
          refine v_get C (v := .ref (a 1 23)) g_X8_62 (m0 (s := s) (t := ((su t 45 0 0))) (g := G.2.2.1) hL) (rg (by decide) rfl) dX8_ofClaim_54 rfl ?_
          refine v_iload_n C dX8_ofClaim_57 rfl 1 rfl ?_
          refine v_iald C (len := 30) (m1 (s := s) (t := ((su t 45 0 0))) (g := G.2.2.1) hL 23 rfl) (vp_cnt (by assumption) hc hc30 (by decide)) dX8_ofClaim_58 rfl ?_
          refine xx_top (y := t 23 (tn x)) rfl ?_
          refine v_goto C (q := 118) dX8_ofClaim_59 rfl ?_
          exact v_iret C (by decide) (by decide) dX8_ofClaim_118 ⟨congrArg (fun z => some (Value.int z)) (by first | rfl | (simp only [h2, h4, h7, eq_true h8, pM, pU, heldM_45, gvW_45, inW_45, livN_45, sum9_45, sum13_45, ofClaimE, ofClaimR, bI, pM, pU, n10, n20, n30, n0, if_true, if_false, ite_true, ite_false, not_true_eq_false, not_false_eq_true, and_true, true_and, and_false, false_and, or_true, true_or, or_false, false_or, reduceIte, and_self, or_self, ne_eq, eq_self_iff_true]; first | done | rfl) | (simp [bI, h2, h4, h7, eq_true h8, pM, pU, heldM_45, gvW_45, inW_45, livN_45, sum9_45, sum13_45, ofClaimE, ofClaimR]; done) | (simp only [pM, pU, heldM_45, gvW_45, inW_45, livN_45, sum9_45, sum13_45, ofClaimE, ofClaimR, bI, ← Int32.not_le] at *; simp [h2, h4, h7, eq_true h8]; done) | (simp_all [bI, h2, h4, h7, eq_true h8, pM, pU, heldM_45, gvW_45, inW_45, livN_45, sum9_45, sum13_45, ofClaimE, ofClaimR]; done) | (simp_all [bI, h2, h4, h7, eq_true h8, pM, pU, heldM_45, gvW_45, inW_45, livN_45, sum9_45, sum13_45, ofClaimE, ofClaimR]; rfl) | (exfalso; omega)), by first | rfl | (simp only [h2, h4, h7, eq_true h8, pM, pU, heldM_45, gvW_45, inW_45, livN_45, sum9_45, sum13_45, ofClaimE, ofClaimR, bI, pM, pU, n10, n20, n30, n0, if_true, if_false, ite_true, ite_false, not_true_eq_false, not_false_eq_true, and_true, true_and, and_false, false_and, or_true, true_or, or_false, false_or, reduceIte, and_self, or_self, ne_eq, eq_self_iff_true]; first | done | rfl) | (simp [bI, h2, h4, h7, eq_true h8, pM, pU, heldM_45, gvW_45, inW_45, livN_45, sum9_45, sum13_45, ofClaimE, ofClaimR]; done) | (simp only [pM, pU, heldM_45, gvW_45, inW_45, livN_45, sum9_45, sum13_45, ofClaimE, ofClaimR, bI, ← Int32.not_le] at *; simp [h2, h4, h7, eq_true h8]; done) | (simp_all [bI, h2, h4, h7, eq_true h8, pM, pU, heldM_45, gvW_45, inW_45, livN_45, sum9_45, sum13_45, ofClaimE, ofClaimR]; done) | (simp_all [bI, h2, h4, h7, eq_true h8, pM, pU, heldM_45, gvW_45, inW_45, livN_45, sum9_45, sum13_45, ofClaimE, ofClaimR]; rfl) | (exfalso; omega), by trivial⟩
      · skip
        refine v_aload_n C dX8_ofClaim_39 rfl 0 rfl ?_
        refine v_get C (v := .ref (a 1 22)) g_X8_59 (m0 (s := s) (t := ((su t 45 0 0))) (g := G.2.2.1) hL) (rg (by decide) rfl) dX8_ofClaim_40 rfl ?_
        refine v_iload_n C dX8_ofClaim_43 rfl 1 rfl ?_
        refine v_iald C (len := 30) (m1 (s := s) (t := ((su t 45 0 0))) (g := G.2.2.1) hL 22 rfl) (vp_cnt (by assumption) hc hc30 (by decide)) dX8_ofClaim_44 rfl ?_
        refine xx_top (y := t 22 (tn x)) rfl ?_
        refine v_goto C (q := 118) dX8_ofClaim_45 rfl ?_
        exact v_iret C (by decide) (by decide) dX8_ofClaim_118 ⟨congrArg (fun z => some (Value.int z)) (by first | rfl | (simp only [h2, h4, eq_true h7, pM, pU, heldM_45, gvW_45, inW_45, livN_45, sum9_45, sum13_45, ofClaimE, ofClaimR, bI, pM, pU, n10, n20, n30, n0, if_true, if_false, ite_true, ite_false, not_true_eq_false, not_false_eq_true, and_true, true_and, and_false, false_and, or_true, true_or, or_false, false_or, reduceIte, and_self, or_self, ne_eq, eq_self_iff_true]; first | done | rfl) | (simp [bI, h2, h4, eq_true h7, pM, pU, heldM_45, gvW_45, inW_45, livN_45, sum9_45, sum13_45, ofClaimE, ofClaimR]; done) | (simp only [pM, pU, heldM_45, gvW_45, inW_45, livN_45, sum9_45, sum13_45, ofClaimE, ofClaimR, bI, ← Int32.not_le] at *; simp [h2, h4, eq_true h7]; done) | (simp_all [bI, h2, h4, eq_true h7, pM, pU, heldM_45, gvW_45, inW_45, livN_45, sum9_45, sum13_45, ofClaimE, ofClaimR]; done) | (simp_all [bI, h2, h4, eq_true h7, pM, pU, heldM_45, gvW_45, inW_45, livN_45, sum9_45, sum13_45, ofClaimE, ofClaimR]; rfl) | (exfalso; omega)), by first | rfl | (simp only [h2, h4, eq_true h7, pM, pU, heldM_45, gvW_45, inW_45, livN_45, sum9_45, sum13_45, ofClaimE, ofClaimR, bI, pM, pU, n10, n20, n30, n0, if_true, if_false, ite_true, ite_false, not_true_eq_false, not_false_eq_true, and_true, true_and, and_false, false_and, or_true, true_or, or_false, false_or, reduceIte, and_self, or_self, ne_eq, eq_self_iff_true]; first | done | rfl) | (simp [bI, h2, h4, eq_true h7, pM, pU, heldM_45, gvW_45, inW_45, livN_45, sum9_45, sum13_45, ofClaimE, ofClaimR]; done) | (simp only [pM, pU, heldM_45, gvW_45, inW_45, livN_45, sum9_45, sum13_45, ofClaimE, ofClaimR, bI, ← Int32.not_le] at *; simp [h2, h4, eq_true h7]; done) | (simp_all [bI, h2, h4, eq_true h7, pM, pU, heldM_45, gvW_45, inW_45, livN_45, sum9_45, sum13_45, ofClaimE, ofClaimR]; done) | (simp_all [bI, h2, h4, eq_true h7, pM, pU, heldM_45, gvW_45, inW_45, livN_45, sum9_45, sum13_45, ofClaimE, ofClaimR]; rfl) | (exfalso; omega), by trivial⟩
  · skip
    refine v_iconst C (v := 1) dX8_ofClaim_9 rfl rfl ?_
    refine v_goto C (q := 27) dX8_ofClaim_10 rfl ?_
    refine w_invVr C [.int (1)] 0 0 L_X8_145 (c_X8_holdsTo (s := s) (t := t)  hst hG hL 1) (m0 (s := s) (t := t) (g := G.2.2.1) hL) rfl rfl rfl rfl dX8_ofClaim_27 rfl kx_no (fun h13 => ?_)
    refine v_ifB_ne C (t := 35) dX8_ofClaim_30 rfl rfl (fun h => absurd h (by decide)) (fun _ => ?_)
    refine v_iconst C (v := 0) dX8_ofClaim_33 rfl rfl ?_
    exact v_iret C (by decide) (by decide) dX8_ofClaim_34 ⟨congrArg (fun z => some (Value.int z)) (by first | rfl | (simp only [h2, pM, pU, heldM_45, gvW_45, inW_45, livN_45, sum9_45, sum13_45, ofClaimE, ofClaimR, bI, pM, pU, n10, n20, n30, n0, if_true, if_false, ite_true, ite_false, not_true_eq_false, not_false_eq_true, and_true, true_and, and_false, false_and, or_true, true_or, or_false, false_or, reduceIte, and_self, or_self, ne_eq, eq_self_iff_true]; first | done | rfl) | (simp [bI, h2, pM, pU, heldM_45, gvW_45, inW_45, livN_45, sum9_45, sum13_45, ofClaimE, ofClaimR]; done) | (simp only [pM, pU, heldM_45, gvW_45, inW_45, livN_45, sum9_45, sum13_45, ofClaimE, ofClaimR, bI, ← Int32.not_le] at *; simp [h2]; done) | (simp_all [bI, h2, pM, pU, heldM_45, gvW_45, inW_45, livN_45, sum9_45, sum13_45, ofClaimE, ofClaimR]; done) | (simp_all [bI, h2, pM, pU, heldM_45, gvW_45, inW_45, livN_45, sum9_45, sum13_45, ofClaimE, ofClaimR]; rfl) | (exfalso; omega)), by first | rfl | (simp only [h2, pM, pU, heldM_45, gvW_45, inW_45, livN_45, sum9_45, sum13_45, ofClaimE, ofClaimR, bI, pM, pU, n10, n20, n30, n0, if_true, if_false, ite_true, ite_false, not_true_eq_false, not_false_eq_true, and_true, true_and, and_false, false_and, or_true, true_or, or_false, false_or, reduceIte, and_self, or_self, ne_eq, eq_self_iff_true]; first | done | rfl) | (simp [bI, h2, pM, pU, heldM_45, gvW_45, inW_45, livN_45, sum9_45, sum13_45, ofClaimE, ofClaimR]; done) | (simp only [pM, pU, heldM_45, gvW_45, inW_45, livN_45, sum9_45, sum13_45, ofClaimE, ofClaimR, bI, ← Int32.not_le] at *; simp [h2]; done) | (simp_all [bI, h2, pM, pU, heldM_45, gvW_45, inW_45, livN_45, sum9_45, sum13_45, ofClaimE, ofClaimR]; done) | (simp_all [bI, h2, pM, pU, heldM_45, gvW_45, inW_45, livN_45, sum9_45, sum13_45, ofClaimE, ofClaimR]; rfl) | (exfalso; omega), by trivial⟩

abbrev r_X8_back : Room := { frames := 2, cells := 0, slots := 0, locals := 43 }
set_option maxRecDepth 4000 in
theorem c_X8_back {l : Launch} {G : GG} {a : AD} {s t s0 : SS} {L : List (Nat × Nat)} {nm : Nat} (hst : l.stackTraces = false) (hG : GOK G) (hL : Live L s0) (x : Int32) (y : Int32) (p : Int32) (m : Int32) (hm : t 12 0 = nI nm) (hm12 : nm ≤ 12) : Mth l yX8_back cX8_back 8 (Option.none : Option Jvm.ClassFile.FieldType) r_X8_back G (wl a (E G.2.2.1 a s t) L) [.ref (a 0 0), .int x, .int y, .int p, .int m] (RV (wl a (E G.2.2.1 a s (pU (backE t nm x y p m) (backU (su t 45 0 0) nm x y p m) t)) L) (True)) nX := by
  refine mth_of rfl (Nat.le_of_ble_eq_true rfl) hst hG (fun X hX C0 => ?_)
  subst hX
  have C : Cx X G cX8_back 8 RX8 (Option.none : Option Jvm.ClassFile.FieldType) r_X8_back "back" [] := C0
  clear C0
  show V X G 8 _ 0 0 _ 0 [(0, .ref (a 0 0)), (1, .int (x)), (2, .int (y)), (3, .int (p)), (4, .int (m))] []
  refine v_aload_n C dX8_back_0 rfl 0 rfl ?_
  refine v_iload_n C dX8_back_1 rfl 1 rfl ?_
  refine w_invVr C [.int (x)] 0 0 L_X8_176 (c_X8_isMiner (s := s) (t := t)  hst hG hL x) (m0 (s := s) (t := t) (g := G.2.2.1) hL) rfl rfl rfl rfl dX8_back_2 rfl kx_no (fun h1 => ?_)
  refine v_ifB_eq C (t := 20) dX8_back_5 rfl rfl (fun h2 => ?_) (fun h2 => ?_)
  · skip
    refine v_iconst C (v := 0) dX8_back_20 rfl rfl ?_
    refine v_istore C (lv1 := [(5, .int (0)), (0, .ref (a 0 0)), (1, .int (x)), (2, .int (y)), (3, .int (p)), (4, .int (m))]) dX8_back_21 rfl (by decide) rfl ?_
    refine v_iload C dX8_back_23 rfl 0 rfl ?_
    refine v_if_eq C (t := 58) dX8_back_25 rfl rfl (fun _ => ?_) (fun h => absurd h (by decide))
    refine v_iconst C (v := 0) dX8_back_58 rfl rfl ?_
    refine v_istore C (lv1 := [(6, .int (0)), (5, .int (0)), (0, .ref (a 0 0)), (1, .int (x)), (2, .int (y)), (3, .int (p)), (4, .int (m))]) dX8_back_59 rfl (by decide) rfl ?_
    refine v_iload C dX8_back_61 rfl 0 rfl ?_
    refine v_if_eq C (t := 123) dX8_back_63 rfl rfl (fun _ => ?_) (fun h => absurd h (by decide))
    refine v_iconst C (v := 0) dX8_back_123 rfl rfl ?_
    refine v_istore C (lv1 := [(7, .int (0)), (6, .int (0)), (5, .int (0)), (0, .ref (a 0 0)), (1, .int (x)), (2, .int (y)), (3, .int (p)), (4, .int (m))]) dX8_back_124 rfl (by decide) rfl ?_
    refine v_aload_n C dX8_back_126 rfl 3 rfl ?_
    refine v_iload C dX8_back_127 rfl 2 rfl ?_
    refine v_if_ne C (t := 136) dX8_back_129 rfl rfl (fun h => absurd h (by decide)) (fun _ => ?_)
    refine v_iconst C (v := 1) dX8_back_132 rfl rfl ?_
    refine v_goto C (q := 155) dX8_back_133 rfl ?_
    refine w_invVr C [.int (1)] 0 0 L_X8_145 (c_X8_holdsTo (s := s) (t := t)  hst hG hL 1) (m0 (s := s) (t := t) (g := G.2.2.1) hL) rfl rfl rfl rfl dX8_back_155 rfl kx_no (fun h3 => ?_)
    refine v_ifB_eq C (t := 195) dX8_back_158 rfl rfl (fun _ => ?_) (fun h => absurd h (by decide))
    exact v_vret C (by decide) (by decide) dX8_back_195 ⟨rfl, by first | rfl | (simp only [h2, pM, pU, heldM_45, gvW_45, inW_45, livN_45, sum9_45, sum13_45, backE, backU, bI, pM, pU, n10, n20, n30, n0, if_true, if_false, ite_true, ite_false, not_true_eq_false, not_false_eq_true, and_true, true_and, and_false, false_and, or_true, true_or, or_false, false_or, reduceIte, and_self, or_self, ne_eq, eq_self_iff_true]; first | done | rfl) | (simp [bI, h2, pM, pU, heldM_45, gvW_45, inW_45, livN_45, sum9_45, sum13_45, backE, backU]; done) | (simp only [pM, pU, heldM_45, gvW_45, inW_45, livN_45, sum9_45, sum13_45, backE, backU, bI, ← Int32.not_le] at *; simp [h2]; done) | (simp_all [bI, h2, pM, pU, heldM_45, gvW_45, inW_45, livN_45, sum9_45, sum13_45, backE, backU]; done) | (simp_all [bI, h2, pM, pU, heldM_45, gvW_45, inW_45, livN_45, sum9_45, sum13_45, backE, backU]; rfl) | (exfalso; omega), by trivial⟩
  · skip
    refine v_aload_n C dX8_back_8 rfl 0 rfl ?_
    refine v_iload_n C dX8_back_9 rfl 2 rfl ?_
    refine w_invVr C [.int (y)] 0 0 L_X8_176 (c_X8_isMiner (s := s) (t := t)  hst hG hL y) (m0 (s := s) (t := t) (g := G.2.2.1) hL) rfl rfl rfl rfl dX8_back_10 rfl kx_no (fun h4 => ?_)
    refine v_ifB_eq C (t := 20) dX8_back_13 rfl rfl (fun h5 => ?_) (fun h5 => ?_)
    · skip
      refine v_iconst C (v := 0) dX8_back_20 rfl rfl ?_
      refine v_istore C (lv1 := [(5, .int (0)), (0, .ref (a 0 0)), (1, .int (x)), (2, .int (y)), (3, .int (p)), (4, .int (m))]) dX8_back_21 rfl (by decide) rfl ?_
      refine v_iload C dX8_back_23 rfl 0 rfl ?_
      refine v_if_eq C (t := 58) dX8_back_25 rfl rfl (fun _ => ?_) (fun h => absurd h (by decide))
      refine v_iconst C (v := 0) dX8_back_58 rfl rfl ?_
      refine v_istore C (lv1 := [(6, .int (0)), (5, .int (0)), (0, .ref (a 0 0)), (1, .int (x)), (2, .int (y)), (3, .int (p)), (4, .int (m))]) dX8_back_59 rfl (by decide) rfl ?_
      refine v_iload C dX8_back_61 rfl 0 rfl ?_
      refine v_if_eq C (t := 123) dX8_back_63 rfl rfl (fun _ => ?_) (fun h => absurd h (by decide))
      refine v_iconst C (v := 0) dX8_back_123 rfl rfl ?_
      refine v_istore C (lv1 := [(7, .int (0)), (6, .int (0)), (5, .int (0)), (0, .ref (a 0 0)), (1, .int (x)), (2, .int (y)), (3, .int (p)), (4, .int (m))]) dX8_back_124 rfl (by decide) rfl ?_
      refine v_aload_n C dX8_back_126 rfl 3 rfl ?_
      refine v_iload C dX8_back_127 rfl 2 rfl ?_
      refine v_if_ne C (t := 136) dX8_back_129 rfl rfl (fun h => absurd h (by decide)) (fun _ => ?_)
      refine v_iconst C (v := 1) dX8_back_132 rfl rfl ?_
      refine v_goto C (q := 155) dX8_back_133 rfl ?_
      refine w_invVr C [.int (1)] 0 0 L_X8_145 (c_X8_holdsTo (s := s) (t := t)  hst hG hL 1) (m0 (s := s) (t := t) (g := G.2.2.1) hL) rfl rfl rfl rfl dX8_back_155 rfl kx_no (fun h6 => ?_)
      refine v_ifB_eq C (t := 195) dX8_back_158 rfl rfl (fun _ => ?_) (fun h => absurd h (by decide))
      exact v_vret C (by decide) (by decide) dX8_back_195 ⟨rfl, by first | rfl | (simp only [h2, h5, pM, pU, heldM_45, gvW_45, inW_45, livN_45, sum9_45, sum13_45, backE, backU, bI, pM, pU, n10, n20, n30, n0, if_true, if_false, ite_true, ite_false, not_true_eq_false, not_false_eq_true, and_true, true_and, and_false, false_and, or_true, true_or, or_false, false_or, reduceIte, and_self, or_self, ne_eq, eq_self_iff_true]; first | done | rfl) | (simp [bI, h2, h5, pM, pU, heldM_45, gvW_45, inW_45, livN_45, sum9_45, sum13_45, backE, backU]; done) | (simp only [pM, pU, heldM_45, gvW_45, inW_45, livN_45, sum9_45, sum13_45, backE, backU, bI, ← Int32.not_le] at *; simp [h2, h5]; done) | (simp_all [bI, h2, h5, pM, pU, heldM_45, gvW_45, inW_45, livN_45, sum9_45, sum13_45, backE, backU]; done) | (simp_all [bI, h2, h5, pM, pU, heldM_45, gvW_45, inW_45, livN_45, sum9_45, sum13_45, backE, backU]; rfl) | (exfalso; omega), by trivial⟩
    · skip
      refine v_iconst C (v := 1) dX8_back_16 rfl rfl ?_
      refine v_goto C (q := 21) dX8_back_17 rfl ?_
      refine v_istore C (lv1 := [(5, .int (1)), (0, .ref (a 0 0)), (1, .int (x)), (2, .int (y)), (3, .int (p)), (4, .int (m))]) dX8_back_21 rfl (by decide) rfl ?_
      refine v_iload C dX8_back_23 rfl 0 rfl ?_
      refine v_if_eq C (t := 58) dX8_back_25 rfl rfl (fun h => absurd h (by decide)) (fun _ => ?_)
      refine v_iload_n C dX8_back_28 rfl 4 rfl ?_
      refine v_iconst C (v := 1) dX8_back_29 rfl rfl ?_
      refine v_bipush C (v := 100) dX8_back_30 rfl rfl ?_
      refine w_invSr C [.int (p), .int (1), .int (100)] 0 0 L_X8_123 (c_X8_isIn (s := s) (t := t)  hst hG hL p 1 100) rfl rfl rfl dX8_back_32 rfl kx_no (fun h7 => ?_)
      refine v_ifB_eq C (t := 58) dX8_back_35 rfl rfl (fun h8 => ?_) (fun h8 => ?_)
      · skip
        refine v_iconst C (v := 0) dX8_back_58 rfl rfl ?_
        refine v_istore C (lv1 := [(6, .int (0)), (5, .int (1)), (0, .ref (a 0 0)), (1, .int (x)), (2, .int (y)), (3, .int (p)), (4, .int (m))]) dX8_back_59 rfl (by decide) rfl ?_
        refine v_iload C dX8_back_61 rfl 0 rfl ?_
        refine v_if_eq C (t := 123) dX8_back_63 rfl rfl (fun _ => ?_) (fun h => absurd h (by decide))
        refine v_iconst C (v := 0) dX8_back_123 rfl rfl ?_
        refine v_istore C (lv1 := [(7, .int (0)), (6, .int (0)), (5, .int (1)), (0, .ref (a 0 0)), (1, .int (x)), (2, .int (y)), (3, .int (p)), (4, .int (m))]) dX8_back_124 rfl (by decide) rfl ?_
        refine v_aload_n C dX8_back_126 rfl 3 rfl ?_
        refine v_iload C dX8_back_127 rfl 2 rfl ?_
        refine v_if_ne C (t := 136) dX8_back_129 rfl rfl (fun _ => ?_) (fun h => absurd h (by decide))
        refine v_iload C dX8_back_136 rfl 1 rfl ?_
        refine v_if_ne C (t := 145) dX8_back_138 rfl rfl (fun h => absurd h (by decide)) (fun _ => ?_)
        refine v_iconst C (v := 2) dX8_back_141 rfl rfl ?_
        refine v_goto C (q := 155) dX8_back_142 rfl ?_
        refine w_invVr C [.int (2)] 0 0 L_X8_145 (c_X8_holdsTo (s := s) (t := t)  hst hG hL 2) (m0 (s := s) (t := t) (g := G.2.2.1) hL) rfl rfl rfl rfl dX8_back_155 rfl kx_no (fun h9 => ?_)
        refine v_ifB_eq C (t := 195) dX8_back_158 rfl rfl (fun _ => ?_) (fun h => absurd h (by decide))
        exact v_vret C (by decide) (by decide) dX8_back_195 ⟨rfl, by first | rfl | (simp only [h2, h5, h8, pM, pU, heldM_45, gvW_45, inW_45, livN_45, sum9_45, sum13_45, backE, backU, bI, pM, pU, n10, n20, n30, n0, if_true, if_false, ite_true, ite_false, not_true_eq_false, not_false_eq_true, and_true, true_and, and_false, false_and, or_true, true_or, or_false, false_or, reduceIte, and_self, or_self, ne_eq, eq_self_iff_true]; first | done | rfl) | (simp [bI, h2, h5, h8, pM, pU, heldM_45, gvW_45, inW_45, livN_45, sum9_45, sum13_45, backE, backU]; done) | (simp only [pM, pU, heldM_45, gvW_45, inW_45, livN_45, sum9_45, sum13_45, backE, backU, bI, ← Int32.not_le] at *; simp [h2, h5, h8]; done) | (simp_all [bI, h2, h5, h8, pM, pU, heldM_45, gvW_45, inW_45, livN_45, sum9_45, sum13_45, backE, backU]; done) | (simp_all [bI, h2, h5, h8, pM, pU, heldM_45, gvW_45, inW_45, livN_45, sum9_45, sum13_45, backE, backU]; rfl) | (exfalso; omega), by trivial⟩
      · skip
        refine v_iload C dX8_back_38 rfl 5 rfl ?_
        refine v_iconst C (v := 0) dX8_back_40 rfl rfl ?_
        refine v_ldc C (v := 100000) dX8_back_41 rfl N_X8_133 ?_
        refine w_invSr C [.int (m), .int (0), .int (100000)] 0 0 L_X8_123 (c_X8_isIn (s := s) (t := t)  hst hG hL m 0 100000) rfl rfl rfl dX8_back_43 rfl kx_no (fun h10 => ?_)
        refine v_ifB_eq C (t := 58) dX8_back_46 rfl rfl (fun h11 => ?_) (fun h11 => ?_)
        · skip
          refine v_iconst C (v := 0) dX8_back_58 rfl rfl ?_
          refine v_istore C (lv1 := [(6, .int (0)), (5, .int (1)), (0, .ref (a 0 0)), (1, .int (x)), (2, .int (y)), (3, .int (p)), (4, .int (m))]) dX8_back_59 rfl (by decide) rfl ?_
          refine v_iload C dX8_back_61 rfl 0 rfl ?_
          refine v_if_eq C (t := 123) dX8_back_63 rfl rfl (fun _ => ?_) (fun h => absurd h (by decide))
          refine v_iconst C (v := 0) dX8_back_123 rfl rfl ?_
          refine v_istore C (lv1 := [(7, .int (0)), (6, .int (0)), (5, .int (1)), (0, .ref (a 0 0)), (1, .int (x)), (2, .int (y)), (3, .int (p)), (4, .int (m))]) dX8_back_124 rfl (by decide) rfl ?_
          refine v_aload_n C dX8_back_126 rfl 3 rfl ?_
          refine v_iload C dX8_back_127 rfl 2 rfl ?_
          refine v_if_ne C (t := 136) dX8_back_129 rfl rfl (fun _ => ?_) (fun h => absurd h (by decide))
          refine v_iload C dX8_back_136 rfl 1 rfl ?_
          refine v_if_ne C (t := 145) dX8_back_138 rfl rfl (fun h => absurd h (by decide)) (fun _ => ?_)
          refine v_iconst C (v := 2) dX8_back_141 rfl rfl ?_
          refine v_goto C (q := 155) dX8_back_142 rfl ?_
          refine w_invVr C [.int (2)] 0 0 L_X8_145 (c_X8_holdsTo (s := s) (t := t)  hst hG hL 2) (m0 (s := s) (t := t) (g := G.2.2.1) hL) rfl rfl rfl rfl dX8_back_155 rfl kx_no (fun h12 => ?_)
          refine v_ifB_eq C (t := 195) dX8_back_158 rfl rfl (fun _ => ?_) (fun h => absurd h (by decide))
          exact v_vret C (by decide) (by decide) dX8_back_195 ⟨rfl, by first | rfl | (simp only [h2, h5, h8, h11, pM, pU, heldM_45, gvW_45, inW_45, livN_45, sum9_45, sum13_45, backE, backU, bI, pM, pU, n10, n20, n30, n0, if_true, if_false, ite_true, ite_false, not_true_eq_false, not_false_eq_true, and_true, true_and, and_false, false_and, or_true, true_or, or_false, false_or, reduceIte, and_self, or_self, ne_eq, eq_self_iff_true]; first | done | rfl) | (simp [bI, h2, h5, h8, h11, pM, pU, heldM_45, gvW_45, inW_45, livN_45, sum9_45, sum13_45, backE, backU]; done) | (simp only [pM, pU, heldM_45, gvW_45, inW_45, livN_45, sum9_45, sum13_45, backE, backU, bI, ← Int32.not_le] at *; simp [h2, h5, h8, h11]; done) | (simp_all [bI, h2, h5, h8, h11, pM, pU, heldM_45, gvW_45, inW_45, livN_45, sum9_45, sum13_45, backE, backU]; done) | (simp_all [bI, h2, h5, h8, h11, pM, pU, heldM_45, gvW_45, inW_45, livN_45, sum9_45, sum13_45, backE, backU]; rfl) | (exfalso; omega), by trivial⟩
        · skip
          refine v_iload_n C dX8_back_49 rfl 2 rfl ?_
          refine v_iload_n C dX8_back_50 rfl 3 rfl ?_
          refine v_icmp_eq C (t := 58) dX8_back_51 rfl rfl (fun h13 => ?_) (fun h13 => ?_)
          · skip
            refine v_iconst C (v := 0) dX8_back_58 rfl rfl ?_
            refine v_istore C (lv1 := [(6, .int (0)), (5, .int (1)), (0, .ref (a 0 0)), (1, .int (x)), (2, .int (y)), (3, .int (p)), (4, .int (m))]) dX8_back_59 rfl (by decide) rfl ?_
            refine v_iload C dX8_back_61 rfl 0 rfl ?_
            refine v_if_eq C (t := 123) dX8_back_63 rfl rfl (fun _ => ?_) (fun h => absurd h (by decide))
            refine v_iconst C (v := 0) dX8_back_123 rfl rfl ?_
            refine v_istore C (lv1 := [(7, .int (0)), (6, .int (0)), (5, .int (1)), (0, .ref (a 0 0)), (1, .int (x)), (2, .int (y)), (3, .int (p)), (4, .int (m))]) dX8_back_124 rfl (by decide) rfl ?_
            refine v_aload_n C dX8_back_126 rfl 3 rfl ?_
            refine v_iload C dX8_back_127 rfl 2 rfl ?_
            refine v_if_ne C (t := 136) dX8_back_129 rfl rfl (fun _ => ?_) (fun h => absurd h (by decide))
            refine v_iload C dX8_back_136 rfl 1 rfl ?_
            refine v_if_ne C (t := 145) dX8_back_138 rfl rfl (fun h => absurd h (by decide)) (fun _ => ?_)
            refine v_iconst C (v := 2) dX8_back_141 rfl rfl ?_
            refine v_goto C (q := 155) dX8_back_142 rfl ?_
            refine w_invVr C [.int (2)] 0 0 L_X8_145 (c_X8_holdsTo (s := s) (t := t)  hst hG hL 2) (m0 (s := s) (t := t) (g := G.2.2.1) hL) rfl rfl rfl rfl dX8_back_155 rfl kx_no (fun h14 => ?_)
            refine v_ifB_eq C (t := 195) dX8_back_158 rfl rfl (fun _ => ?_) (fun h => absurd h (by decide))
            exact v_vret C (by decide) (by decide) dX8_back_195 ⟨rfl, by first | rfl | (simp only [h2, h5, h8, h11, eq_true h13, pM, pU, heldM_45, gvW_45, inW_45, livN_45, sum9_45, sum13_45, backE, backU, bI, pM, pU, n10, n20, n30, n0, if_true, if_false, ite_true, ite_false, not_true_eq_false, not_false_eq_true, and_true, true_and, and_false, false_and, or_true, true_or, or_false, false_or, reduceIte, and_self, or_self, ne_eq, eq_self_iff_true]; first | done | rfl) | (simp [bI, h2, h5, h8, h11, eq_true h13, pM, pU, heldM_45, gvW_45, inW_45, livN_45, sum9_45, sum13_45, backE, backU]; done) | (simp only [pM, pU, heldM_45, gvW_45, inW_45, livN_45, sum9_45, sum13_45, backE, backU, bI, ← Int32.not_le] at *; simp [h2, h5, h8, h11, eq_true h13]; done) | (simp_all [bI, h2, h5, h8, h11, eq_true h13, pM, pU, heldM_45, gvW_45, inW_45, livN_45, sum9_45, sum13_45, backE, backU]; done) | (simp_all [bI, h2, h5, h8, h11, eq_true h13, pM, pU, heldM_45, gvW_45, inW_45, livN_45, sum9_45, sum13_45, backE, backU]; rfl) | (exfalso; omega), by trivial⟩
          · skip
            refine v_iconst C (v := 1) dX8_back_54 rfl rfl ?_
            refine v_goto C (q := 59) dX8_back_55 rfl ?_
            refine v_istore C (lv1 := [(6, .int (1)), (5, .int (1)), (0, .ref (a 0 0)), (1, .int (x)), (2, .int (y)), (3, .int (p)), (4, .int (m))]) dX8_back_59 rfl (by decide) rfl ?_
            refine v_iload C dX8_back_61 rfl 0 rfl ?_
            refine v_if_eq C (t := 123) dX8_back_63 rfl rfl (fun h => absurd h (by decide)) (fun _ => ?_)
            refine v_aload_n C dX8_back_66 rfl 2 rfl ?_
            refine v_iload_n C dX8_back_67 rfl 3 rfl ?_
            refine w_invVr C [.int (x)] 0 0 L_X8_155 (c_X8_isDead (s := s) (t := t)  hst hG hL x _ (in_nI (N := 12) (vp_cnt (by assumption) hm hm12 (by decide)) (by omega)) (in_lt (N := 12) (vp_cnt (by assumption) hm hm12 (by decide)))) (m0 (s := s) (t := t) (g := G.2.2.1) hL) rfl rfl rfl rfl dX8_back_68 rfl kx_no (fun h15 => ?_)
            refine v_ifB_ne C (t := 123) dX8_back_71 rfl rfl (fun h16 => ?_) (fun h16 => ?_)
            · skip
              refine v_iconst C (v := 0) dX8_back_123 rfl rfl ?_
              refine v_istore C (lv1 := [(7, .int (0)), (6, .int (1)), (5, .int (1)), (0, .ref (a 0 0)), (1, .int (x)), (2, .int (y)), (3, .int (p)), (4, .int (m))]) dX8_back_124 rfl (by decide) rfl ?_
              refine v_aload_n C dX8_back_126 rfl 3 rfl ?_
              refine v_iload C dX8_back_127 rfl 2 rfl ?_
              refine v_if_ne C (t := 136) dX8_back_129 rfl rfl (fun _ => ?_) (fun h => absurd h (by decide))
              refine v_iload C dX8_back_136 rfl 1 rfl ?_
              refine v_if_ne C (t := 145) dX8_back_138 rfl rfl (fun _ => ?_) (fun h => absurd h (by decide))
              refine v_iload C dX8_back_145 rfl 0 rfl ?_
              refine v_if_eq C (t := 154) dX8_back_147 rfl rfl (fun _ => ?_) (fun h => absurd h (by decide))
              refine v_iconst C (v := 3) dX8_back_154 rfl rfl ?_
              refine w_invVr C [.int (3)] 0 0 L_X8_145 (c_X8_holdsTo (s := s) (t := t)  hst hG hL 3) (m0 (s := s) (t := t) (g := G.2.2.1) hL) rfl rfl rfl rfl dX8_back_155 rfl kx_no (fun h17 => ?_)
              refine v_ifB_eq C (t := 195) dX8_back_158 rfl rfl (fun _ => ?_) (fun h => absurd h (by decide))
              exact v_vret C (by decide) (by decide) dX8_back_195 ⟨rfl, by first | rfl | (simp only [h2, h5, h8, h11, h13, eq_true h16, pM, pU, heldM_45, gvW_45, inW_45, livN_45, sum9_45, sum13_45, backE, backU, bI, pM, pU, n10, n20, n30, n0, if_true, if_false, ite_true, ite_false, not_true_eq_false, not_false_eq_true, and_true, true_and, and_false, false_and, or_true, true_or, or_false, false_or, reduceIte, and_self, or_self, ne_eq, eq_self_iff_true]; first | done | rfl) | (simp [bI, h2, h5, h8, h11, h13, eq_true h16, pM, pU, heldM_45, gvW_45, inW_45, livN_45, sum9_45, sum13_45, backE, backU]; done) | (simp only [pM, pU, heldM_45, gvW_45, inW_45, livN_45, sum9_45, sum13_45, backE, backU, bI, ← Int32.not_le] at *; simp [h2, h5, h8, h11, h13, eq_true h16]; done) | (simp_all [bI, h2, h5, h8, h11, h13, eq_true h16, pM, pU, heldM_45, gvW_45, inW_45, livN_45, sum9_45, sum13_45, backE, backU]; done) | (simp_all [bI, h2, h5, h8, h11, h13, eq_true h16, pM, pU, heldM_45, gvW_45, inW_45, livN_45, sum9_45, sum13_45, backE, backU]; rfl) | (exfalso; omega), by trivial⟩
            · skip
              refine v_aload_n C dX8_back_74 rfl 2 rfl ?_
              refine v_iload_n C dX8_back_75 rfl 4 rfl ?_
              refine w_invVr C [.int (y)] 0 0 L_X8_155 (c_X8_isDead (s := s) (t := t)  hst hG hL y _ (in_nI (N := 12) (vp_cnt (by assumption) hm hm12 (by decide)) (by omega)) (in_lt (N := 12) (vp_cnt (by assumption) hm hm12 (by decide)))) (m0 (s := s) (t := t) (g := G.2.2.1) hL) rfl rfl rfl rfl dX8_back_76 rfl kx_no (fun h18 => ?_)
              refine v_ifB_ne C (t := 123) dX8_back_79 rfl rfl (fun h19 => ?_) (fun h19 => ?_)
              · skip
                refine v_iconst C (v := 0) dX8_back_123 rfl rfl ?_
                refine v_istore C (lv1 := [(7, .int (0)), (6, .int (1)), (5, .int (1)), (0, .ref (a 0 0)), (1, .int (x)), (2, .int (y)), (3, .int (p)), (4, .int (m))]) dX8_back_124 rfl (by decide) rfl ?_
                refine v_aload_n C dX8_back_126 rfl 3 rfl ?_
                refine v_iload C dX8_back_127 rfl 2 rfl ?_
                refine v_if_ne C (t := 136) dX8_back_129 rfl rfl (fun _ => ?_) (fun h => absurd h (by decide))
                refine v_iload C dX8_back_136 rfl 1 rfl ?_
                refine v_if_ne C (t := 145) dX8_back_138 rfl rfl (fun _ => ?_) (fun h => absurd h (by decide))
                refine v_iload C dX8_back_145 rfl 0 rfl ?_
                refine v_if_eq C (t := 154) dX8_back_147 rfl rfl (fun _ => ?_) (fun h => absurd h (by decide))
                refine v_iconst C (v := 3) dX8_back_154 rfl rfl ?_
                refine w_invVr C [.int (3)] 0 0 L_X8_145 (c_X8_holdsTo (s := s) (t := t)  hst hG hL 3) (m0 (s := s) (t := t) (g := G.2.2.1) hL) rfl rfl rfl rfl dX8_back_155 rfl kx_no (fun h20 => ?_)
                refine v_ifB_eq C (t := 195) dX8_back_158 rfl rfl (fun _ => ?_) (fun h => absurd h (by decide))
                exact v_vret C (by decide) (by decide) dX8_back_195 ⟨rfl, by first | rfl | (simp only [h2, h5, h8, h11, h13, h16, eq_true h19, pM, pU, heldM_45, gvW_45, inW_45, livN_45, sum9_45, sum13_45, backE, backU, bI, pM, pU, n10, n20, n30, n0, if_true, if_false, ite_true, ite_false, not_true_eq_false, not_false_eq_true, and_true, true_and, and_false, false_and, or_true, true_or, or_false, false_or, reduceIte, and_self, or_self, ne_eq, eq_self_iff_true]; first | done | rfl) | (simp [bI, h2, h5, h8, h11, h13, h16, eq_true h19, pM, pU, heldM_45, gvW_45, inW_45, livN_45, sum9_45, sum13_45, backE, backU]; done) | (simp only [pM, pU, heldM_45, gvW_45, inW_45, livN_45, sum9_45, sum13_45, backE, backU, bI, ← Int32.not_le] at *; simp [h2, h5, h8, h11, h13, h16, eq_true h19]; done) | (simp_all [bI, h2, h5, h8, h11, h13, h16, eq_true h19, pM, pU, heldM_45, gvW_45, inW_45, livN_45, sum9_45, sum13_45, backE, backU]; done) | (simp_all [bI, h2, h5, h8, h11, h13, h16, eq_true h19, pM, pU, heldM_45, gvW_45, inW_45, livN_45, sum9_45, sum13_45, backE, backU]; rfl) | (exfalso; omega), by trivial⟩
              · skip
                refine v_aload_n C dX8_back_82 rfl 2 rfl ?_
                refine v_get C (v := .ref (a 1 20)) g_X8_56 (m0 (s := s) (t := t) (g := G.2.2.1) hL) (rg (by decide) rfl) dX8_back_83 rfl ?_
                refine v_bipush C (v := 12) dX8_back_86 rfl rfl ?_
                refine v_iload_n C dX8_back_88 rfl 4 rfl ?_
                refine v_imul C dX8_back_89 rfl ?_
                refine v_iload_n C dX8_back_90 rfl 3 rfl ?_
                refine v_iadd C dX8_back_91 rfl ?_
                refine v_ialdE C (len := 144) (12 * tn y + tn x) (m1 (s := s) (t := t) (g := G.2.2.1) hL 20 rfl) (ix144 (vp_cnt (x := x) (by assumption) hm hm12 (by decide)) (vp_cnt (x := y) (by assumption) hm hm12 (by decide))).2 (ix144 (vp_cnt (x := x) (by assumption) hm hm12 (by decide)) (vp_cnt (x := y) (by assumption) hm hm12 (by decide))).1 dX8_back_92 rfl ?_
                refine v_if_ne C (t := 123) dX8_back_93 rfl rfl (fun h21 => ?_) (fun h21 => ?_)
                · skip
                  refine v_iconst C (v := 0) dX8_back_123 rfl rfl ?_
                  refine v_istore C (lv1 := [(7, .int (0)), (6, .int (1)), (5, .int (1)), (0, .ref (a 0 0)), (1, .int (x)), (2, .int (y)), (3, .int (p)), (4, .int (m))]) dX8_back_124 rfl (by decide) rfl ?_
                  refine v_aload_n C dX8_back_126 rfl 3 rfl ?_
                  refine v_iload C dX8_back_127 rfl 2 rfl ?_
                  refine v_if_ne C (t := 136) dX8_back_129 rfl rfl (fun _ => ?_) (fun h => absurd h (by decide))
                  refine v_iload C dX8_back_136 rfl 1 rfl ?_
                  refine v_if_ne C (t := 145) dX8_back_138 rfl rfl (fun _ => ?_) (fun h => absurd h (by decide))
                  refine v_iload C dX8_back_145 rfl 0 rfl ?_
                  refine v_if_eq C (t := 154) dX8_back_147 rfl rfl (fun _ => ?_) (fun h => absurd h (by decide))
                  refine v_iconst C (v := 3) dX8_back_154 rfl rfl ?_
                  refine w_invVr C [.int (3)] 0 0 L_X8_145 (c_X8_holdsTo (s := s) (t := t)  hst hG hL 3) (m0 (s := s) (t := t) (g := G.2.2.1) hL) rfl rfl rfl rfl dX8_back_155 rfl kx_no (fun h22 => ?_)
                  refine v_ifB_eq C (t := 195) dX8_back_158 rfl rfl (fun _ => ?_) (fun h => absurd h (by decide))
                  exact v_vret C (by decide) (by decide) dX8_back_195 ⟨rfl, by first | rfl | (simp only [h2, h5, h8, h11, h13, h16, h19, h21, pM, pU, heldM_45, gvW_45, inW_45, livN_45, sum9_45, sum13_45, backE, backU, bI, pM, pU, n10, n20, n30, n0, if_true, if_false, ite_true, ite_false, not_true_eq_false, not_false_eq_true, and_true, true_and, and_false, false_and, or_true, true_or, or_false, false_or, reduceIte, and_self, or_self, ne_eq, eq_self_iff_true]; first | done | rfl) | (simp [bI, h2, h5, h8, h11, h13, h16, h19, h21, pM, pU, heldM_45, gvW_45, inW_45, livN_45, sum9_45, sum13_45, backE, backU]; done) | (simp only [pM, pU, heldM_45, gvW_45, inW_45, livN_45, sum9_45, sum13_45, backE, backU, bI, ← Int32.not_le] at *; simp [h2, h5, h8, h11, h13, h16, h19, h21]; done) | (simp_all [bI, h2, h5, h8, h11, h13, h16, h19, h21, pM, pU, heldM_45, gvW_45, inW_45, livN_45, sum9_45, sum13_45, backE, backU]; done) | (simp_all [bI, h2, h5, h8, h11, h13, h16, h19, h21, pM, pU, heldM_45, gvW_45, inW_45, livN_45, sum9_45, sum13_45, backE, backU]; rfl) | (exfalso; omega), by trivial⟩
                · skip
                  refine v_aload_n C dX8_back_96 rfl 2 rfl ?_
                  refine v_get C (v := .ref (a 1 16)) g_X8_44 (m0 (s := s) (t := t) (g := G.2.2.1) hL) (rg (by decide) rfl) dX8_back_97 rfl ?_
                  refine v_iload_n C dX8_back_100 rfl 3 rfl ?_
                  refine v_iald C (len := 12) (m1 (s := s) (t := t) (g := G.2.2.1) hL 16 rfl) (vp_cnt (by assumption) hm hm12 (by decide)) dX8_back_101 rfl ?_
                  refine v_iload C dX8_back_102 rfl 6 rfl ?_
                  refine v_icmp_lt C (t := 123) dX8_back_104 rfl rfl (fun h23 => ?_) (fun h23 => ?_)
                  · skip
                    refine v_iconst C (v := 0) dX8_back_123 rfl rfl ?_
                    refine v_istore C (lv1 := [(7, .int (0)), (6, .int (1)), (5, .int (1)), (0, .ref (a 0 0)), (1, .int (x)), (2, .int (y)), (3, .int (p)), (4, .int (m))]) dX8_back_124 rfl (by decide) rfl ?_
                    refine v_aload_n C dX8_back_126 rfl 3 rfl ?_
                    refine v_iload C dX8_back_127 rfl 2 rfl ?_
                    refine v_if_ne C (t := 136) dX8_back_129 rfl rfl (fun _ => ?_) (fun h => absurd h (by decide))
                    refine v_iload C dX8_back_136 rfl 1 rfl ?_
                    refine v_if_ne C (t := 145) dX8_back_138 rfl rfl (fun _ => ?_) (fun h => absurd h (by decide))
                    refine v_iload C dX8_back_145 rfl 0 rfl ?_
                    refine v_if_eq C (t := 154) dX8_back_147 rfl rfl (fun _ => ?_) (fun h => absurd h (by decide))
                    refine v_iconst C (v := 3) dX8_back_154 rfl rfl ?_
                    refine w_invVr C [.int (3)] 0 0 L_X8_145 (c_X8_holdsTo (s := s) (t := t)  hst hG hL 3) (m0 (s := s) (t := t) (g := G.2.2.1) hL) rfl rfl rfl rfl dX8_back_155 rfl kx_no (fun h24 => ?_)
                    refine v_ifB_eq C (t := 195) dX8_back_158 rfl rfl (fun _ => ?_) (fun h => absurd h (by decide))
                    exact v_vret C (by decide) (by decide) dX8_back_195 ⟨rfl, by first | rfl | (simp only [h2, h5, h8, h11, h13, h16, h19, eq_true h21, h23, Int32.not_le.mpr h23, pM, pU, heldM_45, gvW_45, inW_45, livN_45, sum9_45, sum13_45, backE, backU, bI, pM, pU, n10, n20, n30, n0, if_true, if_false, ite_true, ite_false, not_true_eq_false, not_false_eq_true, and_true, true_and, and_false, false_and, or_true, true_or, or_false, false_or, reduceIte, and_self, or_self, ne_eq, eq_self_iff_true]; first | done | rfl) | (simp [bI, h2, h5, h8, h11, h13, h16, h19, eq_true h21, h23, Int32.not_le.mpr h23, pM, pU, heldM_45, gvW_45, inW_45, livN_45, sum9_45, sum13_45, backE, backU]; done) | (simp only [pM, pU, heldM_45, gvW_45, inW_45, livN_45, sum9_45, sum13_45, backE, backU, bI, ← Int32.not_le] at *; simp [h2, h5, h8, h11, h13, h16, h19, eq_true h21, h23, Int32.not_le.mpr h23]; done) | (simp_all [bI, h2, h5, h8, h11, h13, h16, h19, eq_true h21, h23, Int32.not_le.mpr h23, pM, pU, heldM_45, gvW_45, inW_45, livN_45, sum9_45, sum13_45, backE, backU]; done) | (simp_all [bI, h2, h5, h8, h11, h13, h16, h19, eq_true h21, h23, Int32.not_le.mpr h23, pM, pU, heldM_45, gvW_45, inW_45, livN_45, sum9_45, sum13_45, backE, backU]; rfl) | (exfalso; omega), by trivial⟩
                  · skip
                    refine v_aload_n C dX8_back_107 rfl 2 rfl ?_
                    refine v_iload_n C dX8_back_108 rfl 4 rfl ?_
                    refine w_invVr C [.int (y)] 0 0 L_X8_227 (c_X8_backed (s := s) (t := t) (nm := nm) hst hG hL y _ (in_nI (N := 12) (vp_cnt (by assumption) hm hm12 (by decide)) (by omega)) (in_lt (N := 12) (vp_cnt (by assumption) hm hm12 (by decide))) hm hm12) (m0 (s := s) (t := t) (g := G.2.2.1) hL) rfl rfl rfl rfl dX8_back_109 rfl kx_no (fun h25 => ?_)
                    refine v_iload_n C dX8_back_112 rfl 5 rfl ?_
                    refine v_iadd C dX8_back_113 rfl ?_
                    refine v_bipush C (v := 100) dX8_back_114 rfl rfl ?_
                    refine v_icmp_gt C (t := 123) dX8_back_116 rfl rfl (fun h26 => ?_) (fun h26 => ?_)
                    · skip
                      refine v_iconst C (v := 0) dX8_back_123 rfl rfl ?_
                      refine v_istore C (lv1 := [(7, .int (0)), (6, .int (1)), (5, .int (1)), (0, .ref (a 0 0)), (1, .int (x)), (2, .int (y)), (3, .int (p)), (4, .int (m))]) dX8_back_124 rfl (by decide) rfl ?_
                      refine v_aload_n C dX8_back_126 rfl 3 rfl ?_
                      refine v_iload C dX8_back_127 rfl 2 rfl ?_
                      refine v_if_ne C (t := 136) dX8_back_129 rfl rfl (fun _ => ?_) (fun h => absurd h (by decide))
                      refine v_iload C dX8_back_136 rfl 1 rfl ?_
                      refine v_if_ne C (t := 145) dX8_back_138 rfl rfl (fun _ => ?_) (fun h => absurd h (by decide))
                      refine v_iload C dX8_back_145 rfl 0 rfl ?_
                      refine v_if_eq C (t := 154) dX8_back_147 rfl rfl (fun _ => ?_) (fun h => absurd h (by decide))
                      refine v_iconst C (v := 3) dX8_back_154 rfl rfl ?_
                      refine w_invVr C [.int (3)] 0 0 L_X8_145 (c_X8_holdsTo (s := s) (t := t)  hst hG hL 3) (m0 (s := s) (t := t) (g := G.2.2.1) hL) rfl rfl rfl rfl dX8_back_155 rfl kx_no (fun h27 => ?_)
                      refine v_ifB_eq C (t := 195) dX8_back_158 rfl rfl (fun _ => ?_) (fun h => absurd h (by decide))
                      exact v_vret C (by decide) (by decide) dX8_back_195 ⟨rfl, by first | rfl | (simp only [h2, h5, h8, h11, h13, h16, h19, eq_true h21, h23, Int32.not_lt.mp h23, h26, Int32.not_le.mpr h26, pM, pU, heldM_45, gvW_45, inW_45, livN_45, sum9_45, sum13_45, backE, backU, bI, pM, pU, n10, n20, n30, n0, if_true, if_false, ite_true, ite_false, not_true_eq_false, not_false_eq_true, and_true, true_and, and_false, false_and, or_true, true_or, or_false, false_or, reduceIte, and_self, or_self, ne_eq, eq_self_iff_true]; first | done | rfl) | (simp [bI, h2, h5, h8, h11, h13, h16, h19, eq_true h21, h23, Int32.not_lt.mp h23, h26, Int32.not_le.mpr h26, pM, pU, heldM_45, gvW_45, inW_45, livN_45, sum9_45, sum13_45, backE, backU]; done) | (simp only [pM, pU, heldM_45, gvW_45, inW_45, livN_45, sum9_45, sum13_45, backE, backU, bI, ← Int32.not_le] at *; simp [h2, h5, h8, h11, h13, h16, h19, eq_true h21, h23, Int32.not_lt.mp h23, h26, Int32.not_le.mpr h26]; done) | (simp_all [bI, h2, h5, h8, h11, h13, h16, h19, eq_true h21, h23, Int32.not_lt.mp h23, h26, Int32.not_le.mpr h26, pM, pU, heldM_45, gvW_45, inW_45, livN_45, sum9_45, sum13_45, backE, backU]; done) | (simp_all [bI, h2, h5, h8, h11, h13, h16, h19, eq_true h21, h23, Int32.not_lt.mp h23, h26, Int32.not_le.mpr h26, pM, pU, heldM_45, gvW_45, inW_45, livN_45, sum9_45, sum13_45, backE, backU]; rfl) | (exfalso; omega), by trivial⟩
                    · skip
                      refine v_iconst C (v := 1) dX8_back_119 rfl rfl ?_
                      refine v_goto C (q := 124) dX8_back_120 rfl ?_
                      refine v_istore C (lv1 := [(7, .int (1)), (6, .int (1)), (5, .int (1)), (0, .ref (a 0 0)), (1, .int (x)), (2, .int (y)), (3, .int (p)), (4, .int (m))]) dX8_back_124 rfl (by decide) rfl ?_
                      refine v_aload_n C dX8_back_126 rfl 3 rfl ?_
                      refine v_iload C dX8_back_127 rfl 2 rfl ?_
                      refine v_if_ne C (t := 136) dX8_back_129 rfl rfl (fun _ => ?_) (fun h => absurd h (by decide))
                      refine v_iload C dX8_back_136 rfl 1 rfl ?_
                      refine v_if_ne C (t := 145) dX8_back_138 rfl rfl (fun _ => ?_) (fun h => absurd h (by decide))
                      refine v_iload C dX8_back_145 rfl 0 rfl ?_
                      refine v_if_eq C (t := 154) dX8_back_147 rfl rfl (fun h => absurd h (by decide)) (fun _ => ?_)
                      refine v_iconst C (v := 0) dX8_back_150 rfl rfl ?_
                      refine v_goto C (q := 155) dX8_back_151 rfl ?_
                      refine w_invVr C [.int (0)] 0 0 L_X8_145 (c_X8_holdsTo (s := s) (t := t)  hst hG hL 0) (m0 (s := s) (t := t) (g := G.2.2.1) hL) rfl rfl rfl rfl dX8_back_155 rfl kx_no (fun h28 => ?_)
                      refine v_ifB_eq C (t := 195) dX8_back_158 rfl rfl (fun h => absurd (by decide) h) (fun _ => ?_)
                      refine v_aload_n C dX8_back_161 rfl 3 rfl ?_
                      refine v_get C (v := .ref (a 1 20)) g_X8_56 (m0 (s := s) (t := ((su t 45 0 0))) (g := G.2.2.1) hL) (rg (by decide) rfl) dX8_back_162 rfl ?_
                      refine v_bipush C (v := 12) dX8_back_165 rfl rfl ?_
                      refine v_iload_n C dX8_back_167 rfl 5 rfl ?_
                      refine v_imul C dX8_back_168 rfl ?_
                      refine v_iload_n C dX8_back_169 rfl 4 rfl ?_
                      refine v_iadd C dX8_back_170 rfl ?_
                      refine v_iload_n C dX8_back_171 rfl 6 rfl ?_
                      refine v_iastE C (len := 144) (12 * tn y + tn x) (put_m1 (s := s) (t := ((su t 45 0 0))) (g := G.2.2.1) hL 20 rfl (12 * tn y + tn x) p) (ix144 (vp_cnt (x := x) (by assumption) hm hm12 (by decide)) (vp_cnt (x := y) (by assumption) hm hm12 (by decide))).2 (ix144 (vp_cnt (x := x) (by assumption) hm hm12 (by decide)) (vp_cnt (x := y) (by assumption) hm hm12 (by decide))).1 dX8_back_172 rfl ?_
                      refine v_aload_n C dX8_back_173 rfl 3 rfl ?_
                      refine v_get C (v := .ref (a 1 16)) g_X8_44 (m0 (s := s) (t := ((su (su t 45 0 0) 20 (12 * tn y + tn x) p))) (g := G.2.2.1) hL) (rg (by decide) rfl) dX8_back_174 rfl ?_
                      refine v_iload_n C dX8_back_177 rfl 4 rfl ?_
                      refine v_dup2 C dX8_back_178 rfl rfl rfl ?_
                      refine v_iald C (len := 12) (m1 (s := s) (t := ((su (su t 45 0 0) 20 (12 * tn y + tn x) p))) (g := G.2.2.1) hL 16 rfl) (vp_cnt (by assumption) hm hm12 (by decide)) dX8_back_179 rfl ?_
                      refine xx_top (y := t 16 (tn x)) rfl ?_
                      refine v_iload C dX8_back_180 rfl 7 rfl ?_
                      refine v_isub C dX8_back_182 rfl ?_
                      refine v_iastE C (len := 12) (tn x) (put_m1 (s := s) (t := ((su (su t 45 0 0) 20 (12 * tn y + tn x) p))) (g := G.2.2.1) hL 16 rfl (tn x) ((t 16 (tn x)) - m)) rfl (vp_cnt (by assumption) hm hm12 (by decide)) dX8_back_183 rfl ?_
                      refine v_aload_n C dX8_back_184 rfl 3 rfl ?_
                      refine v_get C (v := .ref (a 1 16)) g_X8_44 (m0 (s := s) (t := ((su (su (su t 45 0 0) 20 (12 * tn y + tn x) p) 16 (tn x) ((t 16 (tn x)) - m)))) (g := G.2.2.1) hL) (rg (by decide) rfl) dX8_back_185 rfl ?_
                      refine v_iload_n C dX8_back_188 rfl 5 rfl ?_
                      refine v_dup2 C dX8_back_189 rfl rfl rfl ?_
                      refine v_iald C (len := 12) (m1 (s := s) (t := ((su (su (su t 45 0 0) 20 (12 * tn y + tn x) p) 16 (tn x) ((t 16 (tn x)) - m)))) (g := G.2.2.1) hL 16 rfl) (vp_cnt (by assumption) hm hm12 (by decide)) dX8_back_190 rfl ?_
                      refine xx_top (y := (su (su (su t 45 0 0) 20 (12 * tn y + tn x) p) 16 (tn x) ((t 16 (tn x)) - m)) 16 (tn y)) rfl ?_
                      refine v_iload C dX8_back_191 rfl 7 rfl ?_
                      refine v_iadd C dX8_back_193 rfl ?_
                      refine v_iastE C (len := 12) (tn y) (put_m1 (s := s) (t := ((su (su (su t 45 0 0) 20 (12 * tn y + tn x) p) 16 (tn x) ((t 16 (tn x)) - m)))) (g := G.2.2.1) hL 16 rfl (tn y) (((su (su (su t 45 0 0) 20 (12 * tn y + tn x) p) 16 (tn x) ((t 16 (tn x)) - m)) 16 (tn y)) + m)) rfl (vp_cnt (by assumption) hm hm12 (by decide)) dX8_back_194 rfl ?_
                      exact v_vret C (by decide) (by decide) dX8_back_195 ⟨rfl, by first | rfl | (simp only [h2, h5, h8, h11, h13, h16, h19, eq_true h21, h23, Int32.not_lt.mp h23, h26, Int32.not_lt.mp h26, pM, pU, heldM_45, gvW_45, inW_45, livN_45, sum9_45, sum13_45, backE, backU, bI, pM, pU, n10, n20, n30, n0, if_true, if_false, ite_true, ite_false, not_true_eq_false, not_false_eq_true, and_true, true_and, and_false, false_and, or_true, true_or, or_false, false_or, reduceIte, and_self, or_self, ne_eq, eq_self_iff_true]; first | done | rfl) | (simp [bI, h2, h5, h8, h11, h13, h16, h19, eq_true h21, h23, Int32.not_lt.mp h23, h26, Int32.not_lt.mp h26, pM, pU, heldM_45, gvW_45, inW_45, livN_45, sum9_45, sum13_45, backE, backU]; done) | (simp only [pM, pU, heldM_45, gvW_45, inW_45, livN_45, sum9_45, sum13_45, backE, backU, bI, ← Int32.not_le] at *; simp [h2, h5, h8, h11, h13, h16, h19, eq_true h21, h23, Int32.not_lt.mp h23, h26, Int32.not_lt.mp h26]; done) | (simp_all [bI, h2, h5, h8, h11, h13, h16, h19, eq_true h21, h23, Int32.not_lt.mp h23, h26, Int32.not_lt.mp h26, pM, pU, heldM_45, gvW_45, inW_45, livN_45, sum9_45, sum13_45, backE, backU]; done) | (simp_all [bI, h2, h5, h8, h11, h13, h16, h19, eq_true h21, h23, Int32.not_lt.mp h23, h26, Int32.not_lt.mp h26, pM, pU, heldM_45, gvW_45, inW_45, livN_45, sum9_45, sum13_45, backE, backU]; rfl) | (exfalso; omega), by trivial⟩

abbrev r_X8_end : Room := { frames := 2, cells := 0, slots := 0, locals := 43 }
set_option maxRecDepth 4000 in
theorem c_X8_end {l : Launch} {G : GG} {a : AD} {s t s0 : SS} {L : List (Nat × Nat)} {nm : Nat} (hst : l.stackTraces = false) (hG : GOK G) (hL : Live L s0) (x : Int32) (y : Int32) (hm : t 12 0 = nI nm) (hm12 : nm ≤ 12) : Mth l yX8_end cX8_end 5 (Option.some Jvm.ClassFile.FieldType.int) r_X8_end G (wl a (E G.2.2.1 a s t) L) [.ref (a 0 0), .int x, .int y] (RI (.int (pM (endE t x y) (endR t x y))) (wl a (E G.2.2.1 a s (pU (endE t x y) (endU (su t 45 0 0) x y) t)) L) (True)) nX := by
  refine mth_of rfl (Nat.le_of_ble_eq_true rfl) hst hG (fun X hX C0 => ?_)
  subst hX
  have C : Cx X G cX8_end 5 RX8 (Option.some Jvm.ClassFile.FieldType.int) r_X8_end "end" [] := C0
  clear C0
  show V X G 5 _ 0 0 _ 0 [(0, .ref (a 0 0)), (1, .int (x)), (2, .int (y))] []
  refine v_aload_n C dX8_end_0 rfl 0 rfl ?_
  refine v_iload_n C dX8_end_1 rfl 1 rfl ?_
  refine w_invVr C [.int (x)] 0 0 L_X8_176 (c_X8_isMiner (s := s) (t := t)  hst hG hL x) (m0 (s := s) (t := t) (g := G.2.2.1) hL) rfl rfl rfl rfl dX8_end_2 rfl kx_no (fun h1 => ?_)
  refine v_ifB_eq C (t := 20) dX8_end_5 rfl rfl (fun h2 => ?_) (fun h2 => ?_)
  · skip
    refine v_iconst C (v := 0) dX8_end_20 rfl rfl ?_
    refine v_istore_n C (lv1 := [(3, .int (0)), (0, .ref (a 0 0)), (1, .int (x)), (2, .int (y))]) dX8_end_21 rfl (by decide) rfl ?_
    refine v_aload_n C dX8_end_22 rfl 1 rfl ?_
    refine v_iload_n C dX8_end_23 rfl 0 rfl ?_
    refine v_if_ne C (t := 31) dX8_end_24 rfl rfl (fun h => absurd h (by decide)) (fun _ => ?_)
    refine v_iconst C (v := 1) dX8_end_27 rfl rfl ?_
    refine v_goto C (q := 50) dX8_end_28 rfl ?_
    refine w_invVr C [.int (1)] 0 0 L_X8_145 (c_X8_holdsTo (s := s) (t := t)  hst hG hL 1) (m0 (s := s) (t := t) (g := G.2.2.1) hL) rfl rfl rfl rfl dX8_end_50 rfl kx_no (fun h3 => ?_)
    refine v_ifB_ne C (t := 58) dX8_end_53 rfl rfl (fun h => absurd h (by decide)) (fun _ => ?_)
    refine v_iconst C (v := 0) dX8_end_56 rfl rfl ?_
    exact v_iret C (by decide) (by decide) dX8_end_57 ⟨congrArg (fun z => some (Value.int z)) (by first | rfl | (simp only [h2, pM, pU, heldM_45, gvW_45, inW_45, livN_45, sum9_45, sum13_45, endE, endR, endU, bI, pM, pU, n10, n20, n30, n0, if_true, if_false, ite_true, ite_false, not_true_eq_false, not_false_eq_true, and_true, true_and, and_false, false_and, or_true, true_or, or_false, false_or, reduceIte, and_self, or_self, ne_eq, eq_self_iff_true]; first | done | rfl) | (simp [bI, h2, pM, pU, heldM_45, gvW_45, inW_45, livN_45, sum9_45, sum13_45, endE, endR, endU]; done) | (simp only [pM, pU, heldM_45, gvW_45, inW_45, livN_45, sum9_45, sum13_45, endE, endR, endU, bI, ← Int32.not_le] at *; simp [h2]; done) | (simp_all [bI, h2, pM, pU, heldM_45, gvW_45, inW_45, livN_45, sum9_45, sum13_45, endE, endR, endU]; done) | (simp_all [bI, h2, pM, pU, heldM_45, gvW_45, inW_45, livN_45, sum9_45, sum13_45, endE, endR, endU]; rfl) | (exfalso; omega)), by first | rfl | (simp only [h2, pM, pU, heldM_45, gvW_45, inW_45, livN_45, sum9_45, sum13_45, endE, endR, endU, bI, pM, pU, n10, n20, n30, n0, if_true, if_false, ite_true, ite_false, not_true_eq_false, not_false_eq_true, and_true, true_and, and_false, false_and, or_true, true_or, or_false, false_or, reduceIte, and_self, or_self, ne_eq, eq_self_iff_true]; first | done | rfl) | (simp [bI, h2, pM, pU, heldM_45, gvW_45, inW_45, livN_45, sum9_45, sum13_45, endE, endR, endU]; done) | (simp only [pM, pU, heldM_45, gvW_45, inW_45, livN_45, sum9_45, sum13_45, endE, endR, endU, bI, ← Int32.not_le] at *; simp [h2]; done) | (simp_all [bI, h2, pM, pU, heldM_45, gvW_45, inW_45, livN_45, sum9_45, sum13_45, endE, endR, endU]; done) | (simp_all [bI, h2, pM, pU, heldM_45, gvW_45, inW_45, livN_45, sum9_45, sum13_45, endE, endR, endU]; rfl) | (exfalso; omega), by trivial⟩
  · skip
    refine v_aload_n C dX8_end_8 rfl 0 rfl ?_
    refine v_iload_n C dX8_end_9 rfl 2 rfl ?_
    refine w_invVr C [.int (y)] 0 0 L_X8_176 (c_X8_isMiner (s := s) (t := t)  hst hG hL y) (m0 (s := s) (t := t) (g := G.2.2.1) hL) rfl rfl rfl rfl dX8_end_10 rfl kx_no (fun h4 => ?_)
    refine v_ifB_eq C (t := 20) dX8_end_13 rfl rfl (fun h5 => ?_) (fun h5 => ?_)
    · skip
      refine v_iconst C (v := 0) dX8_end_20 rfl rfl ?_
      refine v_istore_n C (lv1 := [(3, .int (0)), (0, .ref (a 0 0)), (1, .int (x)), (2, .int (y))]) dX8_end_21 rfl (by decide) rfl ?_
      refine v_aload_n C dX8_end_22 rfl 1 rfl ?_
      refine v_iload_n C dX8_end_23 rfl 0 rfl ?_
      refine v_if_ne C (t := 31) dX8_end_24 rfl rfl (fun h => absurd h (by decide)) (fun _ => ?_)
      refine v_iconst C (v := 1) dX8_end_27 rfl rfl ?_
      refine v_goto C (q := 50) dX8_end_28 rfl ?_
      refine w_invVr C [.int (1)] 0 0 L_X8_145 (c_X8_holdsTo (s := s) (t := t)  hst hG hL 1) (m0 (s := s) (t := t) (g := G.2.2.1) hL) rfl rfl rfl rfl dX8_end_50 rfl kx_no (fun h6 => ?_)
      refine v_ifB_ne C (t := 58) dX8_end_53 rfl rfl (fun h => absurd h (by decide)) (fun _ => ?_)
      refine v_iconst C (v := 0) dX8_end_56 rfl rfl ?_
      exact v_iret C (by decide) (by decide) dX8_end_57 ⟨congrArg (fun z => some (Value.int z)) (by first | rfl | (simp only [h2, h5, pM, pU, heldM_45, gvW_45, inW_45, livN_45, sum9_45, sum13_45, endE, endR, endU, bI, pM, pU, n10, n20, n30, n0, if_true, if_false, ite_true, ite_false, not_true_eq_false, not_false_eq_true, and_true, true_and, and_false, false_and, or_true, true_or, or_false, false_or, reduceIte, and_self, or_self, ne_eq, eq_self_iff_true]; first | done | rfl) | (simp [bI, h2, h5, pM, pU, heldM_45, gvW_45, inW_45, livN_45, sum9_45, sum13_45, endE, endR, endU]; done) | (simp only [pM, pU, heldM_45, gvW_45, inW_45, livN_45, sum9_45, sum13_45, endE, endR, endU, bI, ← Int32.not_le] at *; simp [h2, h5]; done) | (simp_all [bI, h2, h5, pM, pU, heldM_45, gvW_45, inW_45, livN_45, sum9_45, sum13_45, endE, endR, endU]; done) | (simp_all [bI, h2, h5, pM, pU, heldM_45, gvW_45, inW_45, livN_45, sum9_45, sum13_45, endE, endR, endU]; rfl) | (exfalso; omega)), by first | rfl | (simp only [h2, h5, pM, pU, heldM_45, gvW_45, inW_45, livN_45, sum9_45, sum13_45, endE, endR, endU, bI, pM, pU, n10, n20, n30, n0, if_true, if_false, ite_true, ite_false, not_true_eq_false, not_false_eq_true, and_true, true_and, and_false, false_and, or_true, true_or, or_false, false_or, reduceIte, and_self, or_self, ne_eq, eq_self_iff_true]; first | done | rfl) | (simp [bI, h2, h5, pM, pU, heldM_45, gvW_45, inW_45, livN_45, sum9_45, sum13_45, endE, endR, endU]; done) | (simp only [pM, pU, heldM_45, gvW_45, inW_45, livN_45, sum9_45, sum13_45, endE, endR, endU, bI, ← Int32.not_le] at *; simp [h2, h5]; done) | (simp_all [bI, h2, h5, pM, pU, heldM_45, gvW_45, inW_45, livN_45, sum9_45, sum13_45, endE, endR, endU]; done) | (simp_all [bI, h2, h5, pM, pU, heldM_45, gvW_45, inW_45, livN_45, sum9_45, sum13_45, endE, endR, endU]; rfl) | (exfalso; omega), by trivial⟩
    · skip
      refine v_iconst C (v := 1) dX8_end_16 rfl rfl ?_
      refine v_goto C (q := 21) dX8_end_17 rfl ?_
      refine v_istore_n C (lv1 := [(3, .int (1)), (0, .ref (a 0 0)), (1, .int (x)), (2, .int (y))]) dX8_end_21 rfl (by decide) rfl ?_
      refine v_aload_n C dX8_end_22 rfl 1 rfl ?_
      refine v_iload_n C dX8_end_23 rfl 0 rfl ?_
      refine v_if_ne C (t := 31) dX8_end_24 rfl rfl (fun _ => ?_) (fun h => absurd h (by decide))
      refine v_aload_n C dX8_end_31 rfl 1 rfl ?_
      refine v_get C (v := .ref (a 1 20)) g_X8_56 (m0 (s := s) (t := t) (g := G.2.2.1) hL) (rg (by decide) rfl) dX8_end_32 rfl ?_
      refine v_bipush C (v := 12) dX8_end_35 rfl rfl ?_
      refine v_iload_n C dX8_end_37 rfl 3 rfl ?_
      refine v_imul C dX8_end_38 rfl ?_
      refine v_iload_n C dX8_end_39 rfl 2 rfl ?_
      refine v_iadd C dX8_end_40 rfl ?_
      refine v_ialdE C (len := 144) (12 * tn y + tn x) (m1 (s := s) (t := t) (g := G.2.2.1) hL 20 rfl) (ix144 (vp_cnt (x := x) (by assumption) hm hm12 (by decide)) (vp_cnt (x := y) (by assumption) hm hm12 (by decide))).2 (ix144 (vp_cnt (x := x) (by assumption) hm hm12 (by decide)) (vp_cnt (x := y) (by assumption) hm hm12 (by decide))).1 dX8_end_41 rfl ?_
      refine v_if_le C (t := 49) dX8_end_42 rfl rfl (fun h7 => ?_) (fun h7 => ?_)
      · skip
        refine v_iconst C (v := 2) dX8_end_49 rfl rfl ?_
        refine w_invVr C [.int (2)] 0 0 L_X8_145 (c_X8_holdsTo (s := s) (t := t)  hst hG hL 2) (m0 (s := s) (t := t) (g := G.2.2.1) hL) rfl rfl rfl rfl dX8_end_50 rfl kx_no (fun h8 => ?_)
        refine v_ifB_ne C (t := 58) dX8_end_53 rfl rfl (fun h => absurd h (by decide)) (fun _ => ?_)
        refine v_iconst C (v := 0) dX8_end_56 rfl rfl ?_
        exact v_iret C (by decide) (by decide) dX8_end_57 ⟨congrArg (fun z => some (Value.int z)) (by first | rfl | (simp only [h2, h5, h7, Int32.not_lt.mpr h7, pM, pU, heldM_45, gvW_45, inW_45, livN_45, sum9_45, sum13_45, endE, endR, endU, bI, pM, pU, n10, n20, n30, n0, if_true, if_false, ite_true, ite_false, not_true_eq_false, not_false_eq_true, and_true, true_and, and_false, false_and, or_true, true_or, or_false, false_or, reduceIte, and_self, or_self, ne_eq, eq_self_iff_true]; first | done | rfl) | (simp [bI, h2, h5, h7, Int32.not_lt.mpr h7, pM, pU, heldM_45, gvW_45, inW_45, livN_45, sum9_45, sum13_45, endE, endR, endU]; done) | (simp only [pM, pU, heldM_45, gvW_45, inW_45, livN_45, sum9_45, sum13_45, endE, endR, endU, bI, ← Int32.not_le] at *; simp [h2, h5, h7, Int32.not_lt.mpr h7]; done) | (simp_all [bI, h2, h5, h7, Int32.not_lt.mpr h7, pM, pU, heldM_45, gvW_45, inW_45, livN_45, sum9_45, sum13_45, endE, endR, endU]; done) | (simp_all [bI, h2, h5, h7, Int32.not_lt.mpr h7, pM, pU, heldM_45, gvW_45, inW_45, livN_45, sum9_45, sum13_45, endE, endR, endU]; rfl) | (exfalso; omega)), by first | rfl | (simp only [h2, h5, h7, Int32.not_lt.mpr h7, pM, pU, heldM_45, gvW_45, inW_45, livN_45, sum9_45, sum13_45, endE, endR, endU, bI, pM, pU, n10, n20, n30, n0, if_true, if_false, ite_true, ite_false, not_true_eq_false, not_false_eq_true, and_true, true_and, and_false, false_and, or_true, true_or, or_false, false_or, reduceIte, and_self, or_self, ne_eq, eq_self_iff_true]; first | done | rfl) | (simp [bI, h2, h5, h7, Int32.not_lt.mpr h7, pM, pU, heldM_45, gvW_45, inW_45, livN_45, sum9_45, sum13_45, endE, endR, endU]; done) | (simp only [pM, pU, heldM_45, gvW_45, inW_45, livN_45, sum9_45, sum13_45, endE, endR, endU, bI, ← Int32.not_le] at *; simp [h2, h5, h7, Int32.not_lt.mpr h7]; done) | (simp_all [bI, h2, h5, h7, Int32.not_lt.mpr h7, pM, pU, heldM_45, gvW_45, inW_45, livN_45, sum9_45, sum13_45, endE, endR, endU]; done) | (simp_all [bI, h2, h5, h7, Int32.not_lt.mpr h7, pM, pU, heldM_45, gvW_45, inW_45, livN_45, sum9_45, sum13_45, endE, endR, endU]; rfl) | (exfalso; omega), by trivial⟩
      · skip
        refine v_iconst C (v := 0) dX8_end_45 rfl rfl ?_
        refine v_goto C (q := 50) dX8_end_46 rfl ?_
        refine w_invVr C [.int (0)] 0 0 L_X8_145 (c_X8_holdsTo (s := s) (t := t)  hst hG hL 0) (m0 (s := s) (t := t) (g := G.2.2.1) hL) rfl rfl rfl rfl dX8_end_50 rfl kx_no (fun h9 => ?_)
        refine v_ifB_ne C (t := 58) dX8_end_53 rfl rfl (fun _ => ?_) (fun h => absurd (by decide) h)
        refine v_aload_n C dX8_end_58 rfl 1 rfl ?_
        refine v_get C (v := .ref (a 1 20)) g_X8_56 (m0 (s := s) (t := ((su t 45 0 0))) (g := G.2.2.1) hL) (rg (by decide) rfl) dX8_end_59 rfl ?_
        refine v_bipush C (v := 12) dX8_end_62 rfl rfl ?_
        refine v_iload_n C dX8_end_64 rfl 3 rfl ?_
        refine v_imul C dX8_end_65 rfl ?_
        refine v_iload_n C dX8_end_66 rfl 2 rfl ?_
        refine v_iadd C dX8_end_67 rfl ?_
        refine v_ialdE C (len := 144) (12 * tn y + tn x) (m1 (s := s) (t := ((su t 45 0 0))) (g := G.2.2.1) hL 20 rfl) (ix144 (vp_cnt (x := x) (by assumption) hm hm12 (by decide)) (vp_cnt (x := y) (by assumption) hm hm12 (by decide))).2 (ix144 (vp_cnt (x := x) (by assumption) hm hm12 (by decide)) (vp_cnt (x := y) (by assumption) hm hm12 (by decide))).1 dX8_end_68 rfl ?_
        refine xx_top (y := t 20 (12 * tn y + tn x)) rfl ?_
        refine v_istore C (lv1 := [(4, .int (t 20 (12 * tn y + tn x))), (3, .int (1)), (0, .ref (a 0 0)), (1, .int (x)), (2, .int (y))]) dX8_end_69 rfl (by decide) rfl ?_
        refine v_aload_n C dX8_end_71 rfl 2 rfl ?_
        refine v_get C (v := .ref (a 1 20)) g_X8_56 (m0 (s := s) (t := ((su t 45 0 0))) (g := G.2.2.1) hL) (rg (by decide) rfl) dX8_end_72 rfl ?_
        refine v_bipush C (v := 12) dX8_end_75 rfl rfl ?_
        refine v_iload_n C dX8_end_77 rfl 4 rfl ?_
        refine v_imul C dX8_end_78 rfl ?_
        refine v_iload_n C dX8_end_79 rfl 3 rfl ?_
        refine v_iadd C dX8_end_80 rfl ?_
        refine v_iconst C (v := 0) dX8_end_81 rfl rfl ?_
        refine v_iastE C (len := 144) (12 * tn y + tn x) (put_m1 (s := s) (t := ((su t 45 0 0))) (g := G.2.2.1) hL 20 rfl (12 * tn y + tn x) 0) (ix144 (vp_cnt (x := x) (by assumption) hm hm12 (by decide)) (vp_cnt (x := y) (by assumption) hm hm12 (by decide))).2 (ix144 (vp_cnt (x := x) (by assumption) hm hm12 (by decide)) (vp_cnt (x := y) (by assumption) hm hm12 (by decide))).1 dX8_end_82 rfl ?_
        refine v_iload C dX8_end_83 rfl 0 rfl ?_
        exact v_iret C (by decide) (by decide) dX8_end_85 ⟨congrArg (fun z => some (Value.int z)) (by first | rfl | (simp only [h2, h5, h7, Int32.not_le.mp h7, pM, pU, heldM_45, gvW_45, inW_45, livN_45, sum9_45, sum13_45, endE, endR, endU, bI, pM, pU, n10, n20, n30, n0, if_true, if_false, ite_true, ite_false, not_true_eq_false, not_false_eq_true, and_true, true_and, and_false, false_and, or_true, true_or, or_false, false_or, reduceIte, and_self, or_self, ne_eq, eq_self_iff_true]; first | done | rfl) | (simp [bI, h2, h5, h7, Int32.not_le.mp h7, pM, pU, heldM_45, gvW_45, inW_45, livN_45, sum9_45, sum13_45, endE, endR, endU]; done) | (simp only [pM, pU, heldM_45, gvW_45, inW_45, livN_45, sum9_45, sum13_45, endE, endR, endU, bI, ← Int32.not_le] at *; simp [h2, h5, h7, Int32.not_le.mp h7]; done) | (simp_all [bI, h2, h5, h7, Int32.not_le.mp h7, pM, pU, heldM_45, gvW_45, inW_45, livN_45, sum9_45, sum13_45, endE, endR, endU]; done) | (simp_all [bI, h2, h5, h7, Int32.not_le.mp h7, pM, pU, heldM_45, gvW_45, inW_45, livN_45, sum9_45, sum13_45, endE, endR, endU]; rfl) | (exfalso; omega)), by first | rfl | (simp only [h2, h5, h7, Int32.not_le.mp h7, pM, pU, heldM_45, gvW_45, inW_45, livN_45, sum9_45, sum13_45, endE, endR, endU, bI, pM, pU, n10, n20, n30, n0, if_true, if_false, ite_true, ite_false, not_true_eq_false, not_false_eq_true, and_true, true_and, and_false, false_and, or_true, true_or, or_false, false_or, reduceIte, and_self, or_self, ne_eq, eq_self_iff_true]; first | done | rfl) | (simp [bI, h2, h5, h7, Int32.not_le.mp h7, pM, pU, heldM_45, gvW_45, inW_45, livN_45, sum9_45, sum13_45, endE, endR, endU]; done) | (simp only [pM, pU, heldM_45, gvW_45, inW_45, livN_45, sum9_45, sum13_45, endE, endR, endU, bI, ← Int32.not_le] at *; simp [h2, h5, h7, Int32.not_le.mp h7]; done) | (simp_all [bI, h2, h5, h7, Int32.not_le.mp h7, pM, pU, heldM_45, gvW_45, inW_45, livN_45, sum9_45, sum13_45, endE, endR, endU]; done) | (simp_all [bI, h2, h5, h7, Int32.not_le.mp h7, pM, pU, heldM_45, gvW_45, inW_45, livN_45, sum9_45, sum13_45, endE, endR, endU]; rfl) | (exfalso; omega), by trivial⟩

abbrev r_X8_salt : Room := { frames := 2, cells := 0, slots := 0, locals := 43 }
set_option maxRecDepth 4000 in
theorem c_X8_salt {l : Launch} {G : GG} {a : AD} {s t s0 : SS} {L : List (Nat × Nat)} {nm : Nat} {ns : Nat} (hst : l.stackTraces = false) (hG : GOK G) (hL : Live L s0) (x : Int32) (c : Int32) (m : Int32) (hm : t 12 0 = nI nm) (hm12 : nm ≤ 12) (hs : t 39 0 = nI ns) (hs600 : ns < 600) : Mth l yX8_salt cX8_salt 5 (Option.some Jvm.ClassFile.FieldType.int) r_X8_salt G (wl a (E G.2.2.1 a s t) L) [.ref (a 0 0), .int x, .int c, .int m] (RI (.int (pM (saltE t ns x c m) (saltR t ns x c m))) (wl a (E G.2.2.1 a s (pU (saltE t ns x c m) (saltU (su t 45 0 0) ns x c m) t)) L) (True)) nX := by
  refine mth_of rfl (Nat.le_of_ble_eq_true rfl) hst hG (fun X hX C0 => ?_)
  subst hX
  have C : Cx X G cX8_salt 5 RX8 (Option.some Jvm.ClassFile.FieldType.int) r_X8_salt "salt" [] := C0
  clear C0
  show V X G 5 _ 0 0 _ 0 [(0, .ref (a 0 0)), (1, .int (x)), (2, .int (c)), (3, .int (m))] []
  refine v_aload_n C dX8_salt_0 rfl 0 rfl ?_
  refine v_iload_n C dX8_salt_1 rfl 1 rfl ?_
  refine w_invVr C [.int (x)] 0 0 L_X8_176 (c_X8_isMiner (s := s) (t := t)  hst hG hL x) (m0 (s := s) (t := t) (g := G.2.2.1) hL) rfl rfl rfl rfl dX8_salt_2 rfl kx_no (fun h1 => ?_)
  refine v_ifB_eq C (t := 19) dX8_salt_5 rfl rfl (fun h2 => ?_) (fun h2 => ?_)
  · skip
    refine v_iconst C (v := 0) dX8_salt_19 rfl rfl ?_
    refine v_istore C (lv1 := [(4, .int (0)), (0, .ref (a 0 0)), (1, .int (x)), (2, .int (c)), (3, .int (m))]) dX8_salt_20 rfl (by decide) rfl ?_
    refine v_aload_n C dX8_salt_22 rfl 1 rfl ?_
    refine v_iload C dX8_salt_23 rfl 0 rfl ?_
    refine v_if_ne C (t := 32) dX8_salt_25 rfl rfl (fun h => absurd h (by decide)) (fun _ => ?_)
    refine v_iconst C (v := 1) dX8_salt_28 rfl rfl ?_
    refine v_goto C (q := 70) dX8_salt_29 rfl ?_
    refine w_invVr C [.int (1)] 0 0 L_X8_145 (c_X8_holdsTo (s := s) (t := t)  hst hG hL 1) (m0 (s := s) (t := t) (g := G.2.2.1) hL) rfl rfl rfl rfl dX8_salt_70 rfl kx_no (fun h3 => ?_)
    refine v_ifB_ne C (t := 78) dX8_salt_73 rfl rfl (fun h => absurd h (by decide)) (fun _ => ?_)
    refine v_iconst C (v := 0) dX8_salt_76 rfl rfl ?_
    exact v_iret C (by decide) (by decide) dX8_salt_77 ⟨congrArg (fun z => some (Value.int z)) (by first | rfl | (simp only [h2, pM, pU, heldM_45, gvW_45, inW_45, livN_45, sum9_45, sum13_45, saltE, saltR, saltU, bI, pM, pU, n10, n20, n30, n0, if_true, if_false, ite_true, ite_false, not_true_eq_false, not_false_eq_true, and_true, true_and, and_false, false_and, or_true, true_or, or_false, false_or, reduceIte, and_self, or_self, ne_eq, eq_self_iff_true]; first | done | rfl) | (simp [bI, h2, pM, pU, heldM_45, gvW_45, inW_45, livN_45, sum9_45, sum13_45, saltE, saltR, saltU]; done) | (simp only [pM, pU, heldM_45, gvW_45, inW_45, livN_45, sum9_45, sum13_45, saltE, saltR, saltU, bI, ← Int32.not_le] at *; simp [h2]; done) | (simp_all [bI, h2, pM, pU, heldM_45, gvW_45, inW_45, livN_45, sum9_45, sum13_45, saltE, saltR, saltU]; done) | (simp_all [bI, h2, pM, pU, heldM_45, gvW_45, inW_45, livN_45, sum9_45, sum13_45, saltE, saltR, saltU]; rfl) | (exfalso; omega)), by first | rfl | (simp only [h2, pM, pU, heldM_45, gvW_45, inW_45, livN_45, sum9_45, sum13_45, saltE, saltR, saltU, bI, pM, pU, n10, n20, n30, n0, if_true, if_false, ite_true, ite_false, not_true_eq_false, not_false_eq_true, and_true, true_and, and_false, false_and, or_true, true_or, or_false, false_or, reduceIte, and_self, or_self, ne_eq, eq_self_iff_true]; first | done | rfl) | (simp [bI, h2, pM, pU, heldM_45, gvW_45, inW_45, livN_45, sum9_45, sum13_45, saltE, saltR, saltU]; done) | (simp only [pM, pU, heldM_45, gvW_45, inW_45, livN_45, sum9_45, sum13_45, saltE, saltR, saltU, bI, ← Int32.not_le] at *; simp [h2]; done) | (simp_all [bI, h2, pM, pU, heldM_45, gvW_45, inW_45, livN_45, sum9_45, sum13_45, saltE, saltR, saltU]; done) | (simp_all [bI, h2, pM, pU, heldM_45, gvW_45, inW_45, livN_45, sum9_45, sum13_45, saltE, saltR, saltU]; rfl) | (exfalso; omega), by trivial⟩
  · skip
    refine v_iload_n C dX8_salt_8 rfl 2 rfl ?_
    refine w_invSr C [.int (c)] 0 0 L_X8_134 (c_X8_isCell (s := s) (t := t)  hst hG hL c) rfl rfl rfl dX8_salt_9 rfl kx_no (fun h4 => ?_)
    refine v_ifB_eq C (t := 19) dX8_salt_12 rfl rfl (fun h5 => ?_) (fun h5 => ?_)
    · skip
      refine v_iconst C (v := 0) dX8_salt_19 rfl rfl ?_
      refine v_istore C (lv1 := [(4, .int (0)), (0, .ref (a 0 0)), (1, .int (x)), (2, .int (c)), (3, .int (m))]) dX8_salt_20 rfl (by decide) rfl ?_
      refine v_aload_n C dX8_salt_22 rfl 1 rfl ?_
      refine v_iload C dX8_salt_23 rfl 0 rfl ?_
      refine v_if_ne C (t := 32) dX8_salt_25 rfl rfl (fun h => absurd h (by decide)) (fun _ => ?_)
      refine v_iconst C (v := 1) dX8_salt_28 rfl rfl ?_
      refine v_goto C (q := 70) dX8_salt_29 rfl ?_
      refine w_invVr C [.int (1)] 0 0 L_X8_145 (c_X8_holdsTo (s := s) (t := t)  hst hG hL 1) (m0 (s := s) (t := t) (g := G.2.2.1) hL) rfl rfl rfl rfl dX8_salt_70 rfl kx_no (fun h6 => ?_)
      refine v_ifB_ne C (t := 78) dX8_salt_73 rfl rfl (fun h => absurd h (by decide)) (fun _ => ?_)
      refine v_iconst C (v := 0) dX8_salt_76 rfl rfl ?_
      exact v_iret C (by decide) (by decide) dX8_salt_77 ⟨congrArg (fun z => some (Value.int z)) (by first | rfl | (simp only [h2, h5, pM, pU, heldM_45, gvW_45, inW_45, livN_45, sum9_45, sum13_45, saltE, saltR, saltU, bI, pM, pU, n10, n20, n30, n0, if_true, if_false, ite_true, ite_false, not_true_eq_false, not_false_eq_true, and_true, true_and, and_false, false_and, or_true, true_or, or_false, false_or, reduceIte, and_self, or_self, ne_eq, eq_self_iff_true]; first | done | rfl) | (simp [bI, h2, h5, pM, pU, heldM_45, gvW_45, inW_45, livN_45, sum9_45, sum13_45, saltE, saltR, saltU]; done) | (simp only [pM, pU, heldM_45, gvW_45, inW_45, livN_45, sum9_45, sum13_45, saltE, saltR, saltU, bI, ← Int32.not_le] at *; simp [h2, h5]; done) | (simp_all [bI, h2, h5, pM, pU, heldM_45, gvW_45, inW_45, livN_45, sum9_45, sum13_45, saltE, saltR, saltU]; done) | (simp_all [bI, h2, h5, pM, pU, heldM_45, gvW_45, inW_45, livN_45, sum9_45, sum13_45, saltE, saltR, saltU]; rfl) | (exfalso; omega)), by first | rfl | (simp only [h2, h5, pM, pU, heldM_45, gvW_45, inW_45, livN_45, sum9_45, sum13_45, saltE, saltR, saltU, bI, pM, pU, n10, n20, n30, n0, if_true, if_false, ite_true, ite_false, not_true_eq_false, not_false_eq_true, and_true, true_and, and_false, false_and, or_true, true_or, or_false, false_or, reduceIte, and_self, or_self, ne_eq, eq_self_iff_true]; first | done | rfl) | (simp [bI, h2, h5, pM, pU, heldM_45, gvW_45, inW_45, livN_45, sum9_45, sum13_45, saltE, saltR, saltU]; done) | (simp only [pM, pU, heldM_45, gvW_45, inW_45, livN_45, sum9_45, sum13_45, saltE, saltR, saltU, bI, ← Int32.not_le] at *; simp [h2, h5]; done) | (simp_all [bI, h2, h5, pM, pU, heldM_45, gvW_45, inW_45, livN_45, sum9_45, sum13_45, saltE, saltR, saltU]; done) | (simp_all [bI, h2, h5, pM, pU, heldM_45, gvW_45, inW_45, livN_45, sum9_45, sum13_45, saltE, saltR, saltU]; rfl) | (exfalso; omega), by trivial⟩
    · skip
      refine v_iconst C (v := 1) dX8_salt_15 rfl rfl ?_
      refine v_goto C (q := 20) dX8_salt_16 rfl ?_
      refine v_istore C (lv1 := [(4, .int (1)), (0, .ref (a 0 0)), (1, .int (x)), (2, .int (c)), (3, .int (m))]) dX8_salt_20 rfl (by decide) rfl ?_
      refine v_aload_n C dX8_salt_22 rfl 1 rfl ?_
      refine v_iload C dX8_salt_23 rfl 0 rfl ?_
      refine v_if_ne C (t := 32) dX8_salt_25 rfl rfl (fun _ => ?_) (fun h => absurd h (by decide))
      refine v_iload_n C dX8_salt_32 rfl 4 rfl ?_
      refine v_iconst C (v := 1) dX8_salt_33 rfl rfl ?_
      refine v_sipush C (v := 10000) dX8_salt_34 rfl rfl ?_
      refine w_invSr C [.int (m), .int (1), .int (10000)] 0 0 L_X8_123 (c_X8_isIn (s := s) (t := t)  hst hG hL m 1 10000) rfl rfl rfl dX8_salt_37 rfl kx_no (fun h7 => ?_)
      refine v_ifB_ne C (t := 47) dX8_salt_40 rfl rfl (fun h8 => ?_) (fun h8 => ?_)
      · skip
        refine v_aload_n C dX8_salt_47 rfl 1 rfl ?_
        refine v_iload_n C dX8_salt_48 rfl 2 rfl ?_
        refine w_invVr C [.int (x)] 0 0 L_X8_155 (c_X8_isDead (s := s) (t := t)  hst hG hL x _ (in_nI (N := 12) (vp_cnt (by assumption) hm hm12 (by decide)) (by omega)) (in_lt (N := 12) (vp_cnt (by assumption) hm hm12 (by decide)))) (m0 (s := s) (t := t) (g := G.2.2.1) hL) rfl rfl rfl rfl dX8_salt_49 rfl kx_no (fun h9 => ?_)
        refine v_ifB_ne C (t := 65) dX8_salt_52 rfl rfl (fun h10 => ?_) (fun h10 => ?_)
        · skip
          refine v_iconst C (v := 3) dX8_salt_65 rfl rfl ?_
          refine v_goto C (q := 70) dX8_salt_66 rfl ?_
          refine w_invVr C [.int (3)] 0 0 L_X8_145 (c_X8_holdsTo (s := s) (t := t)  hst hG hL 3) (m0 (s := s) (t := t) (g := G.2.2.1) hL) rfl rfl rfl rfl dX8_salt_70 rfl kx_no (fun h11 => ?_)
          refine v_ifB_ne C (t := 78) dX8_salt_73 rfl rfl (fun h => absurd h (by decide)) (fun _ => ?_)
          refine v_iconst C (v := 0) dX8_salt_76 rfl rfl ?_
          exact v_iret C (by decide) (by decide) dX8_salt_77 ⟨congrArg (fun z => some (Value.int z)) (by first | rfl | (simp only [h2, h5, h8, eq_true h10, pM, pU, heldM_45, gvW_45, inW_45, livN_45, sum9_45, sum13_45, saltE, saltR, saltU, bI, pM, pU, n10, n20, n30, n0, if_true, if_false, ite_true, ite_false, not_true_eq_false, not_false_eq_true, and_true, true_and, and_false, false_and, or_true, true_or, or_false, false_or, reduceIte, and_self, or_self, ne_eq, eq_self_iff_true]; first | done | rfl) | (simp [bI, h2, h5, h8, eq_true h10, pM, pU, heldM_45, gvW_45, inW_45, livN_45, sum9_45, sum13_45, saltE, saltR, saltU]; done) | (simp only [pM, pU, heldM_45, gvW_45, inW_45, livN_45, sum9_45, sum13_45, saltE, saltR, saltU, bI, ← Int32.not_le] at *; simp [h2, h5, h8, eq_true h10]; done) | (simp_all [bI, h2, h5, h8, eq_true h10, pM, pU, heldM_45, gvW_45, inW_45, livN_45, sum9_45, sum13_45, saltE, saltR, saltU]; done) | (simp_all [bI, h2, h5, h8, eq_true h10, pM, pU, heldM_45, gvW_45, inW_45, livN_45, sum9_45, sum13_45, saltE, saltR, saltU]; rfl) | (exfalso; omega)), by first | rfl | (simp only [h2, h5, h8, eq_true h10, pM, pU, heldM_45, gvW_45, inW_45, livN_45, sum9_45, sum13_45, saltE, saltR, saltU, bI, pM, pU, n10, n20, n30, n0, if_true, if_false, ite_true, ite_false, not_true_eq_false, not_false_eq_true, and_true, true_and, and_false, false_and, or_true, true_or, or_false, false_or, reduceIte, and_self, or_self, ne_eq, eq_self_iff_true]; first | done | rfl) | (simp [bI, h2, h5, h8, eq_true h10, pM, pU, heldM_45, gvW_45, inW_45, livN_45, sum9_45, sum13_45, saltE, saltR, saltU]; done) | (simp only [pM, pU, heldM_45, gvW_45, inW_45, livN_45, sum9_45, sum13_45, saltE, saltR, saltU, bI, ← Int32.not_le] at *; simp [h2, h5, h8, eq_true h10]; done) | (simp_all [bI, h2, h5, h8, eq_true h10, pM, pU, heldM_45, gvW_45, inW_45, livN_45, sum9_45, sum13_45, saltE, saltR, saltU]; done) | (simp_all [bI, h2, h5, h8, eq_true h10, pM, pU, heldM_45, gvW_45, inW_45, livN_45, sum9_45, sum13_45, saltE, saltR, saltU]; rfl) | (exfalso; omega), by trivial⟩
        · skip
          refine v_aload_n C dX8_salt_55 rfl 1 rfl ?_
          refine v_get C (v := .ref (a 1 13)) g_X8_35 (m0 (s := s) (t := t) (g := G.2.2.1) hL) (rg (by decide) rfl) dX8_salt_56 rfl ?_
          refine v_iload_n C dX8_salt_59 rfl 2 rfl ?_
          refine v_iald C (len := 12) (m1 (s := s) (t := t) (g := G.2.2.1) hL 13 rfl) (vp_cnt (by assumption) hm hm12 (by decide)) dX8_salt_60 rfl ?_
          refine v_iload_n C dX8_salt_61 rfl 4 rfl ?_
          refine v_icmp_ge C (t := 69) dX8_salt_62 rfl rfl (fun h12 => ?_) (fun h12 => ?_)
          · skip
            refine v_iconst C (v := 0) dX8_salt_69 rfl rfl ?_
            refine w_invVr C [.int (0)] 0 0 L_X8_145 (c_X8_holdsTo (s := s) (t := t)  hst hG hL 0) (m0 (s := s) (t := t) (g := G.2.2.1) hL) rfl rfl rfl rfl dX8_salt_70 rfl kx_no (fun h13 => ?_)
            refine v_ifB_ne C (t := 78) dX8_salt_73 rfl rfl (fun _ => ?_) (fun h => absurd (by decide) h)
            refine v_aload_n C dX8_salt_78 rfl 1 rfl ?_
            refine v_get C (v := .ref (a 1 13)) g_X8_35 (m0 (s := s) (t := ((su t 45 0 0))) (g := G.2.2.1) hL) (rg (by decide) rfl) dX8_salt_79 rfl ?_
            refine v_iload_n C dX8_salt_82 rfl 2 rfl ?_
            refine v_dup2 C dX8_salt_83 rfl rfl rfl ?_
            refine v_iald C (len := 12) (m1 (s := s) (t := ((su t 45 0 0))) (g := G.2.2.1) hL 13 rfl) (vp_cnt (by assumption) hm hm12 (by decide)) dX8_salt_84 rfl ?_
            refine xx_top (y := t 13 (tn x)) rfl ?_
            refine v_iload_n C dX8_salt_85 rfl 4 rfl ?_
            refine v_isub C dX8_salt_86 rfl ?_
            refine v_iastE C (len := 12) (tn x) (put_m1 (s := s) (t := ((su t 45 0 0))) (g := G.2.2.1) hL 13 rfl (tn x) ((t 13 (tn x)) - m)) rfl (vp_cnt (by assumption) hm hm12 (by decide)) dX8_salt_87 rfl ?_
            refine v_aload_n C dX8_salt_88 rfl 1 rfl ?_
            refine v_get C (v := .ref (a 1 9)) g_X8_25 (m0 (s := s) (t := ((su (su t 45 0 0) 13 (tn x) ((t 13 (tn x)) - m)))) (g := G.2.2.1) hL) (rg (by decide) rfl) dX8_salt_89 rfl ?_
            refine v_iload_n C dX8_salt_92 rfl 3 rfl ?_
            refine v_dup2 C dX8_salt_93 rfl rfl rfl ?_
            refine v_iald C (len := 40) (m1 (s := s) (t := ((su (su t 45 0 0) 13 (tn x) ((t 13 (tn x)) - m)))) (g := G.2.2.1) hL 9 rfl) (vp_rng (n := 39) rfl (by decide) (by assumption)) dX8_salt_94 rfl ?_
            refine xx_top (y := t 9 (tn c)) rfl ?_
            refine v_iload_n C dX8_salt_95 rfl 4 rfl ?_
            refine v_iadd C dX8_salt_96 rfl ?_
            refine v_iastE C (len := 40) (tn c) (put_m1 (s := s) (t := ((su (su t 45 0 0) 13 (tn x) ((t 13 (tn x)) - m)))) (g := G.2.2.1) hL 9 rfl (tn c) ((t 9 (tn c)) + m)) rfl (vp_rng (n := 39) rfl (by decide) (by assumption)) dX8_salt_97 rfl ?_
            refine v_aload_n C dX8_salt_98 rfl 1 rfl ?_
            refine v_get C (v := .ref (a 1 40)) g_X8_105 (m0 (s := s) (t := ((su (su (su t 45 0 0) 13 (tn x) ((t 13 (tn x)) - m)) 9 (tn c) ((t 9 (tn c)) + m)))) (g := G.2.2.1) hL) (rg (by decide) rfl) dX8_salt_99 rfl ?_
            refine v_aload_n C dX8_salt_102 rfl 1 rfl ?_
            refine v_get C (v := .int (t 39 0)) g_X8_215 (m0 (s := s) (t := ((su (su (su t 45 0 0) 13 (tn x) ((t 13 (tn x)) - m)) 9 (tn c) ((t 9 (tn c)) + m)))) (g := G.2.2.1) hL) (rg (by decide) rfl) dX8_salt_103 rfl ?_
            refine xx_top (y := nI ns) hs ?_
            refine v_iload_n C dX8_salt_106 rfl 2 rfl ?_
            refine v_iastE C (len := 600) ns (put_m1 (s := s) (t := ((su (su (su t 45 0 0) 13 (tn x) ((t 13 (tn x)) - m)) 9 (tn c) ((t 9 (tn c)) + m)))) (g := G.2.2.1) hL 40 rfl ns x) (nI_clamp (by omega)) (pk_in ns 600 (by omega)) dX8_salt_107 rfl ?_
            refine v_aload_n C dX8_salt_108 rfl 1 rfl ?_
            refine v_get C (v := .ref (a 1 41)) g_X8_108 (m0 (s := s) (t := ((su (su (su (su t 45 0 0) 13 (tn x) ((t 13 (tn x)) - m)) 9 (tn c) ((t 9 (tn c)) + m)) 40 ns x))) (g := G.2.2.1) hL) (rg (by decide) rfl) dX8_salt_109 rfl ?_
            refine v_aload_n C dX8_salt_112 rfl 1 rfl ?_
            refine v_get C (v := .int (t 39 0)) g_X8_215 (m0 (s := s) (t := ((su (su (su (su t 45 0 0) 13 (tn x) ((t 13 (tn x)) - m)) 9 (tn c) ((t 9 (tn c)) + m)) 40 ns x))) (g := G.2.2.1) hL) (rg (by decide) rfl) dX8_salt_113 rfl ?_
            refine xx_top (y := nI ns) hs ?_
            refine v_iload_n C dX8_salt_116 rfl 3 rfl ?_
            refine v_iastE C (len := 600) ns (put_m1 (s := s) (t := ((su (su (su (su t 45 0 0) 13 (tn x) ((t 13 (tn x)) - m)) 9 (tn c) ((t 9 (tn c)) + m)) 40 ns x))) (g := G.2.2.1) hL 41 rfl ns c) (nI_clamp (by omega)) (pk_in ns 600 (by omega)) dX8_salt_117 rfl ?_
            refine v_aload_n C dX8_salt_118 rfl 1 rfl ?_
            refine v_get C (v := .ref (a 1 42)) g_X8_111 (m0 (s := s) (t := ((su (su (su (su (su t 45 0 0) 13 (tn x) ((t 13 (tn x)) - m)) 9 (tn c) ((t 9 (tn c)) + m)) 40 ns x) 41 ns c))) (g := G.2.2.1) hL) (rg (by decide) rfl) dX8_salt_119 rfl ?_
            refine v_aload_n C dX8_salt_122 rfl 1 rfl ?_
            refine v_get C (v := .int (t 39 0)) g_X8_215 (m0 (s := s) (t := ((su (su (su (su (su t 45 0 0) 13 (tn x) ((t 13 (tn x)) - m)) 9 (tn c) ((t 9 (tn c)) + m)) 40 ns x) 41 ns c))) (g := G.2.2.1) hL) (rg (by decide) rfl) dX8_salt_123 rfl ?_
            refine xx_top (y := nI ns) hs ?_
            refine v_aload_n C dX8_salt_126 rfl 1 rfl ?_
            refine v_get C (v := .int (t 0 0)) g_X8_138 (m0 (s := s) (t := ((su (su (su (su (su t 45 0 0) 13 (tn x) ((t 13 (tn x)) - m)) 9 (tn c) ((t 9 (tn c)) + m)) 40 ns x) 41 ns c))) (g := G.2.2.1) hL) (rg (by decide) rfl) dX8_salt_127 rfl ?_
            refine v_iastE C (len := 600) ns (put_m1 (s := s) (t := ((su (su (su (su (su t 45 0 0) 13 (tn x) ((t 13 (tn x)) - m)) 9 (tn c) ((t 9 (tn c)) + m)) 40 ns x) 41 ns c))) (g := G.2.2.1) hL 42 rfl ns (t 0 0)) (nI_clamp (by omega)) (pk_in ns 600 (by omega)) dX8_salt_130 rfl ?_
            refine v_aload_n C dX8_salt_131 rfl 1 rfl ?_
            refine v_dup C dX8_salt_132 rfl rfl ?_
            refine v_get C (v := .int (t 39 0)) g_X8_215 (m0 (s := s) (t := ((su (su (su (su (su (su t 45 0 0) 13 (tn x) ((t 13 (tn x)) - m)) 9 (tn c) ((t 9 (tn c)) + m)) 40 ns x) 41 ns c) 42 ns (t 0 0)))) (g := G.2.2.1) hL) (rg (by decide) rfl) dX8_salt_133 rfl ?_
            refine xx_top (y := nI ns) hs ?_
            refine v_iconst C (v := 1) dX8_salt_136 rfl rfl ?_
            refine v_iaddN C ns 1 rfl rfl dX8_salt_137 rfl ?_
            refine v_put C f_X8_215 (put_m0 (s := s) (t := ((su (su (su (su (su (su t 45 0 0) 13 (tn x) ((t 13 (tn x)) - m)) 9 (tn c) ((t 9 (tn c)) + m)) 40 ns x) 41 ns c) 42 ns (t 0 0)))) (g := G.2.2.1) hL 39 rfl (nI (ns + 1))) rfl rfl (rg_len (by decide)) dX8_salt_138 rfl ?_
            refine v_aload_n C dX8_salt_141 rfl 1 rfl ?_
            refine v_iconst C (v := 1) dX8_salt_142 rfl rfl ?_
            refine v_put C f_X8_141 (put_m0 (s := s) (t := ((su (su (su (su (su (su (su t 45 0 0) 13 (tn x) ((t 13 (tn x)) - m)) 9 (tn c) ((t 9 (tn c)) + m)) 40 ns x) 41 ns c) 42 ns (t 0 0)) 39 0 (nI (ns + 1))))) (g := G.2.2.1) hL 8 rfl 1) rfl rfl (rg_len (by decide)) dX8_salt_143 rfl ?_
            refine v_aload_n C dX8_salt_146 rfl 1 rfl ?_
            refine v_get C (v := .ref (a 1 9)) g_X8_25 (m0 (s := s) (t := ((su (su (su (su (su (su (su (su t 45 0 0) 13 (tn x) ((t 13 (tn x)) - m)) 9 (tn c) ((t 9 (tn c)) + m)) 40 ns x) 41 ns c) 42 ns (t 0 0)) 39 0 (nI (ns + 1))) 8 0 1))) (g := G.2.2.1) hL) (rg (by decide) rfl) dX8_salt_147 rfl ?_
            refine v_iload_n C dX8_salt_150 rfl 3 rfl ?_
            refine v_iald C (len := 40) (m1 (s := s) (t := ((su (su (su (su (su (su (su (su t 45 0 0) 13 (tn x) ((t 13 (tn x)) - m)) 9 (tn c) ((t 9 (tn c)) + m)) 40 ns x) 41 ns c) 42 ns (t 0 0)) 39 0 (nI (ns + 1))) 8 0 1))) (g := G.2.2.1) hL 9 rfl) (vp_rng (n := 39) rfl (by decide) (by assumption)) dX8_salt_151 rfl ?_
            refine xx_top (y := (t 9 (tn c)) + m) (su_a (s := (su (su t 45 0 0) 13 (tn x) ((t 13 (tn x)) - m))) (k := 9) (i := tn c) (v := (t 9 (tn c)) + m)) ?_
            exact v_iret C (by decide) (by decide) dX8_salt_152 ⟨congrArg (fun z => some (Value.int z)) (by first | rfl | (simp only [h2, h5, h8, h10, h12, Int32.not_lt.mpr h12, pM, pU, heldM_45, gvW_45, inW_45, livN_45, sum9_45, sum13_45, saltE, saltR, saltU, bI, pM, pU, n10, n20, n30, n0, if_true, if_false, ite_true, ite_false, not_true_eq_false, not_false_eq_true, and_true, true_and, and_false, false_and, or_true, true_or, or_false, false_or, reduceIte, and_self, or_self, ne_eq, eq_self_iff_true]; first | done | rfl) | (simp [bI, h2, h5, h8, h10, h12, Int32.not_lt.mpr h12, pM, pU, heldM_45, gvW_45, inW_45, livN_45, sum9_45, sum13_45, saltE, saltR, saltU]; done) | (simp only [pM, pU, heldM_45, gvW_45, inW_45, livN_45, sum9_45, sum13_45, saltE, saltR, saltU, bI, ← Int32.not_le] at *; simp [h2, h5, h8, h10, h12, Int32.not_lt.mpr h12]; done) | (simp_all [bI, h2, h5, h8, h10, h12, Int32.not_lt.mpr h12, pM, pU, heldM_45, gvW_45, inW_45, livN_45, sum9_45, sum13_45, saltE, saltR, saltU]; done) | (simp_all [bI, h2, h5, h8, h10, h12, Int32.not_lt.mpr h12, pM, pU, heldM_45, gvW_45, inW_45, livN_45, sum9_45, sum13_45, saltE, saltR, saltU]; rfl) | (exfalso; omega)), by first | rfl | (simp only [h2, h5, h8, h10, h12, Int32.not_lt.mpr h12, pM, pU, heldM_45, gvW_45, inW_45, livN_45, sum9_45, sum13_45, saltE, saltR, saltU, bI, pM, pU, n10, n20, n30, n0, if_true, if_false, ite_true, ite_false, not_true_eq_false, not_false_eq_true, and_true, true_and, and_false, false_and, or_true, true_or, or_false, false_or, reduceIte, and_self, or_self, ne_eq, eq_self_iff_true]; first | done | rfl) | (simp [bI, h2, h5, h8, h10, h12, Int32.not_lt.mpr h12, pM, pU, heldM_45, gvW_45, inW_45, livN_45, sum9_45, sum13_45, saltE, saltR, saltU]; done) | (simp only [pM, pU, heldM_45, gvW_45, inW_45, livN_45, sum9_45, sum13_45, saltE, saltR, saltU, bI, ← Int32.not_le] at *; simp [h2, h5, h8, h10, h12, Int32.not_lt.mpr h12]; done) | (simp_all [bI, h2, h5, h8, h10, h12, Int32.not_lt.mpr h12, pM, pU, heldM_45, gvW_45, inW_45, livN_45, sum9_45, sum13_45, saltE, saltR, saltU]; done) | (simp_all [bI, h2, h5, h8, h10, h12, Int32.not_lt.mpr h12, pM, pU, heldM_45, gvW_45, inW_45, livN_45, sum9_45, sum13_45, saltE, saltR, saltU]; rfl) | (exfalso; omega), by trivial⟩
          · skip
            refine v_iconst C (v := 3) dX8_salt_65 rfl rfl ?_
            refine v_goto C (q := 70) dX8_salt_66 rfl ?_
            refine w_invVr C [.int (3)] 0 0 L_X8_145 (c_X8_holdsTo (s := s) (t := t)  hst hG hL 3) (m0 (s := s) (t := t) (g := G.2.2.1) hL) rfl rfl rfl rfl dX8_salt_70 rfl kx_no (fun h14 => ?_)
            refine v_ifB_ne C (t := 78) dX8_salt_73 rfl rfl (fun h => absurd h (by decide)) (fun _ => ?_)
            refine v_iconst C (v := 0) dX8_salt_76 rfl rfl ?_
            exact v_iret C (by decide) (by decide) dX8_salt_77 ⟨congrArg (fun z => some (Value.int z)) (by first | rfl | (simp only [h2, h5, h8, h10, h12, Int32.not_le.mp h12, pM, pU, heldM_45, gvW_45, inW_45, livN_45, sum9_45, sum13_45, saltE, saltR, saltU, bI, pM, pU, n10, n20, n30, n0, if_true, if_false, ite_true, ite_false, not_true_eq_false, not_false_eq_true, and_true, true_and, and_false, false_and, or_true, true_or, or_false, false_or, reduceIte, and_self, or_self, ne_eq, eq_self_iff_true]; first | done | rfl) | (simp [bI, h2, h5, h8, h10, h12, Int32.not_le.mp h12, pM, pU, heldM_45, gvW_45, inW_45, livN_45, sum9_45, sum13_45, saltE, saltR, saltU]; done) | (simp only [pM, pU, heldM_45, gvW_45, inW_45, livN_45, sum9_45, sum13_45, saltE, saltR, saltU, bI, ← Int32.not_le] at *; simp [h2, h5, h8, h10, h12, Int32.not_le.mp h12]; done) | (simp_all [bI, h2, h5, h8, h10, h12, Int32.not_le.mp h12, pM, pU, heldM_45, gvW_45, inW_45, livN_45, sum9_45, sum13_45, saltE, saltR, saltU]; done) | (simp_all [bI, h2, h5, h8, h10, h12, Int32.not_le.mp h12, pM, pU, heldM_45, gvW_45, inW_45, livN_45, sum9_45, sum13_45, saltE, saltR, saltU]; rfl) | (exfalso; omega)), by first | rfl | (simp only [h2, h5, h8, h10, h12, Int32.not_le.mp h12, pM, pU, heldM_45, gvW_45, inW_45, livN_45, sum9_45, sum13_45, saltE, saltR, saltU, bI, pM, pU, n10, n20, n30, n0, if_true, if_false, ite_true, ite_false, not_true_eq_false, not_false_eq_true, and_true, true_and, and_false, false_and, or_true, true_or, or_false, false_or, reduceIte, and_self, or_self, ne_eq, eq_self_iff_true]; first | done | rfl) | (simp [bI, h2, h5, h8, h10, h12, Int32.not_le.mp h12, pM, pU, heldM_45, gvW_45, inW_45, livN_45, sum9_45, sum13_45, saltE, saltR, saltU]; done) | (simp only [pM, pU, heldM_45, gvW_45, inW_45, livN_45, sum9_45, sum13_45, saltE, saltR, saltU, bI, ← Int32.not_le] at *; simp [h2, h5, h8, h10, h12, Int32.not_le.mp h12]; done) | (simp_all [bI, h2, h5, h8, h10, h12, Int32.not_le.mp h12, pM, pU, heldM_45, gvW_45, inW_45, livN_45, sum9_45, sum13_45, saltE, saltR, saltU]; done) | (simp_all [bI, h2, h5, h8, h10, h12, Int32.not_le.mp h12, pM, pU, heldM_45, gvW_45, inW_45, livN_45, sum9_45, sum13_45, saltE, saltR, saltU]; rfl) | (exfalso; omega), by trivial⟩
      · skip
        refine v_iconst C (v := 2) dX8_salt_43 rfl rfl ?_
        refine v_goto C (q := 70) dX8_salt_44 rfl ?_
        refine w_invVr C [.int (2)] 0 0 L_X8_145 (c_X8_holdsTo (s := s) (t := t)  hst hG hL 2) (m0 (s := s) (t := t) (g := G.2.2.1) hL) rfl rfl rfl rfl dX8_salt_70 rfl kx_no (fun h15 => ?_)
        refine v_ifB_ne C (t := 78) dX8_salt_73 rfl rfl (fun h => absurd h (by decide)) (fun _ => ?_)
        refine v_iconst C (v := 0) dX8_salt_76 rfl rfl ?_
        exact v_iret C (by decide) (by decide) dX8_salt_77 ⟨congrArg (fun z => some (Value.int z)) (by first | rfl | (simp only [h2, h5, h8, pM, pU, heldM_45, gvW_45, inW_45, livN_45, sum9_45, sum13_45, saltE, saltR, saltU, bI, pM, pU, n10, n20, n30, n0, if_true, if_false, ite_true, ite_false, not_true_eq_false, not_false_eq_true, and_true, true_and, and_false, false_and, or_true, true_or, or_false, false_or, reduceIte, and_self, or_self, ne_eq, eq_self_iff_true]; first | done | rfl) | (simp [bI, h2, h5, h8, pM, pU, heldM_45, gvW_45, inW_45, livN_45, sum9_45, sum13_45, saltE, saltR, saltU]; done) | (simp only [pM, pU, heldM_45, gvW_45, inW_45, livN_45, sum9_45, sum13_45, saltE, saltR, saltU, bI, ← Int32.not_le] at *; simp [h2, h5, h8]; done) | (simp_all [bI, h2, h5, h8, pM, pU, heldM_45, gvW_45, inW_45, livN_45, sum9_45, sum13_45, saltE, saltR, saltU]; done) | (simp_all [bI, h2, h5, h8, pM, pU, heldM_45, gvW_45, inW_45, livN_45, sum9_45, sum13_45, saltE, saltR, saltU]; rfl) | (exfalso; omega)), by first | rfl | (simp only [h2, h5, h8, pM, pU, heldM_45, gvW_45, inW_45, livN_45, sum9_45, sum13_45, saltE, saltR, saltU, bI, pM, pU, n10, n20, n30, n0, if_true, if_false, ite_true, ite_false, not_true_eq_false, not_false_eq_true, and_true, true_and, and_false, false_and, or_true, true_or, or_false, false_or, reduceIte, and_self, or_self, ne_eq, eq_self_iff_true]; first | done | rfl) | (simp [bI, h2, h5, h8, pM, pU, heldM_45, gvW_45, inW_45, livN_45, sum9_45, sum13_45, saltE, saltR, saltU]; done) | (simp only [pM, pU, heldM_45, gvW_45, inW_45, livN_45, sum9_45, sum13_45, saltE, saltR, saltU, bI, ← Int32.not_le] at *; simp [h2, h5, h8]; done) | (simp_all [bI, h2, h5, h8, pM, pU, heldM_45, gvW_45, inW_45, livN_45, sum9_45, sum13_45, saltE, saltR, saltU]; done) | (simp_all [bI, h2, h5, h8, pM, pU, heldM_45, gvW_45, inW_45, livN_45, sum9_45, sum13_45, saltE, saltR, saltU]; rfl) | (exfalso; omega), by trivial⟩

abbrev r_X8_freight : Room := { frames := 1, cells := 0, slots := 0, locals := 22 }
set_option maxRecDepth 4000 in
theorem c_X8_freight {l : Launch} {G : GG} {a : AD} {s t s0 : SS} {L : List (Nat × Nat)} {nf : Nat} (hst : l.stackTraces = false) (hG : GOK G) (hL : Live L s0) (m : Int32) (d : Int32) (hf : t 36 0 = nI nf) (hf20 : nf ≤ 20) : Mth l yX8_freight cX8_freight 4 (Option.none : Option Jvm.ClassFile.FieldType) r_X8_freight G (wl a (E G.2.2.1 a s t) L) [.ref (a 0 0), .int m, .int d] (RV (wl a (E G.2.2.1 a s (pU (freightE t nf m d) (freightU (su t 45 0 0) nf m d) t)) L) (True)) nX := by
  refine mth_of rfl (Nat.le_of_ble_eq_true rfl) hst hG (fun X hX C0 => ?_)
  subst hX
  have C : Cx X G cX8_freight 4 RX8 (Option.none : Option Jvm.ClassFile.FieldType) r_X8_freight "freight" [] := C0
  clear C0
  show V X G 4 _ 0 0 _ 0 [(0, .ref (a 0 0)), (1, .int (m)), (2, .int (d))] []
  refine v_iload_n C dX8_freight_0 rfl 1 rfl ?_
  refine v_iconst C (v := 1) dX8_freight_1 rfl rfl ?_
  refine v_sipush C (v := 1000) dX8_freight_2 rfl rfl ?_
  refine w_invSr C [.int (m), .int (1), .int (1000)] 0 0 L_X8_123 (c_X8_isIn (s := s) (t := t)  hst hG hL m 1 1000) rfl rfl rfl dX8_freight_5 rfl kx_no (fun h1 => ?_)
  refine v_ifB_eq C (t := 31) dX8_freight_8 rfl rfl (fun h2 => ?_) (fun h2 => ?_)
  · skip
    refine v_iconst C (v := 0) dX8_freight_31 rfl rfl ?_
    refine v_istore_n C (lv1 := [(3, .int (0)), (0, .ref (a 0 0)), (1, .int (m)), (2, .int (d))]) dX8_freight_32 rfl (by decide) rfl ?_
    refine v_aload_n C dX8_freight_33 rfl 1 rfl ?_
    refine v_iload_n C dX8_freight_34 rfl 0 rfl ?_
    refine v_if_ne C (t := 42) dX8_freight_35 rfl rfl (fun h => absurd h (by decide)) (fun _ => ?_)
    refine v_iconst C (v := 1) dX8_freight_38 rfl rfl ?_
    refine v_goto C (q := 56) dX8_freight_39 rfl ?_
    refine w_invVr C [.int (1)] 0 0 L_X8_145 (c_X8_holdsTo (s := s) (t := t)  hst hG hL 1) (m0 (s := s) (t := t) (g := G.2.2.1) hL) rfl rfl rfl rfl dX8_freight_56 rfl kx_no (fun h3 => ?_)
    refine v_ifB_eq C (t := 92) dX8_freight_59 rfl rfl (fun _ => ?_) (fun h => absurd h (by decide))
    exact v_vret C (by decide) (by decide) dX8_freight_92 ⟨rfl, by first | rfl | (simp only [h2, pM, pU, heldM_45, gvW_45, inW_45, livN_45, sum9_45, sum13_45, freightE, freightU, bI, pM, pU, n10, n20, n30, n0, if_true, if_false, ite_true, ite_false, not_true_eq_false, not_false_eq_true, and_true, true_and, and_false, false_and, or_true, true_or, or_false, false_or, reduceIte, and_self, or_self, ne_eq, eq_self_iff_true]; first | done | rfl) | (simp [bI, h2, pM, pU, heldM_45, gvW_45, inW_45, livN_45, sum9_45, sum13_45, freightE, freightU]; done) | (simp only [pM, pU, heldM_45, gvW_45, inW_45, livN_45, sum9_45, sum13_45, freightE, freightU, bI, ← Int32.not_le] at *; simp [h2]; done) | (simp_all [bI, h2, pM, pU, heldM_45, gvW_45, inW_45, livN_45, sum9_45, sum13_45, freightE, freightU]; done) | (simp_all [bI, h2, pM, pU, heldM_45, gvW_45, inW_45, livN_45, sum9_45, sum13_45, freightE, freightU]; rfl) | (exfalso; omega), by trivial⟩
  · skip
    refine v_iload_n C dX8_freight_11 rfl 2 rfl ?_
    refine v_aload_n C dX8_freight_12 rfl 0 rfl ?_
    refine v_get C (v := .int (t 0 0)) g_X8_138 (m0 (s := s) (t := t) (g := G.2.2.1) hL) (rg (by decide) rfl) dX8_freight_13 rfl ?_
    refine v_iconst C (v := 1) dX8_freight_16 rfl rfl ?_
    refine v_iadd C dX8_freight_17 rfl ?_
    refine v_sipush C (v := 5000) dX8_freight_18 rfl rfl ?_
    refine w_invSr C [.int (d), .int ((t 0 0) + 1), .int (5000)] 0 0 L_X8_123 (c_X8_isIn (s := s) (t := t)  hst hG hL d ((t 0 0) + 1) 5000) rfl rfl rfl dX8_freight_21 rfl kx_no (fun h4 => ?_)
    refine v_ifB_eq C (t := 31) dX8_freight_24 rfl rfl (fun h5 => ?_) (fun h5 => ?_)
    · skip
      refine v_iconst C (v := 0) dX8_freight_31 rfl rfl ?_
      refine v_istore_n C (lv1 := [(3, .int (0)), (0, .ref (a 0 0)), (1, .int (m)), (2, .int (d))]) dX8_freight_32 rfl (by decide) rfl ?_
      refine v_aload_n C dX8_freight_33 rfl 1 rfl ?_
      refine v_iload_n C dX8_freight_34 rfl 0 rfl ?_
      refine v_if_ne C (t := 42) dX8_freight_35 rfl rfl (fun h => absurd h (by decide)) (fun _ => ?_)
      refine v_iconst C (v := 1) dX8_freight_38 rfl rfl ?_
      refine v_goto C (q := 56) dX8_freight_39 rfl ?_
      refine w_invVr C [.int (1)] 0 0 L_X8_145 (c_X8_holdsTo (s := s) (t := t)  hst hG hL 1) (m0 (s := s) (t := t) (g := G.2.2.1) hL) rfl rfl rfl rfl dX8_freight_56 rfl kx_no (fun h6 => ?_)
      refine v_ifB_eq C (t := 92) dX8_freight_59 rfl rfl (fun _ => ?_) (fun h => absurd h (by decide))
      exact v_vret C (by decide) (by decide) dX8_freight_92 ⟨rfl, by first | rfl | (simp only [h2, h5, pM, pU, heldM_45, gvW_45, inW_45, livN_45, sum9_45, sum13_45, freightE, freightU, bI, pM, pU, n10, n20, n30, n0, if_true, if_false, ite_true, ite_false, not_true_eq_false, not_false_eq_true, and_true, true_and, and_false, false_and, or_true, true_or, or_false, false_or, reduceIte, and_self, or_self, ne_eq, eq_self_iff_true]; first | done | rfl) | (simp [bI, h2, h5, pM, pU, heldM_45, gvW_45, inW_45, livN_45, sum9_45, sum13_45, freightE, freightU]; done) | (simp only [pM, pU, heldM_45, gvW_45, inW_45, livN_45, sum9_45, sum13_45, freightE, freightU, bI, ← Int32.not_le] at *; simp [h2, h5]; done) | (simp_all [bI, h2, h5, pM, pU, heldM_45, gvW_45, inW_45, livN_45, sum9_45, sum13_45, freightE, freightU]; done) | (simp_all [bI, h2, h5, pM, pU, heldM_45, gvW_45, inW_45, livN_45, sum9_45, sum13_45, freightE, freightU]; rfl) | (exfalso; omega), by trivial⟩
    · skip
      refine v_iconst C (v := 1) dX8_freight_27 rfl rfl ?_
      refine v_goto C (q := 32) dX8_freight_28 rfl ?_
      refine v_istore_n C (lv1 := [(3, .int (1)), (0, .ref (a 0 0)), (1, .int (m)), (2, .int (d))]) dX8_freight_32 rfl (by decide) rfl ?_
      refine v_aload_n C dX8_freight_33 rfl 1 rfl ?_
      refine v_iload_n C dX8_freight_34 rfl 0 rfl ?_
      refine v_if_ne C (t := 42) dX8_freight_35 rfl rfl (fun _ => ?_) (fun h => absurd h (by decide))
      refine v_aload_n C dX8_freight_42 rfl 1 rfl ?_
      refine v_get C (v := .int (t 36 0)) g_X8_152 (m0 (s := s) (t := t) (g := G.2.2.1) hL) (rg (by decide) rfl) dX8_freight_43 rfl ?_
      refine xx_top (y := nI nf) hf ?_
      refine v_bipush C (v := 20) dX8_freight_46 rfl rfl ?_
      refine v_icN_ne C (t := 55) nf 20 rfl rfl (by omega) (by omega) dX8_freight_48 rfl rfl (fun h7 => ?_) (fun h7 => ?_)
      · skip
        refine v_iconst C (v := 0) dX8_freight_55 rfl rfl ?_
        refine w_invVr C [.int (0)] 0 0 L_X8_145 (c_X8_holdsTo (s := s) (t := t)  hst hG hL 0) (m0 (s := s) (t := t) (g := G.2.2.1) hL) rfl rfl rfl rfl dX8_freight_56 rfl kx_no (fun h8 => ?_)
        refine v_ifB_eq C (t := 92) dX8_freight_59 rfl rfl (fun h => absurd (by decide) h) (fun _ => ?_)
        refine v_aload_n C dX8_freight_62 rfl 1 rfl ?_
        refine v_get C (v := .ref (a 1 37)) g_X8_99 (m0 (s := s) (t := ((su t 45 0 0))) (g := G.2.2.1) hL) (rg (by decide) rfl) dX8_freight_63 rfl ?_
        refine v_aload_n C dX8_freight_66 rfl 1 rfl ?_
        refine v_get C (v := .int (t 36 0)) g_X8_152 (m0 (s := s) (t := ((su t 45 0 0))) (g := G.2.2.1) hL) (rg (by decide) rfl) dX8_freight_67 rfl ?_
        refine xx_top (y := nI nf) hf ?_
        refine v_iload_n C dX8_freight_70 rfl 2 rfl ?_
        refine v_iastE C (len := 20) nf (put_m1 (s := s) (t := ((su t 45 0 0))) (g := G.2.2.1) hL 37 rfl nf m) (nI_clamp (by omega)) (pk_in nf 20 (by omega)) dX8_freight_71 rfl ?_
        refine v_aload_n C dX8_freight_72 rfl 1 rfl ?_
        refine v_get C (v := .ref (a 1 38)) g_X8_102 (m0 (s := s) (t := ((su (su t 45 0 0) 37 nf m))) (g := G.2.2.1) hL) (rg (by decide) rfl) dX8_freight_73 rfl ?_
        refine v_aload_n C dX8_freight_76 rfl 1 rfl ?_
        refine v_get C (v := .int (t 36 0)) g_X8_152 (m0 (s := s) (t := ((su (su t 45 0 0) 37 nf m))) (g := G.2.2.1) hL) (rg (by decide) rfl) dX8_freight_77 rfl ?_
        refine xx_top (y := nI nf) hf ?_
        refine v_iload_n C dX8_freight_80 rfl 3 rfl ?_
        refine v_iastE C (len := 20) nf (put_m1 (s := s) (t := ((su (su t 45 0 0) 37 nf m))) (g := G.2.2.1) hL 38 rfl nf d) (nI_clamp (by omega)) (pk_in nf 20 (by omega)) dX8_freight_81 rfl ?_
        refine v_aload_n C dX8_freight_82 rfl 1 rfl ?_
        refine v_dup C dX8_freight_83 rfl rfl ?_
        refine v_get C (v := .int (t 36 0)) g_X8_152 (m0 (s := s) (t := ((su (su (su t 45 0 0) 37 nf m) 38 nf d))) (g := G.2.2.1) hL) (rg (by decide) rfl) dX8_freight_84 rfl ?_
        refine xx_top (y := nI nf) hf ?_
        refine v_iconst C (v := 1) dX8_freight_87 rfl rfl ?_
        refine v_iaddN C nf 1 rfl rfl dX8_freight_88 rfl ?_
        refine v_put C f_X8_152 (put_m0 (s := s) (t := ((su (su (su t 45 0 0) 37 nf m) 38 nf d))) (g := G.2.2.1) hL 36 rfl (nI (nf + 1))) rfl rfl (rg_len (by decide)) dX8_freight_89 rfl ?_
        exact v_vret C (by decide) (by decide) dX8_freight_92 ⟨rfl, by first | rfl | (simp only [h2, h5, h7, pM, pU, heldM_45, gvW_45, inW_45, livN_45, sum9_45, sum13_45, freightE, freightU, bI, pM, pU, n10, n20, n30, n0, if_true, if_false, ite_true, ite_false, not_true_eq_false, not_false_eq_true, and_true, true_and, and_false, false_and, or_true, true_or, or_false, false_or, reduceIte, and_self, or_self, ne_eq, eq_self_iff_true]; first | done | rfl) | (simp [bI, h2, h5, h7, pM, pU, heldM_45, gvW_45, inW_45, livN_45, sum9_45, sum13_45, freightE, freightU]; done) | (simp only [pM, pU, heldM_45, gvW_45, inW_45, livN_45, sum9_45, sum13_45, freightE, freightU, bI, ← Int32.not_le] at *; simp [h2, h5, h7]; done) | (simp_all [bI, h2, h5, h7, pM, pU, heldM_45, gvW_45, inW_45, livN_45, sum9_45, sum13_45, freightE, freightU]; done) | (simp_all [bI, h2, h5, h7, pM, pU, heldM_45, gvW_45, inW_45, livN_45, sum9_45, sum13_45, freightE, freightU]; rfl) | (exfalso; omega), by trivial⟩
      · skip
        refine v_iconst C (v := 2) dX8_freight_51 rfl rfl ?_
        refine v_goto C (q := 56) dX8_freight_52 rfl ?_
        refine w_invVr C [.int (2)] 0 0 L_X8_145 (c_X8_holdsTo (s := s) (t := t)  hst hG hL 2) (m0 (s := s) (t := t) (g := G.2.2.1) hL) rfl rfl rfl rfl dX8_freight_56 rfl kx_no (fun h9 => ?_)
        refine v_ifB_eq C (t := 92) dX8_freight_59 rfl rfl (fun _ => ?_) (fun h => absurd h (by decide))
        exact v_vret C (by decide) (by decide) dX8_freight_92 ⟨rfl, by first | rfl | (simp only [h2, h5, eq_true h7, pM, pU, heldM_45, gvW_45, inW_45, livN_45, sum9_45, sum13_45, freightE, freightU, bI, pM, pU, n10, n20, n30, n0, if_true, if_false, ite_true, ite_false, not_true_eq_false, not_false_eq_true, and_true, true_and, and_false, false_and, or_true, true_or, or_false, false_or, reduceIte, and_self, or_self, ne_eq, eq_self_iff_true]; first | done | rfl) | (simp [bI, h2, h5, eq_true h7, pM, pU, heldM_45, gvW_45, inW_45, livN_45, sum9_45, sum13_45, freightE, freightU]; done) | (simp only [pM, pU, heldM_45, gvW_45, inW_45, livN_45, sum9_45, sum13_45, freightE, freightU, bI, ← Int32.not_le] at *; simp [h2, h5, eq_true h7]; done) | (simp_all [bI, h2, h5, eq_true h7, pM, pU, heldM_45, gvW_45, inW_45, livN_45, sum9_45, sum13_45, freightE, freightU]; done) | (simp_all [bI, h2, h5, eq_true h7, pM, pU, heldM_45, gvW_45, inW_45, livN_45, sum9_45, sum13_45, freightE, freightU]; rfl) | (exfalso; omega), by trivial⟩

abbrev r_X8_sell : Room := { frames := 2, cells := 0, slots := 0, locals := 43 }
set_option maxRecDepth 4000 in
theorem c_X8_sell {l : Launch} {G : GG} {a : AD} {s t s0 : SS} {L : List (Nat × Nat)} {nm : Nat} (hst : l.stackTraces = false) (hG : GOK G) (hL : Live L s0) (x : Int32) (d : Int32) (hm : t 12 0 = nI nm) (hm12 : nm ≤ 12) : Mth l yX8_sell cX8_sell 7 (Option.some Jvm.ClassFile.FieldType.int) r_X8_sell G (wl a (E G.2.2.1 a s t) L) [.ref (a 0 0), .int x, .int d] (RI (.int (pM (sellE t x d) (sellR t x d))) (wl a (E G.2.2.1 a s (pU (sellE t x d) (sellU (su t 45 0 0) x d) t)) L) (True)) nX := by
  refine mth_of rfl (Nat.le_of_ble_eq_true rfl) hst hG (fun X hX C0 => ?_)
  subst hX
  have C : Cx X G cX8_sell 7 RX8 (Option.some Jvm.ClassFile.FieldType.int) r_X8_sell "sell" [] := C0
  clear C0
  show V X G 7 _ 0 0 _ 0 [(0, .ref (a 0 0)), (1, .int (x)), (2, .int (d))] []
  refine v_aload_n C dX8_sell_0 rfl 0 rfl ?_
  refine v_iload_n C dX8_sell_1 rfl 1 rfl ?_
  refine w_invVr C [.int (x)] 0 0 L_X8_176 (c_X8_isMiner (s := s) (t := t)  hst hG hL x) (m0 (s := s) (t := t) (g := G.2.2.1) hL) rfl rfl rfl rfl dX8_sell_2 rfl kx_no (fun h1 => ?_)
  refine v_istore_n C (lv1 := [(3, .int (bI ((0 : Int32) ≤ x ∧ x ≤ t 12 0 - 1))), (0, .ref (a 0 0)), (1, .int (x)), (2, .int (d))]) dX8_sell_5 rfl (by decide) rfl ?_
  refine v_aload_n C dX8_sell_6 rfl 1 rfl ?_
  refine v_iload_n C dX8_sell_7 rfl 0 rfl ?_
  refine v_ifB_ne C (t := 15) dX8_sell_8 rfl rfl (fun h2 => ?_) (fun h2 => ?_)
  · skip
    refine v_iload_n C dX8_sell_15 rfl 3 rfl ?_
    refine v_iconst C (v := 1) dX8_sell_16 rfl rfl ?_
    refine v_ldc C (v := 1000000) dX8_sell_17 rfl N_X8_218 ?_
    refine w_invSr C [.int (d), .int (1), .int (1000000)] 0 0 L_X8_123 (c_X8_isIn (s := s) (t := t)  hst hG hL d 1 1000000) rfl rfl rfl dX8_sell_19 rfl kx_no (fun h3 => ?_)
    refine v_ifB_ne C (t := 29) dX8_sell_22 rfl rfl (fun h4 => ?_) (fun h4 => ?_)
    · skip
      refine v_aload_n C dX8_sell_29 rfl 1 rfl ?_
      refine v_iload_n C dX8_sell_30 rfl 2 rfl ?_
      refine w_invVr C [.int (x)] 0 0 L_X8_155 (c_X8_isDead (s := s) (t := t)  hst hG hL x _ (in_nI (N := 12) (vp_cnt (by assumption) hm hm12 (by decide)) (by omega)) (in_lt (N := 12) (vp_cnt (by assumption) hm hm12 (by decide)))) (m0 (s := s) (t := t) (g := G.2.2.1) hL) rfl rfl rfl rfl dX8_sell_31 rfl kx_no (fun h5 => ?_)
      refine v_ifB_ne C (t := 54) dX8_sell_34 rfl rfl (fun h6 => ?_) (fun h6 => ?_)
      · skip
        refine v_iconst C (v := 3) dX8_sell_54 rfl rfl ?_
        refine v_goto C (q := 59) dX8_sell_55 rfl ?_
        refine w_invVr C [.int (3)] 0 0 L_X8_145 (c_X8_holdsTo (s := s) (t := t)  hst hG hL 3) (m0 (s := s) (t := t) (g := G.2.2.1) hL) rfl rfl rfl rfl dX8_sell_59 rfl kx_no (fun h7 => ?_)
        refine v_ifB_ne C (t := 67) dX8_sell_62 rfl rfl (fun h => absurd h (by decide)) (fun _ => ?_)
        refine v_iconst C (v := 0) dX8_sell_65 rfl rfl ?_
        exact v_iret C (by decide) (by decide) dX8_sell_66 ⟨congrArg (fun z => some (Value.int z)) (by first | rfl | (simp only [h2, h4, eq_true h6, pM, pU, heldM_45, gvW_45, inW_45, livN_45, sum9_45, sum13_45, sellE, sellR, sellU, brF, payF, s45_4, s45_7, s45_13, s45_14, s45_16, s45_18, bI, pM, pU, n10, n20, n30, n0, if_true, if_false, ite_true, ite_false, not_true_eq_false, not_false_eq_true, and_true, true_and, and_false, false_and, or_true, true_or, or_false, false_or, reduceIte, and_self, or_self, ne_eq, eq_self_iff_true]; first | done | rfl) | (simp [bI, h2, h4, eq_true h6, pM, pU, heldM_45, gvW_45, inW_45, livN_45, sum9_45, sum13_45, sellE, sellR, sellU, brF, payF, s45_4, s45_7, s45_13, s45_14, s45_16, s45_18]; done) | (simp only [pM, pU, heldM_45, gvW_45, inW_45, livN_45, sum9_45, sum13_45, sellE, sellR, sellU, brF, payF, s45_4, s45_7, s45_13, s45_14, s45_16, s45_18, bI, ← Int32.not_le] at *; simp [h2, h4, eq_true h6]; done) | (simp_all [bI, h2, h4, eq_true h6, pM, pU, heldM_45, gvW_45, inW_45, livN_45, sum9_45, sum13_45, sellE, sellR, sellU, brF, payF, s45_4, s45_7, s45_13, s45_14, s45_16, s45_18]; done) | (simp_all [bI, h2, h4, eq_true h6, pM, pU, heldM_45, gvW_45, inW_45, livN_45, sum9_45, sum13_45, sellE, sellR, sellU, brF, payF, s45_4, s45_7, s45_13, s45_14, s45_16, s45_18]; rfl) | (exfalso; omega)), by first | rfl | (simp only [h2, h4, eq_true h6, pM, pU, heldM_45, gvW_45, inW_45, livN_45, sum9_45, sum13_45, sellE, sellR, sellU, brF, payF, s45_4, s45_7, s45_13, s45_14, s45_16, s45_18, bI, pM, pU, n10, n20, n30, n0, if_true, if_false, ite_true, ite_false, not_true_eq_false, not_false_eq_true, and_true, true_and, and_false, false_and, or_true, true_or, or_false, false_or, reduceIte, and_self, or_self, ne_eq, eq_self_iff_true]; first | done | rfl) | (simp [bI, h2, h4, eq_true h6, pM, pU, heldM_45, gvW_45, inW_45, livN_45, sum9_45, sum13_45, sellE, sellR, sellU, brF, payF, s45_4, s45_7, s45_13, s45_14, s45_16, s45_18]; done) | (simp only [pM, pU, heldM_45, gvW_45, inW_45, livN_45, sum9_45, sum13_45, sellE, sellR, sellU, brF, payF, s45_4, s45_7, s45_13, s45_14, s45_16, s45_18, bI, ← Int32.not_le] at *; simp [h2, h4, eq_true h6]; done) | (simp_all [bI, h2, h4, eq_true h6, pM, pU, heldM_45, gvW_45, inW_45, livN_45, sum9_45, sum13_45, sellE, sellR, sellU, brF, payF, s45_4, s45_7, s45_13, s45_14, s45_16, s45_18]; done) | (simp_all [bI, h2, h4, eq_true h6, pM, pU, heldM_45, gvW_45, inW_45, livN_45, sum9_45, sum13_45, sellE, sellR, sellU, brF, payF, s45_4, s45_7, s45_13, s45_14, s45_16, s45_18]; rfl) | (exfalso; omega), by trivial⟩
      · skip
        refine v_aload_n C dX8_sell_37 rfl 1 rfl ?_
        refine v_get C (v := .ref (a 1 13)) g_X8_35 (m0 (s := s) (t := t) (g := G.2.2.1) hL) (rg (by decide) rfl) dX8_sell_38 rfl ?_
        refine v_iload_n C dX8_sell_41 rfl 2 rfl ?_
        refine v_iald C (len := 12) (m1 (s := s) (t := t) (g := G.2.2.1) hL 13 rfl) (vp_cnt (by assumption) hm hm12 (by decide)) dX8_sell_42 rfl ?_
        refine v_aload_n C dX8_sell_43 rfl 1 rfl ?_
        refine v_get C (v := .ref (a 1 14)) g_X8_38 (m0 (s := s) (t := t) (g := G.2.2.1) hL) (rg (by decide) rfl) dX8_sell_44 rfl ?_
        refine v_iload_n C dX8_sell_47 rfl 2 rfl ?_
        refine v_iald C (len := 12) (m1 (s := s) (t := t) (g := G.2.2.1) hL 14 rfl) (vp_cnt (by assumption) hm hm12 (by decide)) dX8_sell_48 rfl ?_
        refine v_iadd C dX8_sell_49 rfl ?_
        refine v_iload_n C dX8_sell_50 rfl 3 rfl ?_
        refine v_icmp_ge C (t := 58) dX8_sell_51 rfl rfl (fun h8 => ?_) (fun h8 => ?_)
        · skip
          refine v_iconst C (v := 0) dX8_sell_58 rfl rfl ?_
          refine w_invVr C [.int (0)] 0 0 L_X8_145 (c_X8_holdsTo (s := s) (t := t)  hst hG hL 0) (m0 (s := s) (t := t) (g := G.2.2.1) hL) rfl rfl rfl rfl dX8_sell_59 rfl kx_no (fun h9 => ?_)
          refine v_ifB_ne C (t := 67) dX8_sell_62 rfl rfl (fun _ => ?_) (fun h => absurd (by decide) h)
          refine v_aload_n C dX8_sell_67 rfl 1 rfl ?_
          refine v_get C (v := .ref (a 1 13)) g_X8_35 (m0 (s := s) (t := ((su t 45 0 0))) (g := G.2.2.1) hL) (rg (by decide) rfl) dX8_sell_68 rfl ?_
          refine v_iload_n C dX8_sell_71 rfl 2 rfl ?_
          refine v_iald C (len := 12) (m1 (s := s) (t := ((su t 45 0 0))) (g := G.2.2.1) hL 13 rfl) (vp_cnt (by assumption) hm hm12 (by decide)) dX8_sell_72 rfl ?_
          refine xx_top (y := t 13 (tn x)) rfl ?_
          refine v_aload_n C dX8_sell_73 rfl 1 rfl ?_
          refine v_get C (v := .ref (a 1 14)) g_X8_38 (m0 (s := s) (t := ((su t 45 0 0))) (g := G.2.2.1) hL) (rg (by decide) rfl) dX8_sell_74 rfl ?_
          refine v_iload_n C dX8_sell_77 rfl 2 rfl ?_
          refine v_iald C (len := 12) (m1 (s := s) (t := ((su t 45 0 0))) (g := G.2.2.1) hL 14 rfl) (vp_cnt (by assumption) hm hm12 (by decide)) dX8_sell_78 rfl ?_
          refine xx_top (y := t 14 (tn x)) rfl ?_
          refine v_iadd C dX8_sell_79 rfl ?_
          refine v_istore C (lv1 := [(4, .int ((t 13 (tn x)) + (t 14 (tn x)))), (3, .int (bI ((0 : Int32) ≤ x ∧ x ≤ t 12 0 - 1))), (0, .ref (a 0 0)), (1, .int (x)), (2, .int (d))]) dX8_sell_80 rfl (by decide) rfl ?_
          refine v_bipush C (v := 20) dX8_sell_82 rfl rfl ?_
          refine v_aload_n C dX8_sell_84 rfl 2 rfl ?_
          refine v_get C (v := .ref (a 1 14)) g_X8_38 (m0 (s := s) (t := ((su t 45 0 0))) (g := G.2.2.1) hL) (rg (by decide) rfl) dX8_sell_85 rfl ?_
          refine v_iload_n C dX8_sell_88 rfl 3 rfl ?_
          refine v_iald C (len := 12) (m1 (s := s) (t := ((su t 45 0 0))) (g := G.2.2.1) hL 14 rfl) (vp_cnt (by assumption) hm hm12 (by decide)) dX8_sell_89 rfl ?_
          refine xx_top (y := t 14 (tn x)) rfl ?_
          refine v_imul C dX8_sell_90 rfl ?_
          refine v_iload C dX8_sell_91 rfl 0 rfl ?_
          refine v_icmp_le C (t := 108) dX8_sell_93 rfl rfl (fun h10 => ?_) (fun h10 => ?_)
          · skip
            refine v_iload_n C dX8_sell_108 rfl 4 rfl ?_
            refine v_i2l C dX8_sell_109 rfl ?_
            refine v_aload_n C dX8_sell_110 rfl 2 rfl ?_
            refine v_get C (v := .ref (a 1 14)) g_X8_38 (m0 (s := s) (t := ((su t 45 0 0))) (g := G.2.2.1) hL) (rg (by decide) rfl) dX8_sell_111 rfl ?_
            refine v_iload_n C dX8_sell_114 rfl 3 rfl ?_
            refine v_iald C (len := 12) (m1 (s := s) (t := ((su t 45 0 0))) (g := G.2.2.1) hL 14 rfl) (vp_cnt (by assumption) hm hm12 (by decide)) dX8_sell_115 rfl ?_
            refine xx_top (y := t 14 (tn x)) rfl ?_
            refine v_i2l C dX8_sell_116 rfl ?_
            refine v_lmul C dX8_sell_117 rfl ?_
            refine v_iload C dX8_sell_118 rfl 0 rfl ?_
            refine v_i2l C dX8_sell_120 rfl ?_
            refine v_ldiv C dX8_sell_121 rfl (i64_ne (d := d) (And.left (by assumption)) (by assumption)) ?_
            refine v_l2i C dX8_sell_122 rfl ?_
            refine v_istore C (lv1 := [(5, .int (((((d : Int32).toInt64) * ((t 14 (tn x) : Int32).toInt64)) / (((t 13 (tn x)) + (t 14 (tn x)) : Int32).toInt64)).toInt32)), (4, .int ((t 13 (tn x)) + (t 14 (tn x)))), (3, .int (bI ((0 : Int32) ≤ x ∧ x ≤ t 12 0 - 1))), (0, .ref (a 0 0)), (1, .int (x)), (2, .int (d))]) dX8_sell_123 rfl (by decide) rfl ?_
            refine v_aload_n C dX8_sell_125 rfl 3 rfl ?_
            refine v_get C (v := .ref (a 1 14)) g_X8_38 (m0 (s := s) (t := ((su t 45 0 0))) (g := G.2.2.1) hL) (rg (by decide) rfl) dX8_sell_126 rfl ?_
            refine v_iload_n C dX8_sell_129 rfl 4 rfl ?_
            refine v_dup2 C dX8_sell_130 rfl rfl rfl ?_
            refine v_iald C (len := 12) (m1 (s := s) (t := ((su t 45 0 0))) (g := G.2.2.1) hL 14 rfl) (vp_cnt (by assumption) hm hm12 (by decide)) dX8_sell_131 rfl ?_
            refine xx_top (y := t 14 (tn x)) rfl ?_
            refine v_iload C dX8_sell_132 rfl 0 rfl ?_
            refine v_isub C dX8_sell_134 rfl ?_
            refine v_iastE C (len := 12) (tn x) (put_m1 (s := s) (t := ((su t 45 0 0))) (g := G.2.2.1) hL 14 rfl (tn x) ((t 14 (tn x)) - (((((d : Int32).toInt64) * ((t 14 (tn x) : Int32).toInt64)) / (((t 13 (tn x)) + (t 14 (tn x)) : Int32).toInt64)).toInt32))) rfl (vp_cnt (by assumption) hm hm12 (by decide)) dX8_sell_135 rfl ?_
            refine v_aload_n C dX8_sell_136 rfl 3 rfl ?_
            refine v_get C (v := .ref (a 1 13)) g_X8_35 (m0 (s := s) (t := ((su (su t 45 0 0) 14 (tn x) ((t 14 (tn x)) - (((((d : Int32).toInt64) * ((t 14 (tn x) : Int32).toInt64)) / (((t 13 (tn x)) + (t 14 (tn x)) : Int32).toInt64)).toInt32))))) (g := G.2.2.1) hL) (rg (by decide) rfl) dX8_sell_137 rfl ?_
            refine v_iload_n C dX8_sell_140 rfl 4 rfl ?_
            refine v_dup2 C dX8_sell_141 rfl rfl rfl ?_
            refine v_iald C (len := 12) (m1 (s := s) (t := ((su (su t 45 0 0) 14 (tn x) ((t 14 (tn x)) - (((((d : Int32).toInt64) * ((t 14 (tn x) : Int32).toInt64)) / (((t 13 (tn x)) + (t 14 (tn x)) : Int32).toInt64)).toInt32))))) (g := G.2.2.1) hL 13 rfl) (vp_cnt (by assumption) hm hm12 (by decide)) dX8_sell_142 rfl ?_
            refine xx_top (y := t 13 (tn x)) rfl ?_
            refine v_iload_n C dX8_sell_143 rfl 5 rfl ?_
            refine v_iload C dX8_sell_144 rfl 0 rfl ?_
            refine v_isub C dX8_sell_146 rfl ?_
            refine v_isub C dX8_sell_147 rfl ?_
            refine v_iastE C (len := 12) (tn x) (put_m1 (s := s) (t := ((su (su t 45 0 0) 14 (tn x) ((t 14 (tn x)) - (((((d : Int32).toInt64) * ((t 14 (tn x) : Int32).toInt64)) / (((t 13 (tn x)) + (t 14 (tn x)) : Int32).toInt64)).toInt32))))) (g := G.2.2.1) hL 13 rfl (tn x) ((t 13 (tn x)) - (d - (((((d : Int32).toInt64) * ((t 14 (tn x) : Int32).toInt64)) / (((t 13 (tn x)) + (t 14 (tn x)) : Int32).toInt64)).toInt32)))) rfl (vp_cnt (by assumption) hm hm12 (by decide)) dX8_sell_148 rfl ?_
            refine v_aload_n C dX8_sell_149 rfl 3 rfl ?_
            refine v_dup C dX8_sell_150 rfl rfl ?_
            refine v_get C (v := .int (t 7 0)) g_X8_219 (m0 (s := s) (t := ((su (su (su t 45 0 0) 14 (tn x) ((t 14 (tn x)) - (((((d : Int32).toInt64) * ((t 14 (tn x) : Int32).toInt64)) / (((t 13 (tn x)) + (t 14 (tn x)) : Int32).toInt64)).toInt32))) 13 (tn x) ((t 13 (tn x)) - (d - (((((d : Int32).toInt64) * ((t 14 (tn x) : Int32).toInt64)) / (((t 13 (tn x)) + (t 14 (tn x)) : Int32).toInt64)).toInt32)))))) (g := G.2.2.1) hL) (rg (by decide) rfl) dX8_sell_151 rfl ?_
            refine v_iload_n C dX8_sell_154 rfl 5 rfl ?_
            refine v_iload C dX8_sell_155 rfl 0 rfl ?_
            refine v_isub C dX8_sell_157 rfl ?_
            refine v_iadd C dX8_sell_158 rfl ?_
            refine v_put C f_X8_219 (put_m0 (s := s) (t := ((su (su (su t 45 0 0) 14 (tn x) ((t 14 (tn x)) - (((((d : Int32).toInt64) * ((t 14 (tn x) : Int32).toInt64)) / (((t 13 (tn x)) + (t 14 (tn x)) : Int32).toInt64)).toInt32))) 13 (tn x) ((t 13 (tn x)) - (d - (((((d : Int32).toInt64) * ((t 14 (tn x) : Int32).toInt64)) / (((t 13 (tn x)) + (t 14 (tn x)) : Int32).toInt64)).toInt32)))))) (g := G.2.2.1) hL 7 rfl ((t 7 0) + (d - (((((d : Int32).toInt64) * ((t 14 (tn x) : Int32).toInt64)) / (((t 13 (tn x)) + (t 14 (tn x)) : Int32).toInt64)).toInt32)))) rfl rfl (rg_len (by decide)) dX8_sell_159 rfl ?_
            refine v_iload_n C dX8_sell_162 rfl 5 rfl ?_
            refine v_i2l C dX8_sell_163 rfl ?_
            refine v_aload_n C dX8_sell_164 rfl 3 rfl ?_
            refine v_get C (v := .int (t 4 0)) g_X8_19 (m0 (s := s) (t := ((su (su (su (su t 45 0 0) 14 (tn x) ((t 14 (tn x)) - (((((d : Int32).toInt64) * ((t 14 (tn x) : Int32).toInt64)) / (((t 13 (tn x)) + (t 14 (tn x)) : Int32).toInt64)).toInt32))) 13 (tn x) ((t 13 (tn x)) - (d - (((((d : Int32).toInt64) * ((t 14 (tn x) : Int32).toInt64)) / (((t 13 (tn x)) + (t 14 (tn x)) : Int32).toInt64)).toInt32)))) 7 0 ((t 7 0) + (d - (((((d : Int32).toInt64) * ((t 14 (tn x) : Int32).toInt64)) / (((t 13 (tn x)) + (t 14 (tn x)) : Int32).toInt64)).toInt32)))))) (g := G.2.2.1) hL) (rg (by decide) rfl) dX8_sell_165 rfl ?_
            refine v_i2l C dX8_sell_168 rfl ?_
            refine v_lmul C dX8_sell_169 rfl ?_
            refine v_ldc2 C (v := 10) dX8_sell_170 rfl N_X8_222 ?_
            refine v_ldiv C dX8_sell_173 rfl (by decide) ?_
            refine v_l2i C dX8_sell_174 rfl ?_
            refine v_istore C (lv1 := [(6, .int (((((d : Int32).toInt64) * ((t 4 0 : Int32).toInt64)) / 10).toInt32)), (5, .int (((((d : Int32).toInt64) * ((t 14 (tn x) : Int32).toInt64)) / (((t 13 (tn x)) + (t 14 (tn x)) : Int32).toInt64)).toInt32)), (4, .int ((t 13 (tn x)) + (t 14 (tn x)))), (3, .int (bI ((0 : Int32) ≤ x ∧ x ≤ t 12 0 - 1))), (0, .ref (a 0 0)), (1, .int (x)), (2, .int (d))]) dX8_sell_175 rfl (by decide) rfl ?_
            refine v_aload_n C dX8_sell_177 rfl 4 rfl ?_
            refine v_get C (v := .ref (a 1 16)) g_X8_44 (m0 (s := s) (t := ((su (su (su (su t 45 0 0) 14 (tn x) ((t 14 (tn x)) - (((((d : Int32).toInt64) * ((t 14 (tn x) : Int32).toInt64)) / (((t 13 (tn x)) + (t 14 (tn x)) : Int32).toInt64)).toInt32))) 13 (tn x) ((t 13 (tn x)) - (d - (((((d : Int32).toInt64) * ((t 14 (tn x) : Int32).toInt64)) / (((t 13 (tn x)) + (t 14 (tn x)) : Int32).toInt64)).toInt32)))) 7 0 ((t 7 0) + (d - (((((d : Int32).toInt64) * ((t 14 (tn x) : Int32).toInt64)) / (((t 13 (tn x)) + (t 14 (tn x)) : Int32).toInt64)).toInt32)))))) (g := G.2.2.1) hL) (rg (by decide) rfl) dX8_sell_178 rfl ?_
            refine v_iload_n C dX8_sell_181 rfl 5 rfl ?_
            refine v_dup2 C dX8_sell_182 rfl rfl rfl ?_
            refine v_iald C (len := 12) (m1 (s := s) (t := ((su (su (su (su t 45 0 0) 14 (tn x) ((t 14 (tn x)) - (((((d : Int32).toInt64) * ((t 14 (tn x) : Int32).toInt64)) / (((t 13 (tn x)) + (t 14 (tn x)) : Int32).toInt64)).toInt32))) 13 (tn x) ((t 13 (tn x)) - (d - (((((d : Int32).toInt64) * ((t 14 (tn x) : Int32).toInt64)) / (((t 13 (tn x)) + (t 14 (tn x)) : Int32).toInt64)).toInt32)))) 7 0 ((t 7 0) + (d - (((((d : Int32).toInt64) * ((t 14 (tn x) : Int32).toInt64)) / (((t 13 (tn x)) + (t 14 (tn x)) : Int32).toInt64)).toInt32)))))) (g := G.2.2.1) hL 16 rfl) (vp_cnt (by assumption) hm hm12 (by decide)) dX8_sell_183 rfl ?_
            refine xx_top (y := t 16 (tn x)) rfl ?_
            refine v_iload C dX8_sell_184 rfl 0 rfl ?_
            refine v_iadd C dX8_sell_186 rfl ?_
            refine v_iastE C (len := 12) (tn x) (put_m1 (s := s) (t := ((su (su (su (su t 45 0 0) 14 (tn x) ((t 14 (tn x)) - (((((d : Int32).toInt64) * ((t 14 (tn x) : Int32).toInt64)) / (((t 13 (tn x)) + (t 14 (tn x)) : Int32).toInt64)).toInt32))) 13 (tn x) ((t 13 (tn x)) - (d - (((((d : Int32).toInt64) * ((t 14 (tn x) : Int32).toInt64)) / (((t 13 (tn x)) + (t 14 (tn x)) : Int32).toInt64)).toInt32)))) 7 0 ((t 7 0) + (d - (((((d : Int32).toInt64) * ((t 14 (tn x) : Int32).toInt64)) / (((t 13 (tn x)) + (t 14 (tn x)) : Int32).toInt64)).toInt32)))))) (g := G.2.2.1) hL 16 rfl (tn x) ((t 16 (tn x)) + (((((d : Int32).toInt64) * ((t 4 0 : Int32).toInt64)) / 10).toInt32))) rfl (vp_cnt (by assumption) hm hm12 (by decide)) dX8_sell_187 rfl ?_
            refine v_iload C dX8_sell_188 rfl 0 rfl ?_
            exact v_iret C (by decide) (by decide) dX8_sell_190 ⟨congrArg (fun z => some (Value.int z)) (by first | rfl | (simp only [h2, h4, h6, h8, Int32.not_lt.mpr h8, h10, Int32.not_lt.mpr h10, pM, pU, heldM_45, gvW_45, inW_45, livN_45, sum9_45, sum13_45, sellE, sellR, sellU, brF, payF, s45_4, s45_7, s45_13, s45_14, s45_16, s45_18, bI, pM, pU, n10, n20, n30, n0, if_true, if_false, ite_true, ite_false, not_true_eq_false, not_false_eq_true, and_true, true_and, and_false, false_and, or_true, true_or, or_false, false_or, reduceIte, and_self, or_self, ne_eq, eq_self_iff_true]; first | done | rfl) | (simp [bI, h2, h4, h6, h8, Int32.not_lt.mpr h8, h10, Int32.not_lt.mpr h10, pM, pU, heldM_45, gvW_45, inW_45, livN_45, sum9_45, sum13_45, sellE, sellR, sellU, brF, payF, s45_4, s45_7, s45_13, s45_14, s45_16, s45_18]; done) | (simp only [pM, pU, heldM_45, gvW_45, inW_45, livN_45, sum9_45, sum13_45, sellE, sellR, sellU, brF, payF, s45_4, s45_7, s45_13, s45_14, s45_16, s45_18, bI, ← Int32.not_le] at *; simp [h2, h4, h6, h8, Int32.not_lt.mpr h8, h10, Int32.not_lt.mpr h10]; done) | (simp_all [bI, h2, h4, h6, h8, Int32.not_lt.mpr h8, h10, Int32.not_lt.mpr h10, pM, pU, heldM_45, gvW_45, inW_45, livN_45, sum9_45, sum13_45, sellE, sellR, sellU, brF, payF, s45_4, s45_7, s45_13, s45_14, s45_16, s45_18]; done) | (simp_all [bI, h2, h4, h6, h8, Int32.not_lt.mpr h8, h10, Int32.not_lt.mpr h10, pM, pU, heldM_45, gvW_45, inW_45, livN_45, sum9_45, sum13_45, sellE, sellR, sellU, brF, payF, s45_4, s45_7, s45_13, s45_14, s45_16, s45_18]; rfl) | (exfalso; omega)), by first | rfl | (simp only [h2, h4, h6, h8, Int32.not_lt.mpr h8, h10, Int32.not_lt.mpr h10, pM, pU, heldM_45, gvW_45, inW_45, livN_45, sum9_45, sum13_45, sellE, sellR, sellU, brF, payF, s45_4, s45_7, s45_13, s45_14, s45_16, s45_18, bI, pM, pU, n10, n20, n30, n0, if_true, if_false, ite_true, ite_false, not_true_eq_false, not_false_eq_true, and_true, true_and, and_false, false_and, or_true, true_or, or_false, false_or, reduceIte, and_self, or_self, ne_eq, eq_self_iff_true]; first | done | rfl) | (simp [bI, h2, h4, h6, h8, Int32.not_lt.mpr h8, h10, Int32.not_lt.mpr h10, pM, pU, heldM_45, gvW_45, inW_45, livN_45, sum9_45, sum13_45, sellE, sellR, sellU, brF, payF, s45_4, s45_7, s45_13, s45_14, s45_16, s45_18]; done) | (simp only [pM, pU, heldM_45, gvW_45, inW_45, livN_45, sum9_45, sum13_45, sellE, sellR, sellU, brF, payF, s45_4, s45_7, s45_13, s45_14, s45_16, s45_18, bI, ← Int32.not_le] at *; simp [h2, h4, h6, h8, Int32.not_lt.mpr h8, h10, Int32.not_lt.mpr h10]; done) | (simp_all [bI, h2, h4, h6, h8, Int32.not_lt.mpr h8, h10, Int32.not_lt.mpr h10, pM, pU, heldM_45, gvW_45, inW_45, livN_45, sum9_45, sum13_45, sellE, sellR, sellU, brF, payF, s45_4, s45_7, s45_13, s45_14, s45_16, s45_18]; done) | (simp_all [bI, h2, h4, h6, h8, Int32.not_lt.mpr h8, h10, Int32.not_lt.mpr h10, pM, pU, heldM_45, gvW_45, inW_45, livN_45, sum9_45, sum13_45, sellE, sellR, sellU, brF, payF, s45_4, s45_7, s45_13, s45_14, s45_16, s45_18]; rfl) | (exfalso; omega), by trivial⟩
          · skip
            refine v_aload_n C dX8_sell_96 rfl 2 rfl ?_
            refine v_get C (v := .ref (a 1 18)) g_X8_50 (m0 (s := s) (t := ((su t 45 0 0))) (g := G.2.2.1) hL) (rg (by decide) rfl) dX8_sell_97 rfl ?_
            refine v_iload_n C dX8_sell_100 rfl 3 rfl ?_
            refine v_dup2 C dX8_sell_101 rfl rfl rfl ?_
            refine v_iald C (len := 12) (m1 (s := s) (t := ((su t 45 0 0))) (g := G.2.2.1) hL 18 rfl) (vp_cnt (by assumption) hm hm12 (by decide)) dX8_sell_102 rfl ?_
            refine xx_top (y := t 18 (tn x)) rfl ?_
            refine v_iconst C (v := 1) dX8_sell_103 rfl rfl ?_
            refine v_iadd C dX8_sell_104 rfl ?_
            refine v_iastE C (len := 12) (tn x) (put_m1 (s := s) (t := ((su t 45 0 0))) (g := G.2.2.1) hL 18 rfl (tn x) ((t 18 (tn x)) + 1)) rfl (vp_cnt (by assumption) hm hm12 (by decide)) dX8_sell_105 rfl ?_
            refine v_iconst C (v := (-1)) dX8_sell_106 rfl rfl ?_
            exact v_iret C (by decide) (by decide) dX8_sell_107 ⟨congrArg (fun z => some (Value.int z)) (by first | rfl | (simp only [h2, h4, h6, h8, Int32.not_lt.mpr h8, h10, Int32.not_le.mp h10, pM, pU, heldM_45, gvW_45, inW_45, livN_45, sum9_45, sum13_45, sellE, sellR, sellU, brF, payF, s45_4, s45_7, s45_13, s45_14, s45_16, s45_18, bI, pM, pU, n10, n20, n30, n0, if_true, if_false, ite_true, ite_false, not_true_eq_false, not_false_eq_true, and_true, true_and, and_false, false_and, or_true, true_or, or_false, false_or, reduceIte, and_self, or_self, ne_eq, eq_self_iff_true]; first | done | rfl) | (simp [bI, h2, h4, h6, h8, Int32.not_lt.mpr h8, h10, Int32.not_le.mp h10, pM, pU, heldM_45, gvW_45, inW_45, livN_45, sum9_45, sum13_45, sellE, sellR, sellU, brF, payF, s45_4, s45_7, s45_13, s45_14, s45_16, s45_18]; done) | (simp only [pM, pU, heldM_45, gvW_45, inW_45, livN_45, sum9_45, sum13_45, sellE, sellR, sellU, brF, payF, s45_4, s45_7, s45_13, s45_14, s45_16, s45_18, bI, ← Int32.not_le] at *; simp [h2, h4, h6, h8, Int32.not_lt.mpr h8, h10, Int32.not_le.mp h10]; done) | (simp_all [bI, h2, h4, h6, h8, Int32.not_lt.mpr h8, h10, Int32.not_le.mp h10, pM, pU, heldM_45, gvW_45, inW_45, livN_45, sum9_45, sum13_45, sellE, sellR, sellU, brF, payF, s45_4, s45_7, s45_13, s45_14, s45_16, s45_18]; done) | (simp_all [bI, h2, h4, h6, h8, Int32.not_lt.mpr h8, h10, Int32.not_le.mp h10, pM, pU, heldM_45, gvW_45, inW_45, livN_45, sum9_45, sum13_45, sellE, sellR, sellU, brF, payF, s45_4, s45_7, s45_13, s45_14, s45_16, s45_18]; rfl) | (exfalso; omega)), by first | rfl | (simp only [h2, h4, h6, h8, Int32.not_lt.mpr h8, h10, Int32.not_le.mp h10, pM, pU, heldM_45, gvW_45, inW_45, livN_45, sum9_45, sum13_45, sellE, sellR, sellU, brF, payF, s45_4, s45_7, s45_13, s45_14, s45_16, s45_18, bI, pM, pU, n10, n20, n30, n0, if_true, if_false, ite_true, ite_false, not_true_eq_false, not_false_eq_true, and_true, true_and, and_false, false_and, or_true, true_or, or_false, false_or, reduceIte, and_self, or_self, ne_eq, eq_self_iff_true]; first | done | rfl) | (simp [bI, h2, h4, h6, h8, Int32.not_lt.mpr h8, h10, Int32.not_le.mp h10, pM, pU, heldM_45, gvW_45, inW_45, livN_45, sum9_45, sum13_45, sellE, sellR, sellU, brF, payF, s45_4, s45_7, s45_13, s45_14, s45_16, s45_18]; done) | (simp only [pM, pU, heldM_45, gvW_45, inW_45, livN_45, sum9_45, sum13_45, sellE, sellR, sellU, brF, payF, s45_4, s45_7, s45_13, s45_14, s45_16, s45_18, bI, ← Int32.not_le] at *; simp [h2, h4, h6, h8, Int32.not_lt.mpr h8, h10, Int32.not_le.mp h10]; done) | (simp_all [bI, h2, h4, h6, h8, Int32.not_lt.mpr h8, h10, Int32.not_le.mp h10, pM, pU, heldM_45, gvW_45, inW_45, livN_45, sum9_45, sum13_45, sellE, sellR, sellU, brF, payF, s45_4, s45_7, s45_13, s45_14, s45_16, s45_18]; done) | (simp_all [bI, h2, h4, h6, h8, Int32.not_lt.mpr h8, h10, Int32.not_le.mp h10, pM, pU, heldM_45, gvW_45, inW_45, livN_45, sum9_45, sum13_45, sellE, sellR, sellU, brF, payF, s45_4, s45_7, s45_13, s45_14, s45_16, s45_18]; rfl) | (exfalso; omega), by trivial⟩
        · skip
          refine v_iconst C (v := 3) dX8_sell_54 rfl rfl ?_
          refine v_goto C (q := 59) dX8_sell_55 rfl ?_
          refine w_invVr C [.int (3)] 0 0 L_X8_145 (c_X8_holdsTo (s := s) (t := t)  hst hG hL 3) (m0 (s := s) (t := t) (g := G.2.2.1) hL) rfl rfl rfl rfl dX8_sell_59 rfl kx_no (fun h11 => ?_)
          refine v_ifB_ne C (t := 67) dX8_sell_62 rfl rfl (fun h => absurd h (by decide)) (fun _ => ?_)
          refine v_iconst C (v := 0) dX8_sell_65 rfl rfl ?_
          exact v_iret C (by decide) (by decide) dX8_sell_66 ⟨congrArg (fun z => some (Value.int z)) (by first | rfl | (simp only [h2, h4, h6, h8, Int32.not_le.mp h8, pM, pU, heldM_45, gvW_45, inW_45, livN_45, sum9_45, sum13_45, sellE, sellR, sellU, brF, payF, s45_4, s45_7, s45_13, s45_14, s45_16, s45_18, bI, pM, pU, n10, n20, n30, n0, if_true, if_false, ite_true, ite_false, not_true_eq_false, not_false_eq_true, and_true, true_and, and_false, false_and, or_true, true_or, or_false, false_or, reduceIte, and_self, or_self, ne_eq, eq_self_iff_true]; first | done | rfl) | (simp [bI, h2, h4, h6, h8, Int32.not_le.mp h8, pM, pU, heldM_45, gvW_45, inW_45, livN_45, sum9_45, sum13_45, sellE, sellR, sellU, brF, payF, s45_4, s45_7, s45_13, s45_14, s45_16, s45_18]; done) | (simp only [pM, pU, heldM_45, gvW_45, inW_45, livN_45, sum9_45, sum13_45, sellE, sellR, sellU, brF, payF, s45_4, s45_7, s45_13, s45_14, s45_16, s45_18, bI, ← Int32.not_le] at *; simp [h2, h4, h6, h8, Int32.not_le.mp h8]; done) | (simp_all [bI, h2, h4, h6, h8, Int32.not_le.mp h8, pM, pU, heldM_45, gvW_45, inW_45, livN_45, sum9_45, sum13_45, sellE, sellR, sellU, brF, payF, s45_4, s45_7, s45_13, s45_14, s45_16, s45_18]; done) | (simp_all [bI, h2, h4, h6, h8, Int32.not_le.mp h8, pM, pU, heldM_45, gvW_45, inW_45, livN_45, sum9_45, sum13_45, sellE, sellR, sellU, brF, payF, s45_4, s45_7, s45_13, s45_14, s45_16, s45_18]; rfl) | (exfalso; omega)), by first | rfl | (simp only [h2, h4, h6, h8, Int32.not_le.mp h8, pM, pU, heldM_45, gvW_45, inW_45, livN_45, sum9_45, sum13_45, sellE, sellR, sellU, brF, payF, s45_4, s45_7, s45_13, s45_14, s45_16, s45_18, bI, pM, pU, n10, n20, n30, n0, if_true, if_false, ite_true, ite_false, not_true_eq_false, not_false_eq_true, and_true, true_and, and_false, false_and, or_true, true_or, or_false, false_or, reduceIte, and_self, or_self, ne_eq, eq_self_iff_true]; first | done | rfl) | (simp [bI, h2, h4, h6, h8, Int32.not_le.mp h8, pM, pU, heldM_45, gvW_45, inW_45, livN_45, sum9_45, sum13_45, sellE, sellR, sellU, brF, payF, s45_4, s45_7, s45_13, s45_14, s45_16, s45_18]; done) | (simp only [pM, pU, heldM_45, gvW_45, inW_45, livN_45, sum9_45, sum13_45, sellE, sellR, sellU, brF, payF, s45_4, s45_7, s45_13, s45_14, s45_16, s45_18, bI, ← Int32.not_le] at *; simp [h2, h4, h6, h8, Int32.not_le.mp h8]; done) | (simp_all [bI, h2, h4, h6, h8, Int32.not_le.mp h8, pM, pU, heldM_45, gvW_45, inW_45, livN_45, sum9_45, sum13_45, sellE, sellR, sellU, brF, payF, s45_4, s45_7, s45_13, s45_14, s45_16, s45_18]; done) | (simp_all [bI, h2, h4, h6, h8, Int32.not_le.mp h8, pM, pU, heldM_45, gvW_45, inW_45, livN_45, sum9_45, sum13_45, sellE, sellR, sellU, brF, payF, s45_4, s45_7, s45_13, s45_14, s45_16, s45_18]; rfl) | (exfalso; omega), by trivial⟩
    · skip
      refine v_iconst C (v := 2) dX8_sell_25 rfl rfl ?_
      refine v_goto C (q := 59) dX8_sell_26 rfl ?_
      refine w_invVr C [.int (2)] 0 0 L_X8_145 (c_X8_holdsTo (s := s) (t := t)  hst hG hL 2) (m0 (s := s) (t := t) (g := G.2.2.1) hL) rfl rfl rfl rfl dX8_sell_59 rfl kx_no (fun h12 => ?_)
      refine v_ifB_ne C (t := 67) dX8_sell_62 rfl rfl (fun h => absurd h (by decide)) (fun _ => ?_)
      refine v_iconst C (v := 0) dX8_sell_65 rfl rfl ?_
      exact v_iret C (by decide) (by decide) dX8_sell_66 ⟨congrArg (fun z => some (Value.int z)) (by first | rfl | (simp only [h2, h4, pM, pU, heldM_45, gvW_45, inW_45, livN_45, sum9_45, sum13_45, sellE, sellR, sellU, brF, payF, s45_4, s45_7, s45_13, s45_14, s45_16, s45_18, bI, pM, pU, n10, n20, n30, n0, if_true, if_false, ite_true, ite_false, not_true_eq_false, not_false_eq_true, and_true, true_and, and_false, false_and, or_true, true_or, or_false, false_or, reduceIte, and_self, or_self, ne_eq, eq_self_iff_true]; first | done | rfl) | (simp [bI, h2, h4, pM, pU, heldM_45, gvW_45, inW_45, livN_45, sum9_45, sum13_45, sellE, sellR, sellU, brF, payF, s45_4, s45_7, s45_13, s45_14, s45_16, s45_18]; done) | (simp only [pM, pU, heldM_45, gvW_45, inW_45, livN_45, sum9_45, sum13_45, sellE, sellR, sellU, brF, payF, s45_4, s45_7, s45_13, s45_14, s45_16, s45_18, bI, ← Int32.not_le] at *; simp [h2, h4]; done) | (simp_all [bI, h2, h4, pM, pU, heldM_45, gvW_45, inW_45, livN_45, sum9_45, sum13_45, sellE, sellR, sellU, brF, payF, s45_4, s45_7, s45_13, s45_14, s45_16, s45_18]; done) | (simp_all [bI, h2, h4, pM, pU, heldM_45, gvW_45, inW_45, livN_45, sum9_45, sum13_45, sellE, sellR, sellU, brF, payF, s45_4, s45_7, s45_13, s45_14, s45_16, s45_18]; rfl) | (exfalso; omega)), by first | rfl | (simp only [h2, h4, pM, pU, heldM_45, gvW_45, inW_45, livN_45, sum9_45, sum13_45, sellE, sellR, sellU, brF, payF, s45_4, s45_7, s45_13, s45_14, s45_16, s45_18, bI, pM, pU, n10, n20, n30, n0, if_true, if_false, ite_true, ite_false, not_true_eq_false, not_false_eq_true, and_true, true_and, and_false, false_and, or_true, true_or, or_false, false_or, reduceIte, and_self, or_self, ne_eq, eq_self_iff_true]; first | done | rfl) | (simp [bI, h2, h4, pM, pU, heldM_45, gvW_45, inW_45, livN_45, sum9_45, sum13_45, sellE, sellR, sellU, brF, payF, s45_4, s45_7, s45_13, s45_14, s45_16, s45_18]; done) | (simp only [pM, pU, heldM_45, gvW_45, inW_45, livN_45, sum9_45, sum13_45, sellE, sellR, sellU, brF, payF, s45_4, s45_7, s45_13, s45_14, s45_16, s45_18, bI, ← Int32.not_le] at *; simp [h2, h4]; done) | (simp_all [bI, h2, h4, pM, pU, heldM_45, gvW_45, inW_45, livN_45, sum9_45, sum13_45, sellE, sellR, sellU, brF, payF, s45_4, s45_7, s45_13, s45_14, s45_16, s45_18]; done) | (simp_all [bI, h2, h4, pM, pU, heldM_45, gvW_45, inW_45, livN_45, sum9_45, sum13_45, sellE, sellR, sellU, brF, payF, s45_4, s45_7, s45_13, s45_14, s45_16, s45_18]; rfl) | (exfalso; omega), by trivial⟩
  · skip
    refine v_iconst C (v := 1) dX8_sell_11 rfl rfl ?_
    refine v_goto C (q := 59) dX8_sell_12 rfl ?_
    refine w_invVr C [.int (1)] 0 0 L_X8_145 (c_X8_holdsTo (s := s) (t := t)  hst hG hL 1) (m0 (s := s) (t := t) (g := G.2.2.1) hL) rfl rfl rfl rfl dX8_sell_59 rfl kx_no (fun h13 => ?_)
    refine v_ifB_ne C (t := 67) dX8_sell_62 rfl rfl (fun h => absurd h (by decide)) (fun _ => ?_)
    refine v_iconst C (v := 0) dX8_sell_65 rfl rfl ?_
    exact v_iret C (by decide) (by decide) dX8_sell_66 ⟨congrArg (fun z => some (Value.int z)) (by first | rfl | (simp only [h2, pM, pU, heldM_45, gvW_45, inW_45, livN_45, sum9_45, sum13_45, sellE, sellR, sellU, brF, payF, s45_4, s45_7, s45_13, s45_14, s45_16, s45_18, bI, pM, pU, n10, n20, n30, n0, if_true, if_false, ite_true, ite_false, not_true_eq_false, not_false_eq_true, and_true, true_and, and_false, false_and, or_true, true_or, or_false, false_or, reduceIte, and_self, or_self, ne_eq, eq_self_iff_true]; first | done | rfl) | (simp [bI, h2, pM, pU, heldM_45, gvW_45, inW_45, livN_45, sum9_45, sum13_45, sellE, sellR, sellU, brF, payF, s45_4, s45_7, s45_13, s45_14, s45_16, s45_18]; done) | (simp only [pM, pU, heldM_45, gvW_45, inW_45, livN_45, sum9_45, sum13_45, sellE, sellR, sellU, brF, payF, s45_4, s45_7, s45_13, s45_14, s45_16, s45_18, bI, ← Int32.not_le] at *; simp [h2]; done) | (simp_all [bI, h2, pM, pU, heldM_45, gvW_45, inW_45, livN_45, sum9_45, sum13_45, sellE, sellR, sellU, brF, payF, s45_4, s45_7, s45_13, s45_14, s45_16, s45_18]; done) | (simp_all [bI, h2, pM, pU, heldM_45, gvW_45, inW_45, livN_45, sum9_45, sum13_45, sellE, sellR, sellU, brF, payF, s45_4, s45_7, s45_13, s45_14, s45_16, s45_18]; rfl) | (exfalso; omega)), by first | rfl | (simp only [h2, pM, pU, heldM_45, gvW_45, inW_45, livN_45, sum9_45, sum13_45, sellE, sellR, sellU, brF, payF, s45_4, s45_7, s45_13, s45_14, s45_16, s45_18, bI, pM, pU, n10, n20, n30, n0, if_true, if_false, ite_true, ite_false, not_true_eq_false, not_false_eq_true, and_true, true_and, and_false, false_and, or_true, true_or, or_false, false_or, reduceIte, and_self, or_self, ne_eq, eq_self_iff_true]; first | done | rfl) | (simp [bI, h2, pM, pU, heldM_45, gvW_45, inW_45, livN_45, sum9_45, sum13_45, sellE, sellR, sellU, brF, payF, s45_4, s45_7, s45_13, s45_14, s45_16, s45_18]; done) | (simp only [pM, pU, heldM_45, gvW_45, inW_45, livN_45, sum9_45, sum13_45, sellE, sellR, sellU, brF, payF, s45_4, s45_7, s45_13, s45_14, s45_16, s45_18, bI, ← Int32.not_le] at *; simp [h2]; done) | (simp_all [bI, h2, pM, pU, heldM_45, gvW_45, inW_45, livN_45, sum9_45, sum13_45, sellE, sellR, sellU, brF, payF, s45_4, s45_7, s45_13, s45_14, s45_16, s45_18]; done) | (simp_all [bI, h2, pM, pU, heldM_45, gvW_45, inW_45, livN_45, sum9_45, sum13_45, sellE, sellR, sellU, brF, payF, s45_4, s45_7, s45_13, s45_14, s45_16, s45_18]; rfl) | (exfalso; omega), by trivial⟩

abbrev r_X8_trade : Room := { frames := 2, cells := 0, slots := 0, locals := 43 }
set_option maxRecDepth 4000 in
theorem c_X8_trade {l : Launch} {G : GG} {a : AD} {s t s0 : SS} {L : List (Nat × Nat)} {nm : Nat} {nc : Nat} (hst : l.stackTraces = false) (hG : GOK G) (hL : Live L s0) (c : Int32) (b : Int32) (m : Int32) (hm : t 12 0 = nI nm) (hm12 : nm ≤ 12) (hc : t 21 0 = nI nc) (hc30 : nc ≤ 30) (hco : ∀ i, i < nc → vp_in (t 22 i) nm) : Mth l yX8_trade cX8_trade 6 (Option.some Jvm.ClassFile.FieldType.int) r_X8_trade G (wl a (E G.2.2.1 a s t) L) [.ref (a 0 0), .int c, .int b, .int m] (RI (.int (pM (tradeE t c b m) (tradeR t c b m))) (wl a (E G.2.2.1 a s (pU (tradeE t c b m) (tradeU (su t 45 0 0) c b m) t)) L) (True)) nX := by
  refine mth_of rfl (Nat.le_of_ble_eq_true rfl) hst hG (fun X hX C0 => ?_)
  subst hX
  have C : Cx X G cX8_trade 6 RX8 (Option.some Jvm.ClassFile.FieldType.int) r_X8_trade "trade" [] := C0
  clear C0
  show V X G 6 _ 0 0 _ 0 [(0, .ref (a 0 0)), (1, .int (c)), (2, .int (b)), (3, .int (m))] []
  refine v_aload_n C dX8_trade_0 rfl 0 rfl ?_
  refine v_iload_n C dX8_trade_1 rfl 1 rfl ?_
  refine w_invVr C [.int (c)] 0 0 L_X8_230 (c_X8_isClaim (s := s) (t := t)  hst hG hL c) (m0 (s := s) (t := t) (g := G.2.2.1) hL) rfl rfl rfl rfl dX8_trade_2 rfl kx_no (fun h1 => ?_)
  refine v_ifB_eq C (t := 20) dX8_trade_5 rfl rfl (fun h2 => ?_) (fun h2 => ?_)
  · skip
    refine v_iconst C (v := 0) dX8_trade_20 rfl rfl ?_
    refine v_istore C (lv1 := [(4, .int (0)), (0, .ref (a 0 0)), (1, .int (c)), (2, .int (b)), (3, .int (m))]) dX8_trade_21 rfl (by decide) rfl ?_
    refine v_iload C dX8_trade_23 rfl 0 rfl ?_
    refine v_if_eq C (t := 52) dX8_trade_25 rfl rfl (fun _ => ?_) (fun h => absurd h (by decide))
    refine v_iconst C (v := 0) dX8_trade_52 rfl rfl ?_
    refine v_istore C (lv1 := [(5, .int (0)), (4, .int (0)), (0, .ref (a 0 0)), (1, .int (c)), (2, .int (b)), (3, .int (m))]) dX8_trade_53 rfl (by decide) rfl ?_
    refine v_aload_n C dX8_trade_55 rfl 2 rfl ?_
    refine v_iload C dX8_trade_56 rfl 1 rfl ?_
    refine v_if_ne C (t := 65) dX8_trade_58 rfl rfl (fun h => absurd h (by decide)) (fun _ => ?_)
    refine v_iconst C (v := 1) dX8_trade_61 rfl rfl ?_
    refine v_goto C (q := 106) dX8_trade_62 rfl ?_
    refine w_invVr C [.int (1)] 0 0 L_X8_145 (c_X8_holdsTo (s := s) (t := t)  hst hG hL 1) (m0 (s := s) (t := t) (g := G.2.2.1) hL) rfl rfl rfl rfl dX8_trade_106 rfl kx_no (fun h3 => ?_)
    refine v_ifB_ne C (t := 114) dX8_trade_109 rfl rfl (fun h => absurd h (by decide)) (fun _ => ?_)
    refine v_iconst C (v := 0) dX8_trade_112 rfl rfl ?_
    exact v_iret C (by decide) (by decide) dX8_trade_113 ⟨congrArg (fun z => some (Value.int z)) (by first | rfl | (simp only [h2, pM, pU, heldM_45, gvW_45, inW_45, livN_45, sum9_45, sum13_45, tradeE, tradeR, tradeU, bI, pM, pU, n10, n20, n30, n0, if_true, if_false, ite_true, ite_false, not_true_eq_false, not_false_eq_true, and_true, true_and, and_false, false_and, or_true, true_or, or_false, false_or, reduceIte, and_self, or_self, ne_eq, eq_self_iff_true]; first | done | rfl) | (simp [bI, h2, pM, pU, heldM_45, gvW_45, inW_45, livN_45, sum9_45, sum13_45, tradeE, tradeR, tradeU]; done) | (simp only [pM, pU, heldM_45, gvW_45, inW_45, livN_45, sum9_45, sum13_45, tradeE, tradeR, tradeU, bI, ← Int32.not_le] at *; simp [h2]; done) | (simp_all [bI, h2, pM, pU, heldM_45, gvW_45, inW_45, livN_45, sum9_45, sum13_45, tradeE, tradeR, tradeU]; done) | (simp_all [bI, h2, pM, pU, heldM_45, gvW_45, inW_45, livN_45, sum9_45, sum13_45, tradeE, tradeR, tradeU]; rfl) | (exfalso; omega)), by first | rfl | (simp only [h2, pM, pU, heldM_45, gvW_45, inW_45, livN_45, sum9_45, sum13_45, tradeE, tradeR, tradeU, bI, pM, pU, n10, n20, n30, n0, if_true, if_false, ite_true, ite_false, not_true_eq_false, not_false_eq_true, and_true, true_and, and_false, false_and, or_true, true_or, or_false, false_or, reduceIte, and_self, or_self, ne_eq, eq_self_iff_true]; first | done | rfl) | (simp [bI, h2, pM, pU, heldM_45, gvW_45, inW_45, livN_45, sum9_45, sum13_45, tradeE, tradeR, tradeU]; done) | (simp only [pM, pU, heldM_45, gvW_45, inW_45, livN_45, sum9_45, sum13_45, tradeE, tradeR, tradeU, bI, ← Int32.not_le] at *; simp [h2]; done) | (simp_all [bI, h2, pM, pU, heldM_45, gvW_45, inW_45, livN_45, sum9_45, sum13_45, tradeE, tradeR, tradeU]; done) | (simp_all [bI, h2, pM, pU, heldM_45, gvW_45, inW_45, livN_45, sum9_45, sum13_45, tradeE, tradeR, tradeU]; rfl) | (exfalso; omega), by trivial⟩
  · skip
    refine v_aload_n C dX8_trade_8 rfl 0 rfl ?_
    refine v_iload_n C dX8_trade_9 rfl 2 rfl ?_
    refine w_invVr C [.int (b)] 0 0 L_X8_176 (c_X8_isMiner (s := s) (t := t)  hst hG hL b) (m0 (s := s) (t := t) (g := G.2.2.1) hL) rfl rfl rfl rfl dX8_trade_10 rfl kx_no (fun h4 => ?_)
    refine v_ifB_eq C (t := 20) dX8_trade_13 rfl rfl (fun h5 => ?_) (fun h5 => ?_)
    · skip
      refine v_iconst C (v := 0) dX8_trade_20 rfl rfl ?_
      refine v_istore C (lv1 := [(4, .int (0)), (0, .ref (a 0 0)), (1, .int (c)), (2, .int (b)), (3, .int (m))]) dX8_trade_21 rfl (by decide) rfl ?_
      refine v_iload C dX8_trade_23 rfl 0 rfl ?_
      refine v_if_eq C (t := 52) dX8_trade_25 rfl rfl (fun _ => ?_) (fun h => absurd h (by decide))
      refine v_iconst C (v := 0) dX8_trade_52 rfl rfl ?_
      refine v_istore C (lv1 := [(5, .int (0)), (4, .int (0)), (0, .ref (a 0 0)), (1, .int (c)), (2, .int (b)), (3, .int (m))]) dX8_trade_53 rfl (by decide) rfl ?_
      refine v_aload_n C dX8_trade_55 rfl 2 rfl ?_
      refine v_iload C dX8_trade_56 rfl 1 rfl ?_
      refine v_if_ne C (t := 65) dX8_trade_58 rfl rfl (fun h => absurd h (by decide)) (fun _ => ?_)
      refine v_iconst C (v := 1) dX8_trade_61 rfl rfl ?_
      refine v_goto C (q := 106) dX8_trade_62 rfl ?_
      refine w_invVr C [.int (1)] 0 0 L_X8_145 (c_X8_holdsTo (s := s) (t := t)  hst hG hL 1) (m0 (s := s) (t := t) (g := G.2.2.1) hL) rfl rfl rfl rfl dX8_trade_106 rfl kx_no (fun h6 => ?_)
      refine v_ifB_ne C (t := 114) dX8_trade_109 rfl rfl (fun h => absurd h (by decide)) (fun _ => ?_)
      refine v_iconst C (v := 0) dX8_trade_112 rfl rfl ?_
      exact v_iret C (by decide) (by decide) dX8_trade_113 ⟨congrArg (fun z => some (Value.int z)) (by first | rfl | (simp only [h2, h5, pM, pU, heldM_45, gvW_45, inW_45, livN_45, sum9_45, sum13_45, tradeE, tradeR, tradeU, bI, pM, pU, n10, n20, n30, n0, if_true, if_false, ite_true, ite_false, not_true_eq_false, not_false_eq_true, and_true, true_and, and_false, false_and, or_true, true_or, or_false, false_or, reduceIte, and_self, or_self, ne_eq, eq_self_iff_true]; first | done | rfl) | (simp [bI, h2, h5, pM, pU, heldM_45, gvW_45, inW_45, livN_45, sum9_45, sum13_45, tradeE, tradeR, tradeU]; done) | (simp only [pM, pU, heldM_45, gvW_45, inW_45, livN_45, sum9_45, sum13_45, tradeE, tradeR, tradeU, bI, ← Int32.not_le] at *; simp [h2, h5]; done) | (simp_all [bI, h2, h5, pM, pU, heldM_45, gvW_45, inW_45, livN_45, sum9_45, sum13_45, tradeE, tradeR, tradeU]; done) | (simp_all [bI, h2, h5, pM, pU, heldM_45, gvW_45, inW_45, livN_45, sum9_45, sum13_45, tradeE, tradeR, tradeU]; rfl) | (exfalso; omega)), by first | rfl | (simp only [h2, h5, pM, pU, heldM_45, gvW_45, inW_45, livN_45, sum9_45, sum13_45, tradeE, tradeR, tradeU, bI, pM, pU, n10, n20, n30, n0, if_true, if_false, ite_true, ite_false, not_true_eq_false, not_false_eq_true, and_true, true_and, and_false, false_and, or_true, true_or, or_false, false_or, reduceIte, and_self, or_self, ne_eq, eq_self_iff_true]; first | done | rfl) | (simp [bI, h2, h5, pM, pU, heldM_45, gvW_45, inW_45, livN_45, sum9_45, sum13_45, tradeE, tradeR, tradeU]; done) | (simp only [pM, pU, heldM_45, gvW_45, inW_45, livN_45, sum9_45, sum13_45, tradeE, tradeR, tradeU, bI, ← Int32.not_le] at *; simp [h2, h5]; done) | (simp_all [bI, h2, h5, pM, pU, heldM_45, gvW_45, inW_45, livN_45, sum9_45, sum13_45, tradeE, tradeR, tradeU]; done) | (simp_all [bI, h2, h5, pM, pU, heldM_45, gvW_45, inW_45, livN_45, sum9_45, sum13_45, tradeE, tradeR, tradeU]; rfl) | (exfalso; omega), by trivial⟩
    · skip
      refine v_iconst C (v := 1) dX8_trade_16 rfl rfl ?_
      refine v_goto C (q := 21) dX8_trade_17 rfl ?_
      refine v_istore C (lv1 := [(4, .int (1)), (0, .ref (a 0 0)), (1, .int (c)), (2, .int (b)), (3, .int (m))]) dX8_trade_21 rfl (by decide) rfl ?_
      refine v_iload C dX8_trade_23 rfl 0 rfl ?_
      refine v_if_eq C (t := 52) dX8_trade_25 rfl rfl (fun h => absurd h (by decide)) (fun _ => ?_)
      refine v_iload_n C dX8_trade_28 rfl 4 rfl ?_
      refine v_iconst C (v := 0) dX8_trade_29 rfl rfl ?_
      refine v_ldc C (v := 100000) dX8_trade_30 rfl N_X8_133 ?_
      refine w_invSr C [.int (m), .int (0), .int (100000)] 0 0 L_X8_123 (c_X8_isIn (s := s) (t := t)  hst hG hL m 0 100000) rfl rfl rfl dX8_trade_32 rfl kx_no (fun h7 => ?_)
      refine v_ifB_eq C (t := 52) dX8_trade_35 rfl rfl (fun h8 => ?_) (fun h8 => ?_)
      · skip
        refine v_iconst C (v := 0) dX8_trade_52 rfl rfl ?_
        refine v_istore C (lv1 := [(5, .int (0)), (4, .int (1)), (0, .ref (a 0 0)), (1, .int (c)), (2, .int (b)), (3, .int (m))]) dX8_trade_53 rfl (by decide) rfl ?_
        refine v_aload_n C dX8_trade_55 rfl 2 rfl ?_
        refine v_iload C dX8_trade_56 rfl 1 rfl ?_
        refine v_if_ne C (t := 65) dX8_trade_58 rfl rfl (fun _ => ?_) (fun h => absurd h (by decide))
        refine v_iload C dX8_trade_65 rfl 0 rfl ?_
        refine v_if_ne C (t := 74) dX8_trade_67 rfl rfl (fun h => absurd h (by decide)) (fun _ => ?_)
        refine v_iconst C (v := 2) dX8_trade_70 rfl rfl ?_
        refine v_goto C (q := 106) dX8_trade_71 rfl ?_
        refine w_invVr C [.int (2)] 0 0 L_X8_145 (c_X8_holdsTo (s := s) (t := t)  hst hG hL 2) (m0 (s := s) (t := t) (g := G.2.2.1) hL) rfl rfl rfl rfl dX8_trade_106 rfl kx_no (fun h9 => ?_)
        refine v_ifB_ne C (t := 114) dX8_trade_109 rfl rfl (fun h => absurd h (by decide)) (fun _ => ?_)
        refine v_iconst C (v := 0) dX8_trade_112 rfl rfl ?_
        exact v_iret C (by decide) (by decide) dX8_trade_113 ⟨congrArg (fun z => some (Value.int z)) (by first | rfl | (simp only [h2, h5, h8, pM, pU, heldM_45, gvW_45, inW_45, livN_45, sum9_45, sum13_45, tradeE, tradeR, tradeU, bI, pM, pU, n10, n20, n30, n0, if_true, if_false, ite_true, ite_false, not_true_eq_false, not_false_eq_true, and_true, true_and, and_false, false_and, or_true, true_or, or_false, false_or, reduceIte, and_self, or_self, ne_eq, eq_self_iff_true]; first | done | rfl) | (simp [bI, h2, h5, h8, pM, pU, heldM_45, gvW_45, inW_45, livN_45, sum9_45, sum13_45, tradeE, tradeR, tradeU]; done) | (simp only [pM, pU, heldM_45, gvW_45, inW_45, livN_45, sum9_45, sum13_45, tradeE, tradeR, tradeU, bI, ← Int32.not_le] at *; simp [h2, h5, h8]; done) | (simp_all [bI, h2, h5, h8, pM, pU, heldM_45, gvW_45, inW_45, livN_45, sum9_45, sum13_45, tradeE, tradeR, tradeU]; done) | (simp_all [bI, h2, h5, h8, pM, pU, heldM_45, gvW_45, inW_45, livN_45, sum9_45, sum13_45, tradeE, tradeR, tradeU]; rfl) | (exfalso; omega)), by first | rfl | (simp only [h2, h5, h8, pM, pU, heldM_45, gvW_45, inW_45, livN_45, sum9_45, sum13_45, tradeE, tradeR, tradeU, bI, pM, pU, n10, n20, n30, n0, if_true, if_false, ite_true, ite_false, not_true_eq_false, not_false_eq_true, and_true, true_and, and_false, false_and, or_true, true_or, or_false, false_or, reduceIte, and_self, or_self, ne_eq, eq_self_iff_true]; first | done | rfl) | (simp [bI, h2, h5, h8, pM, pU, heldM_45, gvW_45, inW_45, livN_45, sum9_45, sum13_45, tradeE, tradeR, tradeU]; done) | (simp only [pM, pU, heldM_45, gvW_45, inW_45, livN_45, sum9_45, sum13_45, tradeE, tradeR, tradeU, bI, ← Int32.not_le] at *; simp [h2, h5, h8]; done) | (simp_all [bI, h2, h5, h8, pM, pU, heldM_45, gvW_45, inW_45, livN_45, sum9_45, sum13_45, tradeE, tradeR, tradeU]; done) | (simp_all [bI, h2, h5, h8, pM, pU, heldM_45, gvW_45, inW_45, livN_45, sum9_45, sum13_45, tradeE, tradeR, tradeU]; rfl) | (exfalso; omega), by trivial⟩
      · skip
        refine v_iload_n C dX8_trade_38 rfl 3 rfl ?_
        refine v_aload_n C dX8_trade_39 rfl 1 rfl ?_
        refine v_get C (v := .ref (a 1 22)) g_X8_59 (m0 (s := s) (t := t) (g := G.2.2.1) hL) (rg (by decide) rfl) dX8_trade_40 rfl ?_
        refine v_iload_n C dX8_trade_43 rfl 2 rfl ?_
        refine v_iald C (len := 30) (m1 (s := s) (t := t) (g := G.2.2.1) hL 22 rfl) (vp_cnt (by assumption) hc hc30 (by decide)) dX8_trade_44 rfl ?_
        refine v_icmp_eq C (t := 52) dX8_trade_45 rfl rfl (fun h10 => ?_) (fun h10 => ?_)
        · skip
          refine v_iconst C (v := 0) dX8_trade_52 rfl rfl ?_
          refine v_istore C (lv1 := [(5, .int (0)), (4, .int (1)), (0, .ref (a 0 0)), (1, .int (c)), (2, .int (b)), (3, .int (m))]) dX8_trade_53 rfl (by decide) rfl ?_
          refine v_aload_n C dX8_trade_55 rfl 2 rfl ?_
          refine v_iload C dX8_trade_56 rfl 1 rfl ?_
          refine v_if_ne C (t := 65) dX8_trade_58 rfl rfl (fun _ => ?_) (fun h => absurd h (by decide))
          refine v_iload C dX8_trade_65 rfl 0 rfl ?_
          refine v_if_ne C (t := 74) dX8_trade_67 rfl rfl (fun h => absurd h (by decide)) (fun _ => ?_)
          refine v_iconst C (v := 2) dX8_trade_70 rfl rfl ?_
          refine v_goto C (q := 106) dX8_trade_71 rfl ?_
          refine w_invVr C [.int (2)] 0 0 L_X8_145 (c_X8_holdsTo (s := s) (t := t)  hst hG hL 2) (m0 (s := s) (t := t) (g := G.2.2.1) hL) rfl rfl rfl rfl dX8_trade_106 rfl kx_no (fun h11 => ?_)
          refine v_ifB_ne C (t := 114) dX8_trade_109 rfl rfl (fun h => absurd h (by decide)) (fun _ => ?_)
          refine v_iconst C (v := 0) dX8_trade_112 rfl rfl ?_
          exact v_iret C (by decide) (by decide) dX8_trade_113 ⟨congrArg (fun z => some (Value.int z)) (by first | rfl | (simp only [h2, h5, h8, eq_true h10, pM, pU, heldM_45, gvW_45, inW_45, livN_45, sum9_45, sum13_45, tradeE, tradeR, tradeU, bI, pM, pU, n10, n20, n30, n0, if_true, if_false, ite_true, ite_false, not_true_eq_false, not_false_eq_true, and_true, true_and, and_false, false_and, or_true, true_or, or_false, false_or, reduceIte, and_self, or_self, ne_eq, eq_self_iff_true]; first | done | rfl) | (simp [bI, h2, h5, h8, eq_true h10, pM, pU, heldM_45, gvW_45, inW_45, livN_45, sum9_45, sum13_45, tradeE, tradeR, tradeU]; done) | (simp only [pM, pU, heldM_45, gvW_45, inW_45, livN_45, sum9_45, sum13_45, tradeE, tradeR, tradeU, bI, ← Int32.not_le] at *; simp [h2, h5, h8, eq_true h10]; done) | (simp_all [bI, h2, h5, h8, eq_true h10, pM, pU, heldM_45, gvW_45, inW_45, livN_45, sum9_45, sum13_45, tradeE, tradeR, tradeU]; done) | (simp_all [bI, h2, h5, h8, eq_true h10, pM, pU, heldM_45, gvW_45, inW_45, livN_45, sum9_45, sum13_45, tradeE, tradeR, tradeU]; rfl) | (exfalso; omega)), by first | rfl | (simp only [h2, h5, h8, eq_true h10, pM, pU, heldM_45, gvW_45, inW_45, livN_45, sum9_45, sum13_45, tradeE, tradeR, tradeU, bI, pM, pU, n10, n20, n30, n0, if_true, if_false, ite_true, ite_false, not_true_eq_false, not_false_eq_true, and_true, true_and, and_false, false_and, or_true, true_or, or_false, false_or, reduceIte, and_self, or_self, ne_eq, eq_self_iff_true]; first | done | rfl) | (simp [bI, h2, h5, h8, eq_true h10, pM, pU, heldM_45, gvW_45, inW_45, livN_45, sum9_45, sum13_45, tradeE, tradeR, tradeU]; done) | (simp only [pM, pU, heldM_45, gvW_45, inW_45, livN_45, sum9_45, sum13_45, tradeE, tradeR, tradeU, bI, ← Int32.not_le] at *; simp [h2, h5, h8, eq_true h10]; done) | (simp_all [bI, h2, h5, h8, eq_true h10, pM, pU, heldM_45, gvW_45, inW_45, livN_45, sum9_45, sum13_45, tradeE, tradeR, tradeU]; done) | (simp_all [bI, h2, h5, h8, eq_true h10, pM, pU, heldM_45, gvW_45, inW_45, livN_45, sum9_45, sum13_45, tradeE, tradeR, tradeU]; rfl) | (exfalso; omega), by trivial⟩
        · skip
          refine v_iconst C (v := 1) dX8_trade_48 rfl rfl ?_
          refine v_goto C (q := 53) dX8_trade_49 rfl ?_
          refine v_istore C (lv1 := [(5, .int (1)), (4, .int (1)), (0, .ref (a 0 0)), (1, .int (c)), (2, .int (b)), (3, .int (m))]) dX8_trade_53 rfl (by decide) rfl ?_
          refine v_aload_n C dX8_trade_55 rfl 2 rfl ?_
          refine v_iload C dX8_trade_56 rfl 1 rfl ?_
          refine v_if_ne C (t := 65) dX8_trade_58 rfl rfl (fun _ => ?_) (fun h => absurd h (by decide))
          refine v_iload C dX8_trade_65 rfl 0 rfl ?_
          refine v_if_ne C (t := 74) dX8_trade_67 rfl rfl (fun _ => ?_) (fun h => absurd h (by decide))
          refine v_aload_n C dX8_trade_74 rfl 2 rfl ?_
          refine v_get C (v := .ref (a 1 25)) g_X8_68 (m0 (s := s) (t := t) (g := G.2.2.1) hL) (rg (by decide) rfl) dX8_trade_75 rfl ?_
          refine v_iload_n C dX8_trade_78 rfl 3 rfl ?_
          refine v_zald C (len := 30) (m1 (s := s) (t := t) (g := G.2.2.1) hL 25 rfl) (vp_cnt (by assumption) hc hc30 (by decide)) dX8_trade_79 rfl ?_
          refine v_if_eq C (t := 101) dX8_trade_80 rfl rfl (fun h12 => ?_) (fun h12 => ?_)
          · skip
            refine v_iconst C (v := 3) dX8_trade_101 rfl rfl ?_
            refine v_goto C (q := 106) dX8_trade_102 rfl ?_
            refine w_invVr C [.int (3)] 0 0 L_X8_145 (c_X8_holdsTo (s := s) (t := t)  hst hG hL 3) (m0 (s := s) (t := t) (g := G.2.2.1) hL) rfl rfl rfl rfl dX8_trade_106 rfl kx_no (fun h13 => ?_)
            refine v_ifB_ne C (t := 114) dX8_trade_109 rfl rfl (fun h => absurd h (by decide)) (fun _ => ?_)
            refine v_iconst C (v := 0) dX8_trade_112 rfl rfl ?_
            exact v_iret C (by decide) (by decide) dX8_trade_113 ⟨congrArg (fun z => some (Value.int z)) (by first | rfl | (simp only [h2, h5, h8, h10, eq_true h12, pM, pU, heldM_45, gvW_45, inW_45, livN_45, sum9_45, sum13_45, tradeE, tradeR, tradeU, bI, pM, pU, n10, n20, n30, n0, if_true, if_false, ite_true, ite_false, not_true_eq_false, not_false_eq_true, and_true, true_and, and_false, false_and, or_true, true_or, or_false, false_or, reduceIte, and_self, or_self, ne_eq, eq_self_iff_true]; first | done | rfl) | (simp [bI, h2, h5, h8, h10, eq_true h12, pM, pU, heldM_45, gvW_45, inW_45, livN_45, sum9_45, sum13_45, tradeE, tradeR, tradeU]; done) | (simp only [pM, pU, heldM_45, gvW_45, inW_45, livN_45, sum9_45, sum13_45, tradeE, tradeR, tradeU, bI, ← Int32.not_le] at *; simp [h2, h5, h8, h10, eq_true h12]; done) | (simp_all [bI, h2, h5, h8, h10, eq_true h12, pM, pU, heldM_45, gvW_45, inW_45, livN_45, sum9_45, sum13_45, tradeE, tradeR, tradeU]; done) | (simp_all [bI, h2, h5, h8, h10, eq_true h12, pM, pU, heldM_45, gvW_45, inW_45, livN_45, sum9_45, sum13_45, tradeE, tradeR, tradeU]; rfl) | (exfalso; omega)), by first | rfl | (simp only [h2, h5, h8, h10, eq_true h12, pM, pU, heldM_45, gvW_45, inW_45, livN_45, sum9_45, sum13_45, tradeE, tradeR, tradeU, bI, pM, pU, n10, n20, n30, n0, if_true, if_false, ite_true, ite_false, not_true_eq_false, not_false_eq_true, and_true, true_and, and_false, false_and, or_true, true_or, or_false, false_or, reduceIte, and_self, or_self, ne_eq, eq_self_iff_true]; first | done | rfl) | (simp [bI, h2, h5, h8, h10, eq_true h12, pM, pU, heldM_45, gvW_45, inW_45, livN_45, sum9_45, sum13_45, tradeE, tradeR, tradeU]; done) | (simp only [pM, pU, heldM_45, gvW_45, inW_45, livN_45, sum9_45, sum13_45, tradeE, tradeR, tradeU, bI, ← Int32.not_le] at *; simp [h2, h5, h8, h10, eq_true h12]; done) | (simp_all [bI, h2, h5, h8, h10, eq_true h12, pM, pU, heldM_45, gvW_45, inW_45, livN_45, sum9_45, sum13_45, tradeE, tradeR, tradeU]; done) | (simp_all [bI, h2, h5, h8, h10, eq_true h12, pM, pU, heldM_45, gvW_45, inW_45, livN_45, sum9_45, sum13_45, tradeE, tradeR, tradeU]; rfl) | (exfalso; omega), by trivial⟩
          · skip
            refine v_aload_n C dX8_trade_83 rfl 2 rfl ?_
            refine v_iload_n C dX8_trade_84 rfl 4 rfl ?_
            refine w_invVr C [.int (b)] 0 0 L_X8_155 (c_X8_isDead (s := s) (t := t)  hst hG hL b _ (in_nI (N := 12) (vp_cnt (by assumption) hm hm12 (by decide)) (by omega)) (in_lt (N := 12) (vp_cnt (by assumption) hm hm12 (by decide)))) (m0 (s := s) (t := t) (g := G.2.2.1) hL) rfl rfl rfl rfl dX8_trade_85 rfl kx_no (fun h14 => ?_)
            refine v_ifB_ne C (t := 101) dX8_trade_88 rfl rfl (fun h15 => ?_) (fun h15 => ?_)
            · skip
              refine v_iconst C (v := 3) dX8_trade_101 rfl rfl ?_
              refine v_goto C (q := 106) dX8_trade_102 rfl ?_
              refine w_invVr C [.int (3)] 0 0 L_X8_145 (c_X8_holdsTo (s := s) (t := t)  hst hG hL 3) (m0 (s := s) (t := t) (g := G.2.2.1) hL) rfl rfl rfl rfl dX8_trade_106 rfl kx_no (fun h16 => ?_)
              refine v_ifB_ne C (t := 114) dX8_trade_109 rfl rfl (fun h => absurd h (by decide)) (fun _ => ?_)
              refine v_iconst C (v := 0) dX8_trade_112 rfl rfl ?_
              exact v_iret C (by decide) (by decide) dX8_trade_113 ⟨congrArg (fun z => some (Value.int z)) (by first | rfl | (simp only [h2, h5, h8, h10, h12, eq_true h15, pM, pU, heldM_45, gvW_45, inW_45, livN_45, sum9_45, sum13_45, tradeE, tradeR, tradeU, bI, pM, pU, n10, n20, n30, n0, if_true, if_false, ite_true, ite_false, not_true_eq_false, not_false_eq_true, and_true, true_and, and_false, false_and, or_true, true_or, or_false, false_or, reduceIte, and_self, or_self, ne_eq, eq_self_iff_true]; first | done | rfl) | (simp [bI, h2, h5, h8, h10, h12, eq_true h15, pM, pU, heldM_45, gvW_45, inW_45, livN_45, sum9_45, sum13_45, tradeE, tradeR, tradeU]; done) | (simp only [pM, pU, heldM_45, gvW_45, inW_45, livN_45, sum9_45, sum13_45, tradeE, tradeR, tradeU, bI, ← Int32.not_le] at *; simp [h2, h5, h8, h10, h12, eq_true h15]; done) | (simp_all [bI, h2, h5, h8, h10, h12, eq_true h15, pM, pU, heldM_45, gvW_45, inW_45, livN_45, sum9_45, sum13_45, tradeE, tradeR, tradeU]; done) | (simp_all [bI, h2, h5, h8, h10, h12, eq_true h15, pM, pU, heldM_45, gvW_45, inW_45, livN_45, sum9_45, sum13_45, tradeE, tradeR, tradeU]; rfl) | (exfalso; omega)), by first | rfl | (simp only [h2, h5, h8, h10, h12, eq_true h15, pM, pU, heldM_45, gvW_45, inW_45, livN_45, sum9_45, sum13_45, tradeE, tradeR, tradeU, bI, pM, pU, n10, n20, n30, n0, if_true, if_false, ite_true, ite_false, not_true_eq_false, not_false_eq_true, and_true, true_and, and_false, false_and, or_true, true_or, or_false, false_or, reduceIte, and_self, or_self, ne_eq, eq_self_iff_true]; first | done | rfl) | (simp [bI, h2, h5, h8, h10, h12, eq_true h15, pM, pU, heldM_45, gvW_45, inW_45, livN_45, sum9_45, sum13_45, tradeE, tradeR, tradeU]; done) | (simp only [pM, pU, heldM_45, gvW_45, inW_45, livN_45, sum9_45, sum13_45, tradeE, tradeR, tradeU, bI, ← Int32.not_le] at *; simp [h2, h5, h8, h10, h12, eq_true h15]; done) | (simp_all [bI, h2, h5, h8, h10, h12, eq_true h15, pM, pU, heldM_45, gvW_45, inW_45, livN_45, sum9_45, sum13_45, tradeE, tradeR, tradeU]; done) | (simp_all [bI, h2, h5, h8, h10, h12, eq_true h15, pM, pU, heldM_45, gvW_45, inW_45, livN_45, sum9_45, sum13_45, tradeE, tradeR, tradeU]; rfl) | (exfalso; omega), by trivial⟩
            · skip
              refine v_aload_n C dX8_trade_91 rfl 2 rfl ?_
              refine v_get C (v := .ref (a 1 16)) g_X8_44 (m0 (s := s) (t := t) (g := G.2.2.1) hL) (rg (by decide) rfl) dX8_trade_92 rfl ?_
              refine v_iload_n C dX8_trade_95 rfl 4 rfl ?_
              refine v_iald C (len := 12) (m1 (s := s) (t := t) (g := G.2.2.1) hL 16 rfl) (vp_cnt (by assumption) hm hm12 (by decide)) dX8_trade_96 rfl ?_
              refine v_iload_n C dX8_trade_97 rfl 5 rfl ?_
              refine v_icmp_ge C (t := 105) dX8_trade_98 rfl rfl (fun h17 => ?_) (fun h17 => ?_)
              · skip
                refine v_iconst C (v := 0) dX8_trade_105 rfl rfl ?_
                refine w_invVr C [.int (0)] 0 0 L_X8_145 (c_X8_holdsTo (s := s) (t := t)  hst hG hL 0) (m0 (s := s) (t := t) (g := G.2.2.1) hL) rfl rfl rfl rfl dX8_trade_106 rfl kx_no (fun h18 => ?_)
                refine v_ifB_ne C (t := 114) dX8_trade_109 rfl rfl (fun _ => ?_) (fun h => absurd (by decide) h)
                refine v_aload_n C dX8_trade_114 rfl 2 rfl ?_
                refine v_get C (v := .ref (a 1 29)) g_X8_81 (m0 (s := s) (t := ((su t 45 0 0))) (g := G.2.2.1) hL) (rg (by decide) rfl) dX8_trade_115 rfl ?_
                refine v_iload_n C dX8_trade_118 rfl 3 rfl ?_
                refine v_aload_n C dX8_trade_119 rfl 2 rfl ?_
                refine v_get C (v := .ref (a 1 22)) g_X8_59 (m0 (s := s) (t := ((su t 45 0 0))) (g := G.2.2.1) hL) (rg (by decide) rfl) dX8_trade_120 rfl ?_
                refine v_iload_n C dX8_trade_123 rfl 3 rfl ?_
                refine v_iald C (len := 30) (m1 (s := s) (t := ((su t 45 0 0))) (g := G.2.2.1) hL 22 rfl) (vp_cnt (by assumption) hc hc30 (by decide)) dX8_trade_124 rfl ?_
                refine xx_top (y := t 22 (tn c)) rfl ?_
                refine v_iastE C (len := 30) (tn c) (put_m1 (s := s) (t := ((su t 45 0 0))) (g := G.2.2.1) hL 29 rfl (tn c) (t 22 (tn c))) rfl (vp_cnt (by assumption) hc hc30 (by decide)) dX8_trade_125 rfl ?_
                refine v_aload_n C dX8_trade_126 rfl 2 rfl ?_
                refine v_get C (v := .ref (a 1 30)) g_X8_84 (m0 (s := s) (t := ((su (su t 45 0 0) 29 (tn c) (t 22 (tn c))))) (g := G.2.2.1) hL) (rg (by decide) rfl) dX8_trade_127 rfl ?_
                refine v_iload_n C dX8_trade_130 rfl 3 rfl ?_
                refine v_iload_n C dX8_trade_131 rfl 4 rfl ?_
                refine v_iastE C (len := 30) (tn c) (put_m1 (s := s) (t := ((su (su t 45 0 0) 29 (tn c) (t 22 (tn c))))) (g := G.2.2.1) hL 30 rfl (tn c) b) rfl (vp_cnt (by assumption) hc hc30 (by decide)) dX8_trade_132 rfl ?_
                refine v_aload_n C dX8_trade_133 rfl 2 rfl ?_
                refine v_get C (v := .ref (a 1 31)) g_X8_87 (m0 (s := s) (t := ((su (su (su t 45 0 0) 29 (tn c) (t 22 (tn c))) 30 (tn c) b))) (g := G.2.2.1) hL) (rg (by decide) rfl) dX8_trade_134 rfl ?_
                refine v_iload_n C dX8_trade_137 rfl 3 rfl ?_
                refine v_iload_n C dX8_trade_138 rfl 5 rfl ?_
                refine v_iastE C (len := 30) (tn c) (put_m1 (s := s) (t := ((su (su (su t 45 0 0) 29 (tn c) (t 22 (tn c))) 30 (tn c) b))) (g := G.2.2.1) hL 31 rfl (tn c) m) rfl (vp_cnt (by assumption) hc hc30 (by decide)) dX8_trade_139 rfl ?_
                refine v_aload_n C dX8_trade_140 rfl 2 rfl ?_
                refine v_get C (v := .ref (a 1 32)) g_X8_90 (m0 (s := s) (t := ((su (su (su (su t 45 0 0) 29 (tn c) (t 22 (tn c))) 30 (tn c) b) 31 (tn c) m))) (g := G.2.2.1) hL) (rg (by decide) rfl) dX8_trade_141 rfl ?_
                refine v_iload_n C dX8_trade_144 rfl 3 rfl ?_
                refine v_aload_n C dX8_trade_145 rfl 2 rfl ?_
                refine v_get C (v := .int (t 0 0)) g_X8_138 (m0 (s := s) (t := ((su (su (su (su t 45 0 0) 29 (tn c) (t 22 (tn c))) 30 (tn c) b) 31 (tn c) m))) (g := G.2.2.1) hL) (rg (by decide) rfl) dX8_trade_146 rfl ?_
                refine v_iastE C (len := 30) (tn c) (put_m1 (s := s) (t := ((su (su (su (su t 45 0 0) 29 (tn c) (t 22 (tn c))) 30 (tn c) b) 31 (tn c) m))) (g := G.2.2.1) hL 32 rfl (tn c) (t 0 0)) rfl (vp_cnt (by assumption) hc hc30 (by decide)) dX8_trade_149 rfl ?_
                refine v_aload_n C dX8_trade_150 rfl 2 rfl ?_
                refine v_get C (v := .ref (a 1 28)) g_X8_78 (m0 (s := s) (t := ((su (su (su (su (su t 45 0 0) 29 (tn c) (t 22 (tn c))) 30 (tn c) b) 31 (tn c) m) 32 (tn c) (t 0 0)))) (g := G.2.2.1) hL) (rg (by decide) rfl) dX8_trade_151 rfl ?_
                refine v_iload_n C dX8_trade_154 rfl 3 rfl ?_
                refine v_iconst C (v := 0) dX8_trade_155 rfl rfl ?_
                refine v_zastE C (len := 30) (tn c) (put_m1 (s := s) (t := ((su (su (su (su (su t 45 0 0) 29 (tn c) (t 22 (tn c))) 30 (tn c) b) 31 (tn c) m) 32 (tn c) (t 0 0)))) (g := G.2.2.1) hL 28 rfl (tn c) 0) rfl rfl (vp_cnt (by assumption) hc hc30 (by decide)) dX8_trade_156 rfl ?_
                refine v_aload_n C dX8_trade_157 rfl 2 rfl ?_
                refine v_get C (v := .ref (a 1 16)) g_X8_44 (m0 (s := s) (t := ((su (su (su (su (su (su t 45 0 0) 29 (tn c) (t 22 (tn c))) 30 (tn c) b) 31 (tn c) m) 32 (tn c) (t 0 0)) 28 (tn c) 0))) (g := G.2.2.1) hL) (rg (by decide) rfl) dX8_trade_158 rfl ?_
                refine v_iload_n C dX8_trade_161 rfl 4 rfl ?_
                refine v_dup2 C dX8_trade_162 rfl rfl rfl ?_
                refine v_iald C (len := 12) (m1 (s := s) (t := ((su (su (su (su (su (su t 45 0 0) 29 (tn c) (t 22 (tn c))) 30 (tn c) b) 31 (tn c) m) 32 (tn c) (t 0 0)) 28 (tn c) 0))) (g := G.2.2.1) hL 16 rfl) (vp_cnt (by assumption) hm hm12 (by decide)) dX8_trade_163 rfl ?_
                refine xx_top (y := t 16 (tn b)) rfl ?_
                refine v_iload_n C dX8_trade_164 rfl 5 rfl ?_
                refine v_isub C dX8_trade_165 rfl ?_
                refine v_iastE C (len := 12) (tn b) (put_m1 (s := s) (t := ((su (su (su (su (su (su t 45 0 0) 29 (tn c) (t 22 (tn c))) 30 (tn c) b) 31 (tn c) m) 32 (tn c) (t 0 0)) 28 (tn c) 0))) (g := G.2.2.1) hL 16 rfl (tn b) ((t 16 (tn b)) - m)) rfl (vp_cnt (by assumption) hm hm12 (by decide)) dX8_trade_166 rfl ?_
                refine v_aload_n C dX8_trade_167 rfl 2 rfl ?_
                refine v_get C (v := .ref (a 1 16)) g_X8_44 (m0 (s := s) (t := ((su (su (su (su (su (su (su t 45 0 0) 29 (tn c) (t 22 (tn c))) 30 (tn c) b) 31 (tn c) m) 32 (tn c) (t 0 0)) 28 (tn c) 0) 16 (tn b) ((t 16 (tn b)) - m)))) (g := G.2.2.1) hL) (rg (by decide) rfl) dX8_trade_168 rfl ?_
                refine v_aload_n C dX8_trade_171 rfl 2 rfl ?_
                refine v_get C (v := .ref (a 1 29)) g_X8_81 (m0 (s := s) (t := ((su (su (su (su (su (su (su t 45 0 0) 29 (tn c) (t 22 (tn c))) 30 (tn c) b) 31 (tn c) m) 32 (tn c) (t 0 0)) 28 (tn c) 0) 16 (tn b) ((t 16 (tn b)) - m)))) (g := G.2.2.1) hL) (rg (by decide) rfl) dX8_trade_172 rfl ?_
                refine v_iload_n C dX8_trade_175 rfl 3 rfl ?_
                refine v_iald C (len := 30) (m1 (s := s) (t := ((su (su (su (su (su (su (su t 45 0 0) 29 (tn c) (t 22 (tn c))) 30 (tn c) b) 31 (tn c) m) 32 (tn c) (t 0 0)) 28 (tn c) 0) 16 (tn b) ((t 16 (tn b)) - m)))) (g := G.2.2.1) hL 29 rfl) (vp_cnt (by assumption) hc hc30 (by decide)) dX8_trade_176 rfl ?_
                refine xx_top (y := t 22 (tn c)) (su_a (s := (su t 45 0 0)) (k := 29) (i := tn c) (v := t 22 (tn c))) ?_
                refine v_dup2 C dX8_trade_177 rfl rfl rfl ?_
                refine v_iald C (len := 12) (m1 (s := s) (t := ((su (su (su (su (su (su (su t 45 0 0) 29 (tn c) (t 22 (tn c))) 30 (tn c) b) 31 (tn c) m) 32 (tn c) (t 0 0)) 28 (tn c) 0) 16 (tn b) ((t 16 (tn b)) - m)))) (g := G.2.2.1) hL 16 rfl) (vp_up (hco _ (in_lt (vp_cnt (by assumption) hc (Nat.le_refl _) (by omega)))) hm12) dX8_trade_178 rfl ?_
                refine xx_top (y := (su (su (su (su (su (su (su t 45 0 0) 29 (tn c) (t 22 (tn c))) 30 (tn c) b) 31 (tn c) m) 32 (tn c) (t 0 0)) 28 (tn c) 0) 16 (tn b) ((t 16 (tn b)) - m)) 16 (tn (t 22 (tn c)))) rfl ?_
                refine v_iload_n C dX8_trade_179 rfl 5 rfl ?_
                refine v_iadd C dX8_trade_180 rfl ?_
                refine v_iastE C (len := 12) (tn (t 22 (tn c))) (put_m1 (s := s) (t := ((su (su (su (su (su (su (su t 45 0 0) 29 (tn c) (t 22 (tn c))) 30 (tn c) b) 31 (tn c) m) 32 (tn c) (t 0 0)) 28 (tn c) 0) 16 (tn b) ((t 16 (tn b)) - m)))) (g := G.2.2.1) hL 16 rfl (tn (t 22 (tn c))) (((su (su (su (su (su (su (su t 45 0 0) 29 (tn c) (t 22 (tn c))) 30 (tn c) b) 31 (tn c) m) 32 (tn c) (t 0 0)) 28 (tn c) 0) 16 (tn b) ((t 16 (tn b)) - m)) 16 (tn (t 22 (tn c)))) + m)) rfl (vp_up (hco _ (in_lt (vp_cnt (by assumption) hc (Nat.le_refl _) (by omega)))) hm12) dX8_trade_181 rfl ?_
                refine v_aload_n C dX8_trade_182 rfl 2 rfl ?_
                refine v_get C (v := .ref (a 1 22)) g_X8_59 (m0 (s := s) (t := ((su (su (su (su (su (su (su (su t 45 0 0) 29 (tn c) (t 22 (tn c))) 30 (tn c) b) 31 (tn c) m) 32 (tn c) (t 0 0)) 28 (tn c) 0) 16 (tn b) ((t 16 (tn b)) - m)) 16 (tn (t 22 (tn c))) (((su (su (su (su (su (su (su t 45 0 0) 29 (tn c) (t 22 (tn c))) 30 (tn c) b) 31 (tn c) m) 32 (tn c) (t 0 0)) 28 (tn c) 0) 16 (tn b) ((t 16 (tn b)) - m)) 16 (tn (t 22 (tn c)))) + m)))) (g := G.2.2.1) hL) (rg (by decide) rfl) dX8_trade_183 rfl ?_
                refine v_iload_n C dX8_trade_186 rfl 3 rfl ?_
                refine v_iload_n C dX8_trade_187 rfl 4 rfl ?_
                refine v_iastE C (len := 30) (tn c) (put_m1 (s := s) (t := ((su (su (su (su (su (su (su (su t 45 0 0) 29 (tn c) (t 22 (tn c))) 30 (tn c) b) 31 (tn c) m) 32 (tn c) (t 0 0)) 28 (tn c) 0) 16 (tn b) ((t 16 (tn b)) - m)) 16 (tn (t 22 (tn c))) (((su (su (su (su (su (su (su t 45 0 0) 29 (tn c) (t 22 (tn c))) 30 (tn c) b) 31 (tn c) m) 32 (tn c) (t 0 0)) 28 (tn c) 0) 16 (tn b) ((t 16 (tn b)) - m)) 16 (tn (t 22 (tn c)))) + m)))) (g := G.2.2.1) hL 22 rfl (tn c) b) rfl (vp_cnt (by assumption) hc hc30 (by decide)) dX8_trade_188 rfl ?_
                refine v_aload_n C dX8_trade_189 rfl 2 rfl ?_
                refine v_get C (v := .ref (a 1 29)) g_X8_81 (m0 (s := s) (t := ((su (su (su (su (su (su (su (su (su t 45 0 0) 29 (tn c) (t 22 (tn c))) 30 (tn c) b) 31 (tn c) m) 32 (tn c) (t 0 0)) 28 (tn c) 0) 16 (tn b) ((t 16 (tn b)) - m)) 16 (tn (t 22 (tn c))) (((su (su (su (su (su (su (su t 45 0 0) 29 (tn c) (t 22 (tn c))) 30 (tn c) b) 31 (tn c) m) 32 (tn c) (t 0 0)) 28 (tn c) 0) 16 (tn b) ((t 16 (tn b)) - m)) 16 (tn (t 22 (tn c)))) + m)) 22 (tn c) b))) (g := G.2.2.1) hL) (rg (by decide) rfl) dX8_trade_190 rfl ?_
                refine v_iload_n C dX8_trade_193 rfl 3 rfl ?_
                refine v_iald C (len := 30) (m1 (s := s) (t := ((su (su (su (su (su (su (su (su (su t 45 0 0) 29 (tn c) (t 22 (tn c))) 30 (tn c) b) 31 (tn c) m) 32 (tn c) (t 0 0)) 28 (tn c) 0) 16 (tn b) ((t 16 (tn b)) - m)) 16 (tn (t 22 (tn c))) (((su (su (su (su (su (su (su t 45 0 0) 29 (tn c) (t 22 (tn c))) 30 (tn c) b) 31 (tn c) m) 32 (tn c) (t 0 0)) 28 (tn c) 0) 16 (tn b) ((t 16 (tn b)) - m)) 16 (tn (t 22 (tn c)))) + m)) 22 (tn c) b))) (g := G.2.2.1) hL 29 rfl) (vp_cnt (by assumption) hc hc30 (by decide)) dX8_trade_194 rfl ?_
                refine xx_top (y := t 22 (tn c)) (su_a (s := (su t 45 0 0)) (k := 29) (i := tn c) (v := t 22 (tn c))) ?_
                exact v_iret C (by decide) (by decide) dX8_trade_195 ⟨congrArg (fun z => some (Value.int z)) (by first | rfl | (simp only [h2, h5, h8, h10, h12, h15, h17, Int32.not_lt.mpr h17, pM, pU, heldM_45, gvW_45, inW_45, livN_45, sum9_45, sum13_45, tradeE, tradeR, tradeU, bI, pM, pU, n10, n20, n30, n0, if_true, if_false, ite_true, ite_false, not_true_eq_false, not_false_eq_true, and_true, true_and, and_false, false_and, or_true, true_or, or_false, false_or, reduceIte, and_self, or_self, ne_eq, eq_self_iff_true]; first | done | rfl) | (simp [bI, h2, h5, h8, h10, h12, h15, h17, Int32.not_lt.mpr h17, pM, pU, heldM_45, gvW_45, inW_45, livN_45, sum9_45, sum13_45, tradeE, tradeR, tradeU]; done) | (simp only [pM, pU, heldM_45, gvW_45, inW_45, livN_45, sum9_45, sum13_45, tradeE, tradeR, tradeU, bI, ← Int32.not_le] at *; simp [h2, h5, h8, h10, h12, h15, h17, Int32.not_lt.mpr h17]; done) | (simp_all [bI, h2, h5, h8, h10, h12, h15, h17, Int32.not_lt.mpr h17, pM, pU, heldM_45, gvW_45, inW_45, livN_45, sum9_45, sum13_45, tradeE, tradeR, tradeU]; done) | (simp_all [bI, h2, h5, h8, h10, h12, h15, h17, Int32.not_lt.mpr h17, pM, pU, heldM_45, gvW_45, inW_45, livN_45, sum9_45, sum13_45, tradeE, tradeR, tradeU]; rfl) | (exfalso; omega)), by first | rfl | (simp only [h2, h5, h8, h10, h12, h15, h17, Int32.not_lt.mpr h17, pM, pU, heldM_45, gvW_45, inW_45, livN_45, sum9_45, sum13_45, tradeE, tradeR, tradeU, bI, pM, pU, n10, n20, n30, n0, if_true, if_false, ite_true, ite_false, not_true_eq_false, not_false_eq_true, and_true, true_and, and_false, false_and, or_true, true_or, or_false, false_or, reduceIte, and_self, or_self, ne_eq, eq_self_iff_true]; first | done | rfl) | (simp [bI, h2, h5, h8, h10, h12, h15, h17, Int32.not_lt.mpr h17, pM, pU, heldM_45, gvW_45, inW_45, livN_45, sum9_45, sum13_45, tradeE, tradeR, tradeU]; done) | (simp only [pM, pU, heldM_45, gvW_45, inW_45, livN_45, sum9_45, sum13_45, tradeE, tradeR, tradeU, bI, ← Int32.not_le] at *; simp [h2, h5, h8, h10, h12, h15, h17, Int32.not_lt.mpr h17]; done) | (simp_all [bI, h2, h5, h8, h10, h12, h15, h17, Int32.not_lt.mpr h17, pM, pU, heldM_45, gvW_45, inW_45, livN_45, sum9_45, sum13_45, tradeE, tradeR, tradeU]; done) | (simp_all [bI, h2, h5, h8, h10, h12, h15, h17, Int32.not_lt.mpr h17, pM, pU, heldM_45, gvW_45, inW_45, livN_45, sum9_45, sum13_45, tradeE, tradeR, tradeU]; rfl) | (exfalso; omega), by trivial⟩
              · skip
                refine v_iconst C (v := 3) dX8_trade_101 rfl rfl ?_
                refine v_goto C (q := 106) dX8_trade_102 rfl ?_
                refine w_invVr C [.int (3)] 0 0 L_X8_145 (c_X8_holdsTo (s := s) (t := t)  hst hG hL 3) (m0 (s := s) (t := t) (g := G.2.2.1) hL) rfl rfl rfl rfl dX8_trade_106 rfl kx_no (fun h19 => ?_)
                refine v_ifB_ne C (t := 114) dX8_trade_109 rfl rfl (fun h => absurd h (by decide)) (fun _ => ?_)
                refine v_iconst C (v := 0) dX8_trade_112 rfl rfl ?_
                exact v_iret C (by decide) (by decide) dX8_trade_113 ⟨congrArg (fun z => some (Value.int z)) (by first | rfl | (simp only [h2, h5, h8, h10, h12, h15, h17, Int32.not_le.mp h17, pM, pU, heldM_45, gvW_45, inW_45, livN_45, sum9_45, sum13_45, tradeE, tradeR, tradeU, bI, pM, pU, n10, n20, n30, n0, if_true, if_false, ite_true, ite_false, not_true_eq_false, not_false_eq_true, and_true, true_and, and_false, false_and, or_true, true_or, or_false, false_or, reduceIte, and_self, or_self, ne_eq, eq_self_iff_true]; first | done | rfl) | (simp [bI, h2, h5, h8, h10, h12, h15, h17, Int32.not_le.mp h17, pM, pU, heldM_45, gvW_45, inW_45, livN_45, sum9_45, sum13_45, tradeE, tradeR, tradeU]; done) | (simp only [pM, pU, heldM_45, gvW_45, inW_45, livN_45, sum9_45, sum13_45, tradeE, tradeR, tradeU, bI, ← Int32.not_le] at *; simp [h2, h5, h8, h10, h12, h15, h17, Int32.not_le.mp h17]; done) | (simp_all [bI, h2, h5, h8, h10, h12, h15, h17, Int32.not_le.mp h17, pM, pU, heldM_45, gvW_45, inW_45, livN_45, sum9_45, sum13_45, tradeE, tradeR, tradeU]; done) | (simp_all [bI, h2, h5, h8, h10, h12, h15, h17, Int32.not_le.mp h17, pM, pU, heldM_45, gvW_45, inW_45, livN_45, sum9_45, sum13_45, tradeE, tradeR, tradeU]; rfl) | (exfalso; omega)), by first | rfl | (simp only [h2, h5, h8, h10, h12, h15, h17, Int32.not_le.mp h17, pM, pU, heldM_45, gvW_45, inW_45, livN_45, sum9_45, sum13_45, tradeE, tradeR, tradeU, bI, pM, pU, n10, n20, n30, n0, if_true, if_false, ite_true, ite_false, not_true_eq_false, not_false_eq_true, and_true, true_and, and_false, false_and, or_true, true_or, or_false, false_or, reduceIte, and_self, or_self, ne_eq, eq_self_iff_true]; first | done | rfl) | (simp [bI, h2, h5, h8, h10, h12, h15, h17, Int32.not_le.mp h17, pM, pU, heldM_45, gvW_45, inW_45, livN_45, sum9_45, sum13_45, tradeE, tradeR, tradeU]; done) | (simp only [pM, pU, heldM_45, gvW_45, inW_45, livN_45, sum9_45, sum13_45, tradeE, tradeR, tradeU, bI, ← Int32.not_le] at *; simp [h2, h5, h8, h10, h12, h15, h17, Int32.not_le.mp h17]; done) | (simp_all [bI, h2, h5, h8, h10, h12, h15, h17, Int32.not_le.mp h17, pM, pU, heldM_45, gvW_45, inW_45, livN_45, sum9_45, sum13_45, tradeE, tradeR, tradeU]; done) | (simp_all [bI, h2, h5, h8, h10, h12, h15, h17, Int32.not_le.mp h17, pM, pU, heldM_45, gvW_45, inW_45, livN_45, sum9_45, sum13_45, tradeE, tradeR, tradeU]; rfl) | (exfalso; omega), by trivial⟩

abbrev r_X8_suit : Room := { frames := 2, cells := 0, slots := 0, locals := 46 }
set_option maxRecDepth 4000 in
theorem c_X8_suit {l : Launch} {G : GG} {a : AD} {s t s0 : SS} {L : List (Nat × Nat)} {nc : Nat} {ns : Nat} (hst : l.stackTraces = false) (hG : GOK G) (hL : Live L s0) (c : Int32) (hc : t 21 0 = nI nc) (hc30 : nc ≤ 30) (hs : t 39 0 = nI ns) (hs600 : ns ≤ 600) (hsl : ∀ i, i < nc → ¬ t 32 i = -1 → vp_in (t 29 i) 12 ∧ vp_in (t 30 i) 12) : Mth l yX8_suit cX8_suit 4 (Option.some Jvm.ClassFile.FieldType.int) r_X8_suit G (wl a (E G.2.2.1 a s t) L) [.ref (a 0 0), .int c] (RI (.int (pM (suitE t ns c) (suitR t ns c))) (wl a (E G.2.2.1 a s (pU (suitE t ns c) (suitU (su t 45 0 0) ns c) t)) L) (True)) nX := by
  refine mth_of rfl (Nat.le_of_ble_eq_true rfl) hst hG (fun X hX C0 => ?_)
  subst hX
  have C : Cx X G cX8_suit 4 RX8 (Option.some Jvm.ClassFile.FieldType.int) r_X8_suit "suit" [] := C0
  clear C0
  show V X G 4 _ 0 0 _ 0 [(0, .ref (a 0 0)), (1, .int (c))] []
  refine v_aload_n C dX8_suit_0 rfl 0 rfl ?_
  refine v_iload_n C dX8_suit_1 rfl 1 rfl ?_
  refine w_invVr C [.int (c)] 0 0 L_X8_230 (c_X8_isClaim (s := s) (t := t)  hst hG hL c) (m0 (s := s) (t := t) (g := G.2.2.1) hL) rfl rfl rfl rfl dX8_suit_2 rfl kx_no (fun h1 => ?_)
  refine v_istore_n C (lv1 := [(2, .int (bI ((0 : Int32) ≤ c ∧ c ≤ t 21 0 - 1))), (0, .ref (a 0 0)), (1, .int (c))]) dX8_suit_5 rfl (by decide) rfl ?_
  refine v_aload_n C dX8_suit_6 rfl 1 rfl ?_
  refine v_iload_n C dX8_suit_7 rfl 0 rfl ?_
  refine v_ifB_ne C (t := 15) dX8_suit_8 rfl rfl (fun h2 => ?_) (fun h2 => ?_)
  · skip
    refine v_aload_n C dX8_suit_15 rfl 1 rfl ?_
    refine v_get C (v := .ref (a 1 32)) g_X8_90 (m0 (s := s) (t := t) (g := G.2.2.1) hL) (rg (by decide) rfl) dX8_suit_16 rfl ?_
    refine v_iload_n C dX8_suit_19 rfl 2 rfl ?_
    refine v_iald C (len := 30) (m1 (s := s) (t := t) (g := G.2.2.1) hL 32 rfl) (vp_cnt (by assumption) hc hc30 (by decide)) dX8_suit_20 rfl ?_
    refine v_iconst C (v := (-1)) dX8_suit_21 rfl rfl ?_
    refine v_icmp_eq C (t := 50) dX8_suit_22 rfl rfl (fun h3 => ?_) (fun h3 => ?_)
    · skip
      refine v_iconst C (v := 2) dX8_suit_50 rfl rfl ?_
      refine v_goto C (q := 55) dX8_suit_51 rfl ?_
      refine w_invVr C [.int (2)] 0 0 L_X8_145 (c_X8_holdsTo (s := s) (t := t)  hst hG hL 2) (m0 (s := s) (t := t) (g := G.2.2.1) hL) rfl rfl rfl rfl dX8_suit_55 rfl kx_no (fun h4 => ?_)
      refine v_ifB_ne C (t := 63) dX8_suit_58 rfl rfl (fun h => absurd h (by decide)) (fun _ => ?_)
      refine v_iconst C (v := 0) dX8_suit_61 rfl rfl ?_
      exact v_iret C (by decide) (by decide) dX8_suit_62 ⟨congrArg (fun z => some (Value.int z)) (by first | rfl | (simp only [h2, eq_true h3, pM, pU, heldM_45, gvW_45, inW_45, livN_45, sum9_45, sum13_45, suitE, suitR, suitU, sltW_su, sltW_45, minF, s45_16, s45_28, s45_29, s45_30, s45_31, bI, pM, pU, n10, n20, n30, n0, if_true, if_false, ite_true, ite_false, not_true_eq_false, not_false_eq_true, and_true, true_and, and_false, false_and, or_true, true_or, or_false, false_or, reduceIte, and_self, or_self, ne_eq, eq_self_iff_true]; first | done | rfl) | (simp [bI, h2, eq_true h3, pM, pU, heldM_45, gvW_45, inW_45, livN_45, sum9_45, sum13_45, suitE, suitR, suitU, sltW_su, sltW_45, minF, s45_16, s45_28, s45_29, s45_30, s45_31]; done) | (simp only [pM, pU, heldM_45, gvW_45, inW_45, livN_45, sum9_45, sum13_45, suitE, suitR, suitU, sltW_su, sltW_45, minF, s45_16, s45_28, s45_29, s45_30, s45_31, bI, ← Int32.not_le] at *; simp [h2, eq_true h3]; done) | (simp_all [bI, h2, eq_true h3, pM, pU, heldM_45, gvW_45, inW_45, livN_45, sum9_45, sum13_45, suitE, suitR, suitU, sltW_su, sltW_45, minF, s45_16, s45_28, s45_29, s45_30, s45_31]; done) | (simp_all [bI, h2, eq_true h3, pM, pU, heldM_45, gvW_45, inW_45, livN_45, sum9_45, sum13_45, suitE, suitR, suitU, sltW_su, sltW_45, minF, s45_16, s45_28, s45_29, s45_30, s45_31]; rfl) | (exfalso; omega)), by first | rfl | (simp only [h2, eq_true h3, pM, pU, heldM_45, gvW_45, inW_45, livN_45, sum9_45, sum13_45, suitE, suitR, suitU, sltW_su, sltW_45, minF, s45_16, s45_28, s45_29, s45_30, s45_31, bI, pM, pU, n10, n20, n30, n0, if_true, if_false, ite_true, ite_false, not_true_eq_false, not_false_eq_true, and_true, true_and, and_false, false_and, or_true, true_or, or_false, false_or, reduceIte, and_self, or_self, ne_eq, eq_self_iff_true]; first | done | rfl) | (simp [bI, h2, eq_true h3, pM, pU, heldM_45, gvW_45, inW_45, livN_45, sum9_45, sum13_45, suitE, suitR, suitU, sltW_su, sltW_45, minF, s45_16, s45_28, s45_29, s45_30, s45_31]; done) | (simp only [pM, pU, heldM_45, gvW_45, inW_45, livN_45, sum9_45, sum13_45, suitE, suitR, suitU, sltW_su, sltW_45, minF, s45_16, s45_28, s45_29, s45_30, s45_31, bI, ← Int32.not_le] at *; simp [h2, eq_true h3]; done) | (simp_all [bI, h2, eq_true h3, pM, pU, heldM_45, gvW_45, inW_45, livN_45, sum9_45, sum13_45, suitE, suitR, suitU, sltW_su, sltW_45, minF, s45_16, s45_28, s45_29, s45_30, s45_31]; done) | (simp_all [bI, h2, eq_true h3, pM, pU, heldM_45, gvW_45, inW_45, livN_45, sum9_45, sum13_45, suitE, suitR, suitU, sltW_su, sltW_45, minF, s45_16, s45_28, s45_29, s45_30, s45_31]; rfl) | (exfalso; omega), by trivial⟩
    · skip
      refine v_aload_n C dX8_suit_25 rfl 1 rfl ?_
      refine v_get C (v := .ref (a 1 28)) g_X8_78 (m0 (s := s) (t := t) (g := G.2.2.1) hL) (rg (by decide) rfl) dX8_suit_26 rfl ?_
      refine v_iload_n C dX8_suit_29 rfl 2 rfl ?_
      refine v_zald C (len := 30) (m1 (s := s) (t := t) (g := G.2.2.1) hL 28 rfl) (vp_cnt (by assumption) hc hc30 (by decide)) dX8_suit_30 rfl ?_
      refine v_if_ne C (t := 50) dX8_suit_31 rfl rfl (fun h5 => ?_) (fun h5 => ?_)
      · skip
        refine v_iconst C (v := 2) dX8_suit_50 rfl rfl ?_
        refine v_goto C (q := 55) dX8_suit_51 rfl ?_
        refine w_invVr C [.int (2)] 0 0 L_X8_145 (c_X8_holdsTo (s := s) (t := t)  hst hG hL 2) (m0 (s := s) (t := t) (g := G.2.2.1) hL) rfl rfl rfl rfl dX8_suit_55 rfl kx_no (fun h6 => ?_)
        refine v_ifB_ne C (t := 63) dX8_suit_58 rfl rfl (fun h => absurd h (by decide)) (fun _ => ?_)
        refine v_iconst C (v := 0) dX8_suit_61 rfl rfl ?_
        exact v_iret C (by decide) (by decide) dX8_suit_62 ⟨congrArg (fun z => some (Value.int z)) (by first | rfl | (simp only [h2, h3, h5, pM, pU, heldM_45, gvW_45, inW_45, livN_45, sum9_45, sum13_45, suitE, suitR, suitU, sltW_su, sltW_45, minF, s45_16, s45_28, s45_29, s45_30, s45_31, bI, pM, pU, n10, n20, n30, n0, if_true, if_false, ite_true, ite_false, not_true_eq_false, not_false_eq_true, and_true, true_and, and_false, false_and, or_true, true_or, or_false, false_or, reduceIte, and_self, or_self, ne_eq, eq_self_iff_true]; first | done | rfl) | (simp [bI, h2, h3, h5, pM, pU, heldM_45, gvW_45, inW_45, livN_45, sum9_45, sum13_45, suitE, suitR, suitU, sltW_su, sltW_45, minF, s45_16, s45_28, s45_29, s45_30, s45_31]; done) | (simp only [pM, pU, heldM_45, gvW_45, inW_45, livN_45, sum9_45, sum13_45, suitE, suitR, suitU, sltW_su, sltW_45, minF, s45_16, s45_28, s45_29, s45_30, s45_31, bI, ← Int32.not_le] at *; simp [h2, h3, h5]; done) | (simp_all [bI, h2, h3, h5, pM, pU, heldM_45, gvW_45, inW_45, livN_45, sum9_45, sum13_45, suitE, suitR, suitU, sltW_su, sltW_45, minF, s45_16, s45_28, s45_29, s45_30, s45_31]; done) | (simp_all [bI, h2, h3, h5, pM, pU, heldM_45, gvW_45, inW_45, livN_45, sum9_45, sum13_45, suitE, suitR, suitU, sltW_su, sltW_45, minF, s45_16, s45_28, s45_29, s45_30, s45_31]; rfl) | (exfalso; omega)), by first | rfl | (simp only [h2, h3, h5, pM, pU, heldM_45, gvW_45, inW_45, livN_45, sum9_45, sum13_45, suitE, suitR, suitU, sltW_su, sltW_45, minF, s45_16, s45_28, s45_29, s45_30, s45_31, bI, pM, pU, n10, n20, n30, n0, if_true, if_false, ite_true, ite_false, not_true_eq_false, not_false_eq_true, and_true, true_and, and_false, false_and, or_true, true_or, or_false, false_or, reduceIte, and_self, or_self, ne_eq, eq_self_iff_true]; first | done | rfl) | (simp [bI, h2, h3, h5, pM, pU, heldM_45, gvW_45, inW_45, livN_45, sum9_45, sum13_45, suitE, suitR, suitU, sltW_su, sltW_45, minF, s45_16, s45_28, s45_29, s45_30, s45_31]; done) | (simp only [pM, pU, heldM_45, gvW_45, inW_45, livN_45, sum9_45, sum13_45, suitE, suitR, suitU, sltW_su, sltW_45, minF, s45_16, s45_28, s45_29, s45_30, s45_31, bI, ← Int32.not_le] at *; simp [h2, h3, h5]; done) | (simp_all [bI, h2, h3, h5, pM, pU, heldM_45, gvW_45, inW_45, livN_45, sum9_45, sum13_45, suitE, suitR, suitU, sltW_su, sltW_45, minF, s45_16, s45_28, s45_29, s45_30, s45_31]; done) | (simp_all [bI, h2, h3, h5, pM, pU, heldM_45, gvW_45, inW_45, livN_45, sum9_45, sum13_45, suitE, suitR, suitU, sltW_su, sltW_45, minF, s45_16, s45_28, s45_29, s45_30, s45_31]; rfl) | (exfalso; omega), by trivial⟩
      · skip
        refine v_aload_n C dX8_suit_34 rfl 1 rfl ?_
        refine v_get C (v := .int (t 0 0)) g_X8_138 (m0 (s := s) (t := t) (g := G.2.2.1) hL) (rg (by decide) rfl) dX8_suit_35 rfl ?_
        refine v_aload_n C dX8_suit_38 rfl 1 rfl ?_
        refine v_get C (v := .ref (a 1 32)) g_X8_90 (m0 (s := s) (t := t) (g := G.2.2.1) hL) (rg (by decide) rfl) dX8_suit_39 rfl ?_
        refine v_iload_n C dX8_suit_42 rfl 2 rfl ?_
        refine v_iald C (len := 30) (m1 (s := s) (t := t) (g := G.2.2.1) hL 32 rfl) (vp_cnt (by assumption) hc hc30 (by decide)) dX8_suit_43 rfl ?_
        refine v_isub C dX8_suit_44 rfl ?_
        refine v_bipush C (v := 30) dX8_suit_45 rfl rfl ?_
        refine v_icmp_le C (t := 54) dX8_suit_47 rfl rfl (fun h7 => ?_) (fun h7 => ?_)
        · skip
          refine v_iconst C (v := 0) dX8_suit_54 rfl rfl ?_
          refine w_invVr C [.int (0)] 0 0 L_X8_145 (c_X8_holdsTo (s := s) (t := t)  hst hG hL 0) (m0 (s := s) (t := t) (g := G.2.2.1) hL) rfl rfl rfl rfl dX8_suit_55 rfl kx_no (fun h8 => ?_)
          refine v_ifB_ne C (t := 63) dX8_suit_58 rfl rfl (fun _ => ?_) (fun h => absurd (by decide) h)
          refine v_aload_n C dX8_suit_63 rfl 1 rfl ?_
          refine v_get C (v := .ref (a 1 28)) g_X8_78 (m0 (s := s) (t := ((su t 45 0 0))) (g := G.2.2.1) hL) (rg (by decide) rfl) dX8_suit_64 rfl ?_
          refine v_iload_n C dX8_suit_67 rfl 2 rfl ?_
          refine v_iconst C (v := 1) dX8_suit_68 rfl rfl ?_
          refine v_zastE C (len := 30) (tn c) (put_m1 (s := s) (t := ((su t 45 0 0))) (g := G.2.2.1) hL 28 rfl (tn c) 1) rfl rfl (vp_cnt (by assumption) hc hc30 (by decide)) dX8_suit_69 rfl ?_
          refine v_aload_n C dX8_suit_70 rfl 1 rfl ?_
          refine v_iload_n C dX8_suit_71 rfl 2 rfl ?_
          refine w_invVr C [.int (c)] 0 0 L_X8_233 (c_X8_isSalted (s := s) (t := ((su (su t 45 0 0) 28 (tn c) 1))) (ns := ns) hst hG hL c _ (in_nI (N := 30) (vp_cnt (by assumption) hc hc30 (by decide)) (by omega)) (in_lt (N := 30) (vp_cnt (by assumption) hc hc30 (by decide))) hs hs600) (m0 (s := s) (t := ((su (su t 45 0 0) 28 (tn c) 1))) (g := G.2.2.1) hL) rfl rfl rfl rfl dX8_suit_72 rfl kx_no (fun h9 => ?_)
          refine v_if_ne C (t := 80) dX8_suit_75 rfl rfl (fun h10 => ?_) (fun h10 => ?_)
          · skip
            refine v_aload_n C dX8_suit_80 rfl 1 rfl ?_
            refine v_get C (v := .ref (a 1 31)) g_X8_87 (m0 (s := s) (t := ((su (su t 45 0 0) 28 (tn c) 1))) (g := G.2.2.1) hL) (rg (by decide) rfl) dX8_suit_81 rfl ?_
            refine v_iload_n C dX8_suit_84 rfl 2 rfl ?_
            refine v_iald C (len := 30) (m1 (s := s) (t := ((su (su t 45 0 0) 28 (tn c) 1))) (g := G.2.2.1) hL 31 rfl) (vp_cnt (by assumption) hc hc30 (by decide)) dX8_suit_85 rfl ?_
            refine xx_top (y := t 31 (tn c)) rfl ?_
            refine v_aload_n C dX8_suit_86 rfl 1 rfl ?_
            refine v_get C (v := .ref (a 1 16)) g_X8_44 (m0 (s := s) (t := ((su (su t 45 0 0) 28 (tn c) 1))) (g := G.2.2.1) hL) (rg (by decide) rfl) dX8_suit_87 rfl ?_
            refine v_aload_n C dX8_suit_90 rfl 1 rfl ?_
            refine v_get C (v := .ref (a 1 29)) g_X8_81 (m0 (s := s) (t := ((su (su t 45 0 0) 28 (tn c) 1))) (g := G.2.2.1) hL) (rg (by decide) rfl) dX8_suit_91 rfl ?_
            refine v_iload_n C dX8_suit_94 rfl 2 rfl ?_
            refine v_iald C (len := 30) (m1 (s := s) (t := ((su (su t 45 0 0) 28 (tn c) 1))) (g := G.2.2.1) hL 29 rfl) (vp_cnt (by assumption) hc hc30 (by decide)) dX8_suit_95 rfl ?_
            refine xx_top (y := t 29 (tn c)) rfl ?_
            refine v_iald C (len := 12) (m1 (s := s) (t := ((su (su t 45 0 0) 28 (tn c) 1))) (g := G.2.2.1) hL 16 rfl) (hsl _ (in_lt (vp_cnt (by assumption) hc (Nat.le_refl _) (by omega))) (by assumption)).1 dX8_suit_96 rfl ?_
            refine xx_top (y := t 16 (tn (t 29 (tn c)))) rfl ?_
            refine w_invSr C [.int (t 31 (tn c)), .int (t 16 (tn (t 29 (tn c))))] 0 0 L_X8_148 (c_X8_lesser (s := s) (t := ((su (su t 45 0 0) 28 (tn c) 1)))  hst hG hL (t 31 (tn c)) (t 16 (tn (t 29 (tn c))))) rfl rfl rfl dX8_suit_97 rfl kx_no (fun h11 => ?_)
            refine v_istore_n C (lv1 := [(3, .int (if (t 31 (tn c)) < (t 16 (tn (t 29 (tn c)))) then (t 31 (tn c)) else (t 16 (tn (t 29 (tn c)))))), (2, .int (bI ((0 : Int32) ≤ c ∧ c ≤ t 21 0 - 1))), (0, .ref (a 0 0)), (1, .int (c))]) dX8_suit_100 rfl (by decide) rfl ?_
            refine v_aload_n C dX8_suit_101 rfl 2 rfl ?_
            refine v_get C (v := .ref (a 1 16)) g_X8_44 (m0 (s := s) (t := ((su (su t 45 0 0) 28 (tn c) 1))) (g := G.2.2.1) hL) (rg (by decide) rfl) dX8_suit_102 rfl ?_
            refine v_aload_n C dX8_suit_105 rfl 2 rfl ?_
            refine v_get C (v := .ref (a 1 29)) g_X8_81 (m0 (s := s) (t := ((su (su t 45 0 0) 28 (tn c) 1))) (g := G.2.2.1) hL) (rg (by decide) rfl) dX8_suit_106 rfl ?_
            refine v_iload_n C dX8_suit_109 rfl 3 rfl ?_
            refine v_iald C (len := 30) (m1 (s := s) (t := ((su (su t 45 0 0) 28 (tn c) 1))) (g := G.2.2.1) hL 29 rfl) (vp_cnt (by assumption) hc hc30 (by decide)) dX8_suit_110 rfl ?_
            refine xx_top (y := t 29 (tn c)) rfl ?_
            refine v_dup2 C dX8_suit_111 rfl rfl rfl ?_
            refine v_iald C (len := 12) (m1 (s := s) (t := ((su (su t 45 0 0) 28 (tn c) 1))) (g := G.2.2.1) hL 16 rfl) (hsl _ (in_lt (vp_cnt (by assumption) hc (Nat.le_refl _) (by omega))) (by assumption)).1 dX8_suit_112 rfl ?_
            refine xx_top (y := t 16 (tn (t 29 (tn c)))) rfl ?_
            refine v_iload_n C dX8_suit_113 rfl 0 rfl ?_
            refine v_isub C dX8_suit_114 rfl ?_
            refine v_iastE C (len := 12) (tn (t 29 (tn c))) (put_m1 (s := s) (t := ((su (su t 45 0 0) 28 (tn c) 1))) (g := G.2.2.1) hL 16 rfl (tn (t 29 (tn c))) ((t 16 (tn (t 29 (tn c)))) - (if (t 31 (tn c)) < (t 16 (tn (t 29 (tn c)))) then (t 31 (tn c)) else (t 16 (tn (t 29 (tn c))))))) rfl (hsl _ (in_lt (vp_cnt (by assumption) hc (Nat.le_refl _) (by omega))) (by assumption)).1 dX8_suit_115 rfl ?_
            refine v_aload_n C dX8_suit_116 rfl 2 rfl ?_
            refine v_get C (v := .ref (a 1 16)) g_X8_44 (m0 (s := s) (t := ((su (su (su t 45 0 0) 28 (tn c) 1) 16 (tn (t 29 (tn c))) ((t 16 (tn (t 29 (tn c)))) - (if (t 31 (tn c)) < (t 16 (tn (t 29 (tn c)))) then (t 31 (tn c)) else (t 16 (tn (t 29 (tn c))))))))) (g := G.2.2.1) hL) (rg (by decide) rfl) dX8_suit_117 rfl ?_
            refine v_aload_n C dX8_suit_120 rfl 2 rfl ?_
            refine v_get C (v := .ref (a 1 30)) g_X8_84 (m0 (s := s) (t := ((su (su (su t 45 0 0) 28 (tn c) 1) 16 (tn (t 29 (tn c))) ((t 16 (tn (t 29 (tn c)))) - (if (t 31 (tn c)) < (t 16 (tn (t 29 (tn c)))) then (t 31 (tn c)) else (t 16 (tn (t 29 (tn c))))))))) (g := G.2.2.1) hL) (rg (by decide) rfl) dX8_suit_121 rfl ?_
            refine v_iload_n C dX8_suit_124 rfl 3 rfl ?_
            refine v_iald C (len := 30) (m1 (s := s) (t := ((su (su (su t 45 0 0) 28 (tn c) 1) 16 (tn (t 29 (tn c))) ((t 16 (tn (t 29 (tn c)))) - (if (t 31 (tn c)) < (t 16 (tn (t 29 (tn c)))) then (t 31 (tn c)) else (t 16 (tn (t 29 (tn c))))))))) (g := G.2.2.1) hL 30 rfl) (vp_cnt (by assumption) hc hc30 (by decide)) dX8_suit_125 rfl ?_
            refine xx_top (y := t 30 (tn c)) rfl ?_
            refine v_dup2 C dX8_suit_126 rfl rfl rfl ?_
            refine v_iald C (len := 12) (m1 (s := s) (t := ((su (su (su t 45 0 0) 28 (tn c) 1) 16 (tn (t 29 (tn c))) ((t 16 (tn (t 29 (tn c)))) - (if (t 31 (tn c)) < (t 16 (tn (t 29 (tn c)))) then (t 31 (tn c)) else (t 16 (tn (t 29 (tn c))))))))) (g := G.2.2.1) hL 16 rfl) (hsl _ (in_lt (vp_cnt (by assumption) hc (Nat.le_refl _) (by omega))) (by assumption)).2 dX8_suit_127 rfl ?_
            refine xx_top (y := (su (su (su t 45 0 0) 28 (tn c) 1) 16 (tn (t 29 (tn c))) ((t 16 (tn (t 29 (tn c)))) - (if (t 31 (tn c)) < (t 16 (tn (t 29 (tn c)))) then (t 31 (tn c)) else (t 16 (tn (t 29 (tn c))))))) 16 (tn (t 30 (tn c)))) rfl ?_
            refine v_iload_n C dX8_suit_128 rfl 0 rfl ?_
            refine v_iadd C dX8_suit_129 rfl ?_
            refine v_iastE C (len := 12) (tn (t 30 (tn c))) (put_m1 (s := s) (t := ((su (su (su t 45 0 0) 28 (tn c) 1) 16 (tn (t 29 (tn c))) ((t 16 (tn (t 29 (tn c)))) - (if (t 31 (tn c)) < (t 16 (tn (t 29 (tn c)))) then (t 31 (tn c)) else (t 16 (tn (t 29 (tn c))))))))) (g := G.2.2.1) hL 16 rfl (tn (t 30 (tn c))) (((su (su (su t 45 0 0) 28 (tn c) 1) 16 (tn (t 29 (tn c))) ((t 16 (tn (t 29 (tn c)))) - (if (t 31 (tn c)) < (t 16 (tn (t 29 (tn c)))) then (t 31 (tn c)) else (t 16 (tn (t 29 (tn c))))))) 16 (tn (t 30 (tn c)))) + (if (t 31 (tn c)) < (t 16 (tn (t 29 (tn c)))) then (t 31 (tn c)) else (t 16 (tn (t 29 (tn c))))))) rfl (hsl _ (in_lt (vp_cnt (by assumption) hc (Nat.le_refl _) (by omega))) (by assumption)).2 dX8_suit_130 rfl ?_
            refine v_iload_n C dX8_suit_131 rfl 0 rfl ?_
            exact v_iret C (by decide) (by decide) dX8_suit_132 ⟨congrArg (fun z => some (Value.int z)) (by first | rfl | (simp only [h2, h3, eq_true h5, h7, Int32.not_lt.mpr h7, h10, pM, pU, heldM_45, gvW_45, inW_45, livN_45, sum9_45, sum13_45, suitE, suitR, suitU, sltW_su, sltW_45, minF, s45_16, s45_28, s45_29, s45_30, s45_31, bI, pM, pU, n10, n20, n30, n0, if_true, if_false, ite_true, ite_false, not_true_eq_false, not_false_eq_true, and_true, true_and, and_false, false_and, or_true, true_or, or_false, false_or, reduceIte, and_self, or_self, ne_eq, eq_self_iff_true]; first | done | rfl) | (simp [bI, h2, h3, eq_true h5, h7, Int32.not_lt.mpr h7, h10, pM, pU, heldM_45, gvW_45, inW_45, livN_45, sum9_45, sum13_45, suitE, suitR, suitU, sltW_su, sltW_45, minF, s45_16, s45_28, s45_29, s45_30, s45_31]; done) | (simp only [pM, pU, heldM_45, gvW_45, inW_45, livN_45, sum9_45, sum13_45, suitE, suitR, suitU, sltW_su, sltW_45, minF, s45_16, s45_28, s45_29, s45_30, s45_31, bI, ← Int32.not_le] at *; simp [h2, h3, eq_true h5, h7, Int32.not_lt.mpr h7, h10]; done) | (simp_all [bI, h2, h3, eq_true h5, h7, Int32.not_lt.mpr h7, h10, pM, pU, heldM_45, gvW_45, inW_45, livN_45, sum9_45, sum13_45, suitE, suitR, suitU, sltW_su, sltW_45, minF, s45_16, s45_28, s45_29, s45_30, s45_31]; done) | (simp_all [bI, h2, h3, eq_true h5, h7, Int32.not_lt.mpr h7, h10, pM, pU, heldM_45, gvW_45, inW_45, livN_45, sum9_45, sum13_45, suitE, suitR, suitU, sltW_su, sltW_45, minF, s45_16, s45_28, s45_29, s45_30, s45_31]; rfl) | (exfalso; omega)), by first | rfl | (simp only [h2, h3, eq_true h5, h7, Int32.not_lt.mpr h7, h10, pM, pU, heldM_45, gvW_45, inW_45, livN_45, sum9_45, sum13_45, suitE, suitR, suitU, sltW_su, sltW_45, minF, s45_16, s45_28, s45_29, s45_30, s45_31, bI, pM, pU, n10, n20, n30, n0, if_true, if_false, ite_true, ite_false, not_true_eq_false, not_false_eq_true, and_true, true_and, and_false, false_and, or_true, true_or, or_false, false_or, reduceIte, and_self, or_self, ne_eq, eq_self_iff_true]; first | done | rfl) | (simp [bI, h2, h3, eq_true h5, h7, Int32.not_lt.mpr h7, h10, pM, pU, heldM_45, gvW_45, inW_45, livN_45, sum9_45, sum13_45, suitE, suitR, suitU, sltW_su, sltW_45, minF, s45_16, s45_28, s45_29, s45_30, s45_31]; done) | (simp only [pM, pU, heldM_45, gvW_45, inW_45, livN_45, sum9_45, sum13_45, suitE, suitR, suitU, sltW_su, sltW_45, minF, s45_16, s45_28, s45_29, s45_30, s45_31, bI, ← Int32.not_le] at *; simp [h2, h3, eq_true h5, h7, Int32.not_lt.mpr h7, h10]; done) | (simp_all [bI, h2, h3, eq_true h5, h7, Int32.not_lt.mpr h7, h10, pM, pU, heldM_45, gvW_45, inW_45, livN_45, sum9_45, sum13_45, suitE, suitR, suitU, sltW_su, sltW_45, minF, s45_16, s45_28, s45_29, s45_30, s45_31]; done) | (simp_all [bI, h2, h3, eq_true h5, h7, Int32.not_lt.mpr h7, h10, pM, pU, heldM_45, gvW_45, inW_45, livN_45, sum9_45, sum13_45, suitE, suitR, suitU, sltW_su, sltW_45, minF, s45_16, s45_28, s45_29, s45_30, s45_31]; rfl) | (exfalso; omega), by trivial⟩
          · skip
            refine v_iconst C (v := (-1)) dX8_suit_78 rfl rfl ?_
            exact v_iret C (by decide) (by decide) dX8_suit_79 ⟨congrArg (fun z => some (Value.int z)) (by first | rfl | (simp only [h2, h3, eq_true h5, h7, Int32.not_lt.mpr h7, eq_true h10, pM, pU, heldM_45, gvW_45, inW_45, livN_45, sum9_45, sum13_45, suitE, suitR, suitU, sltW_su, sltW_45, minF, s45_16, s45_28, s45_29, s45_30, s45_31, bI, pM, pU, n10, n20, n30, n0, if_true, if_false, ite_true, ite_false, not_true_eq_false, not_false_eq_true, and_true, true_and, and_false, false_and, or_true, true_or, or_false, false_or, reduceIte, and_self, or_self, ne_eq, eq_self_iff_true]; first | done | rfl) | (simp [bI, h2, h3, eq_true h5, h7, Int32.not_lt.mpr h7, eq_true h10, pM, pU, heldM_45, gvW_45, inW_45, livN_45, sum9_45, sum13_45, suitE, suitR, suitU, sltW_su, sltW_45, minF, s45_16, s45_28, s45_29, s45_30, s45_31]; done) | (simp only [pM, pU, heldM_45, gvW_45, inW_45, livN_45, sum9_45, sum13_45, suitE, suitR, suitU, sltW_su, sltW_45, minF, s45_16, s45_28, s45_29, s45_30, s45_31, bI, ← Int32.not_le] at *; simp [h2, h3, eq_true h5, h7, Int32.not_lt.mpr h7, eq_true h10]; done) | (simp_all [bI, h2, h3, eq_true h5, h7, Int32.not_lt.mpr h7, eq_true h10, pM, pU, heldM_45, gvW_45, inW_45, livN_45, sum9_45, sum13_45, suitE, suitR, suitU, sltW_su, sltW_45, minF, s45_16, s45_28, s45_29, s45_30, s45_31]; done) | (simp_all [bI, h2, h3, eq_true h5, h7, Int32.not_lt.mpr h7, eq_true h10, pM, pU, heldM_45, gvW_45, inW_45, livN_45, sum9_45, sum13_45, suitE, suitR, suitU, sltW_su, sltW_45, minF, s45_16, s45_28, s45_29, s45_30, s45_31]; rfl) | (exfalso; omega)), by first | rfl | (simp only [h2, h3, eq_true h5, h7, Int32.not_lt.mpr h7, eq_true h10, pM, pU, heldM_45, gvW_45, inW_45, livN_45, sum9_45, sum13_45, suitE, suitR, suitU, sltW_su, sltW_45, minF, s45_16, s45_28, s45_29, s45_30, s45_31, bI, pM, pU, n10, n20, n30, n0, if_true, if_false, ite_true, ite_false, not_true_eq_false, not_false_eq_true, and_true, true_and, and_false, false_and, or_true, true_or, or_false, false_or, reduceIte, and_self, or_self, ne_eq, eq_self_iff_true]; first | done | rfl) | (simp [bI, h2, h3, eq_true h5, h7, Int32.not_lt.mpr h7, eq_true h10, pM, pU, heldM_45, gvW_45, inW_45, livN_45, sum9_45, sum13_45, suitE, suitR, suitU, sltW_su, sltW_45, minF, s45_16, s45_28, s45_29, s45_30, s45_31]; done) | (simp only [pM, pU, heldM_45, gvW_45, inW_45, livN_45, sum9_45, sum13_45, suitE, suitR, suitU, sltW_su, sltW_45, minF, s45_16, s45_28, s45_29, s45_30, s45_31, bI, ← Int32.not_le] at *; simp [h2, h3, eq_true h5, h7, Int32.not_lt.mpr h7, eq_true h10]; done) | (simp_all [bI, h2, h3, eq_true h5, h7, Int32.not_lt.mpr h7, eq_true h10, pM, pU, heldM_45, gvW_45, inW_45, livN_45, sum9_45, sum13_45, suitE, suitR, suitU, sltW_su, sltW_45, minF, s45_16, s45_28, s45_29, s45_30, s45_31]; done) | (simp_all [bI, h2, h3, eq_true h5, h7, Int32.not_lt.mpr h7, eq_true h10, pM, pU, heldM_45, gvW_45, inW_45, livN_45, sum9_45, sum13_45, suitE, suitR, suitU, sltW_su, sltW_45, minF, s45_16, s45_28, s45_29, s45_30, s45_31]; rfl) | (exfalso; omega), by trivial⟩
        · skip
          refine v_iconst C (v := 2) dX8_suit_50 rfl rfl ?_
          refine v_goto C (q := 55) dX8_suit_51 rfl ?_
          refine w_invVr C [.int (2)] 0 0 L_X8_145 (c_X8_holdsTo (s := s) (t := t)  hst hG hL 2) (m0 (s := s) (t := t) (g := G.2.2.1) hL) rfl rfl rfl rfl dX8_suit_55 rfl kx_no (fun h12 => ?_)
          refine v_ifB_ne C (t := 63) dX8_suit_58 rfl rfl (fun h => absurd h (by decide)) (fun _ => ?_)
          refine v_iconst C (v := 0) dX8_suit_61 rfl rfl ?_
          exact v_iret C (by decide) (by decide) dX8_suit_62 ⟨congrArg (fun z => some (Value.int z)) (by first | rfl | (simp only [h2, h3, eq_true h5, h7, Int32.not_le.mp h7, pM, pU, heldM_45, gvW_45, inW_45, livN_45, sum9_45, sum13_45, suitE, suitR, suitU, sltW_su, sltW_45, minF, s45_16, s45_28, s45_29, s45_30, s45_31, bI, pM, pU, n10, n20, n30, n0, if_true, if_false, ite_true, ite_false, not_true_eq_false, not_false_eq_true, and_true, true_and, and_false, false_and, or_true, true_or, or_false, false_or, reduceIte, and_self, or_self, ne_eq, eq_self_iff_true]; first | done | rfl) | (simp [bI, h2, h3, eq_true h5, h7, Int32.not_le.mp h7, pM, pU, heldM_45, gvW_45, inW_45, livN_45, sum9_45, sum13_45, suitE, suitR, suitU, sltW_su, sltW_45, minF, s45_16, s45_28, s45_29, s45_30, s45_31]; done) | (simp only [pM, pU, heldM_45, gvW_45, inW_45, livN_45, sum9_45, sum13_45, suitE, suitR, suitU, sltW_su, sltW_45, minF, s45_16, s45_28, s45_29, s45_30, s45_31, bI, ← Int32.not_le] at *; simp [h2, h3, eq_true h5, h7, Int32.not_le.mp h7]; done) | (simp_all [bI, h2, h3, eq_true h5, h7, Int32.not_le.mp h7, pM, pU, heldM_45, gvW_45, inW_45, livN_45, sum9_45, sum13_45, suitE, suitR, suitU, sltW_su, sltW_45, minF, s45_16, s45_28, s45_29, s45_30, s45_31]; done) | (simp_all [bI, h2, h3, eq_true h5, h7, Int32.not_le.mp h7, pM, pU, heldM_45, gvW_45, inW_45, livN_45, sum9_45, sum13_45, suitE, suitR, suitU, sltW_su, sltW_45, minF, s45_16, s45_28, s45_29, s45_30, s45_31]; rfl) | (exfalso; omega)), by first | rfl | (simp only [h2, h3, eq_true h5, h7, Int32.not_le.mp h7, pM, pU, heldM_45, gvW_45, inW_45, livN_45, sum9_45, sum13_45, suitE, suitR, suitU, sltW_su, sltW_45, minF, s45_16, s45_28, s45_29, s45_30, s45_31, bI, pM, pU, n10, n20, n30, n0, if_true, if_false, ite_true, ite_false, not_true_eq_false, not_false_eq_true, and_true, true_and, and_false, false_and, or_true, true_or, or_false, false_or, reduceIte, and_self, or_self, ne_eq, eq_self_iff_true]; first | done | rfl) | (simp [bI, h2, h3, eq_true h5, h7, Int32.not_le.mp h7, pM, pU, heldM_45, gvW_45, inW_45, livN_45, sum9_45, sum13_45, suitE, suitR, suitU, sltW_su, sltW_45, minF, s45_16, s45_28, s45_29, s45_30, s45_31]; done) | (simp only [pM, pU, heldM_45, gvW_45, inW_45, livN_45, sum9_45, sum13_45, suitE, suitR, suitU, sltW_su, sltW_45, minF, s45_16, s45_28, s45_29, s45_30, s45_31, bI, ← Int32.not_le] at *; simp [h2, h3, eq_true h5, h7, Int32.not_le.mp h7]; done) | (simp_all [bI, h2, h3, eq_true h5, h7, Int32.not_le.mp h7, pM, pU, heldM_45, gvW_45, inW_45, livN_45, sum9_45, sum13_45, suitE, suitR, suitU, sltW_su, sltW_45, minF, s45_16, s45_28, s45_29, s45_30, s45_31]; done) | (simp_all [bI, h2, h3, eq_true h5, h7, Int32.not_le.mp h7, pM, pU, heldM_45, gvW_45, inW_45, livN_45, sum9_45, sum13_45, suitE, suitR, suitU, sltW_su, sltW_45, minF, s45_16, s45_28, s45_29, s45_30, s45_31]; rfl) | (exfalso; omega), by trivial⟩
  · skip
    refine v_iconst C (v := 1) dX8_suit_11 rfl rfl ?_
    refine v_goto C (q := 55) dX8_suit_12 rfl ?_
    refine w_invVr C [.int (1)] 0 0 L_X8_145 (c_X8_holdsTo (s := s) (t := t)  hst hG hL 1) (m0 (s := s) (t := t) (g := G.2.2.1) hL) rfl rfl rfl rfl dX8_suit_55 rfl kx_no (fun h13 => ?_)
    refine v_ifB_ne C (t := 63) dX8_suit_58 rfl rfl (fun h => absurd h (by decide)) (fun _ => ?_)
    refine v_iconst C (v := 0) dX8_suit_61 rfl rfl ?_
    exact v_iret C (by decide) (by decide) dX8_suit_62 ⟨congrArg (fun z => some (Value.int z)) (by first | rfl | (simp only [h2, pM, pU, heldM_45, gvW_45, inW_45, livN_45, sum9_45, sum13_45, suitE, suitR, suitU, sltW_su, sltW_45, minF, s45_16, s45_28, s45_29, s45_30, s45_31, bI, pM, pU, n10, n20, n30, n0, if_true, if_false, ite_true, ite_false, not_true_eq_false, not_false_eq_true, and_true, true_and, and_false, false_and, or_true, true_or, or_false, false_or, reduceIte, and_self, or_self, ne_eq, eq_self_iff_true]; first | done | rfl) | (simp [bI, h2, pM, pU, heldM_45, gvW_45, inW_45, livN_45, sum9_45, sum13_45, suitE, suitR, suitU, sltW_su, sltW_45, minF, s45_16, s45_28, s45_29, s45_30, s45_31]; done) | (simp only [pM, pU, heldM_45, gvW_45, inW_45, livN_45, sum9_45, sum13_45, suitE, suitR, suitU, sltW_su, sltW_45, minF, s45_16, s45_28, s45_29, s45_30, s45_31, bI, ← Int32.not_le] at *; simp [h2]; done) | (simp_all [bI, h2, pM, pU, heldM_45, gvW_45, inW_45, livN_45, sum9_45, sum13_45, suitE, suitR, suitU, sltW_su, sltW_45, minF, s45_16, s45_28, s45_29, s45_30, s45_31]; done) | (simp_all [bI, h2, pM, pU, heldM_45, gvW_45, inW_45, livN_45, sum9_45, sum13_45, suitE, suitR, suitU, sltW_su, sltW_45, minF, s45_16, s45_28, s45_29, s45_30, s45_31]; rfl) | (exfalso; omega)), by first | rfl | (simp only [h2, pM, pU, heldM_45, gvW_45, inW_45, livN_45, sum9_45, sum13_45, suitE, suitR, suitU, sltW_su, sltW_45, minF, s45_16, s45_28, s45_29, s45_30, s45_31, bI, pM, pU, n10, n20, n30, n0, if_true, if_false, ite_true, ite_false, not_true_eq_false, not_false_eq_true, and_true, true_and, and_false, false_and, or_true, true_or, or_false, false_or, reduceIte, and_self, or_self, ne_eq, eq_self_iff_true]; first | done | rfl) | (simp [bI, h2, pM, pU, heldM_45, gvW_45, inW_45, livN_45, sum9_45, sum13_45, suitE, suitR, suitU, sltW_su, sltW_45, minF, s45_16, s45_28, s45_29, s45_30, s45_31]; done) | (simp only [pM, pU, heldM_45, gvW_45, inW_45, livN_45, sum9_45, sum13_45, suitE, suitR, suitU, sltW_su, sltW_45, minF, s45_16, s45_28, s45_29, s45_30, s45_31, bI, ← Int32.not_le] at *; simp [h2]; done) | (simp_all [bI, h2, pM, pU, heldM_45, gvW_45, inW_45, livN_45, sum9_45, sum13_45, suitE, suitR, suitU, sltW_su, sltW_45, minF, s45_16, s45_28, s45_29, s45_30, s45_31]; done) | (simp_all [bI, h2, pM, pU, heldM_45, gvW_45, inW_45, livN_45, sum9_45, sum13_45, suitE, suitR, suitU, sltW_su, sltW_45, minF, s45_16, s45_28, s45_29, s45_30, s45_31]; rfl) | (exfalso; omega), by trivial⟩

