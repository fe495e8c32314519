theorem heldC_vpn {z : SS} {x : Int32} {n : Nat} (h : ¬ heldC z x n = -1) (hn : n < 1000) : vp_in (heldC z x n) n := by
  rcases heldC_in (z := z) (x := x) n with h1 | ⟨i, hi, h1⟩
  · exact absurd h1 h
  · rw [h1]; exact vp_in_nI hi (by omega)
theorem heldC_or {z : SS} {x y : Int32} {n : Nat} (hy : y = nI n) (hn : n < 1000) : heldC z x n = -1 ∨ ((0 : Int32) ≤ heldC z x n ∧ heldC z x n ≤ y - 1) := by
  by_cases h : heldC z x n = -1
  · exact Or.inl h
  · exact Or.inr (mi_vp (heldC_vpn h hn) hy hn)
def ydA (z : SS) (c g : Nat) : Nat → Int32
  | 0 => 0
  | k + 1 => minF (grF z (nI (c + k)) + ydA z c g k) (mostF (nI g)) - rcF (nI g) (minF (grF z (nI (c + k)) + ydA z c g k) (mostF (nI g))) (claF z (nI (c + k)))
def ydS (z : SS) (c g : Nat) : Nat → Int32
  | 0 => 0
  | k + 1 => ydS z c g k + rcF (nI g) (minF (grF z (nI (c + k)) + ydA z c g k) (mostF (nI g))) (claF z (nI (c + k)))
def workEC (z : SS) (nm nc nr : Nat) (x c m : Int32) : Int32 := if ¬ (((0 : Int32) ≤ x ∧ x ≤ z 12 0 - 1) ∧ ((0 : Int32) ≤ c ∧ c ≤ 39)) then 1 else if ¬ ((0 : Int32) ≤ m ∧ m ≤ 3) then 2 else if z 17 (tn x) = 0 ∨ z 19 (tn x) = z 0 0 ∨ mayG z (tn m) x (heldC z c nc) = 0 ∨ inW z x nr < needF (nI (tn m)) then 3 else 0
def workRC (z : SS) (c m : Int32) : Int32 := rcF (nI (tn m)) (minF (grF z c) (mostF (nI (tn m)))) (claF z c)
def workUC (z : SS) (nm nc : Nat) (x c m : Int32) : SS := shaF (wkE (su (su (digC z c (nI (tn m))) 8 0 1) 19 (tn x) (z 0 0)) (heldC z c nc) (z 0 0)) (tn x) (workRC z c m) nm
def saltUC (z : SS) (nc : Nat) (x c m : Int32) : SS := spW (su (su (dropF (su z 13 (tn x) (z 13 (tn x) - m)) c m) 8 0 1) 52 (40 * tn x + tn c) (z 0 0)) x c nc
def tradeUC (z : SS) (c b m : Int32) : SS := slT (su (su z 16 (tn b) (z 16 (tn b) - m)) 16 (tn (z 22 (tn c))) ((su z 16 (tn b) (z 16 (tn b) - m)) 16 (tn (z 22 (tn c))) + m)) (tn c) b m (z 0 0) (slC z (tn (z 22 (tn c))) (tn (z 23 (tn c))) (z 0 0) (tn (z 24 (tn c))))
def suitEC (z : SS) (c : Int32) : Int32 := if ¬ ((0 : Int32) ≤ c ∧ c ≤ z 21 0 - 1) then 1 else if z 53 (tn c) = -1 ∨ ¬ z 28 (tn c) = 0 ∨ 30 < z 0 0 - z 32 (tn c) then 2 else 0
def suitRC (z : SS) (c : Int32) : Int32 := if z 54 (tn c) = 0 then -1 else minF (z 31 (tn c)) (z 16 (tn (z 53 (tn c))))
def suitUC (z : SS) (c : Int32) : SS := if z 54 (tn c) = 0 then su z 28 (tn c) 1 else su (su (su z 28 (tn c) 1) 16 (tn (z 53 (tn c))) (z 16 (tn (z 53 (tn c))) - minF (z 31 (tn c)) (z 16 (tn (z 53 (tn c)))))) 16 (tn (z 22 (tn c))) ((su (su z 28 (tn c) 1) 16 (tn (z 53 (tn c))) (z 16 (tn (z 53 (tn c))) - minF (z 31 (tn c)) (z 16 (tn (z 53 (tn c)))))) 16 (tn (z 22 (tn c))) + minF (z 31 (tn c)) (z 16 (tn (z 53 (tn c)))))
def planEC (z : SS) (c m : Int32) : Int32 := if ¬ ((0 : Int32) ≤ c ∧ c ≤ z 21 0 - 1) then 1 else if ¬ ((0 : Int32) ≤ m ∧ m ≤ 3) then 2 else if 5 < z 24 (tn c) then 3 else 0
def planCellEC (z : SS) (c m p : Int32) : Int32 := if ¬ (((0 : Int32) ≤ c ∧ c ≤ z 21 0 - 1) ∧ 0 ≤ p) then 1 else if ¬ ((0 : Int32) ≤ m ∧ m ≤ 3) then 2 else if 5 < z 24 (tn c) then 3 else 0
def planCellRC (z : SS) (c p : Int32) : Int32 := if p < z 24 (tn c) then z 23 (tn c) + p else -1

abbrev r_X1_yieldDownwards : Room := { frames := 2, cells := 0, slots := 0, locals := 41 }
set_option maxRecDepth 4000 in
theorem c_X1_yieldDownwards {l : Launch} {G : GG} {a : AD} {s t s0 : SS} {L : List (Nat × Nat)}  (hst : l.stackTraces = false) (hG : GOK G) (hL : Live L s0) (x : Int32) (j_x : Nat) (e_x : x = nI j_x) (l_x : j_x < 40) (m : Int32) (j_m : Nat) (e_m : m = nI j_m) (l_m : j_m < 11) (g_g : Nat) (l_g : g_g < 4)  : Mth l yX1_yieldDownwards cX1_yieldDownwards 9 (Option.some Jvm.ClassFile.FieldType.int) r_X1_yieldDownwards G (wl a (E G.2.2.1 a s t) L) [.ref (a 3 0), .int x, .int m, .ref (G.2.2.1 (20 + g_g))] (RI (.int (ydS s j_x g_g j_m)) (wl a (E G.2.2.1 a s t) L) (True)) nX := by
  refine mth_of rfl (Nat.le_of_ble_eq_true rfl) hst hG (fun X hX C0 => ?_)
  subst hX
  have C : Cx X G cX1_yieldDownwards 9 RX1 (Option.some Jvm.ClassFile.FieldType.int) r_X1_yieldDownwards "yieldDownwards" [] := C0
  clear C0
  show V X G 9 _ 0 0 _ 0 [(0, .ref (a 3 0)), (1, .int (x)), (2, .int (m)), (3, .ref (G.2.2.1 (20 + g_g)))] []
  subst e_x
  subst e_m
  refine v_iconst C (v := 0) dX1_yieldDownwards_0 rfl rfl ?_
  refine v_istore C (lv1 := [(4, .int (0)), (0, .ref (a 3 0)), (1, .int (nI (j_x))), (2, .int (nI (j_m))), (3, .ref (G.2.2.1 (20 + g_g)))]) dX1_yieldDownwards_1 rfl (by decide) rfl ?_
  refine v_iconst C (v := 0) dX1_yieldDownwards_3 rfl rfl ?_
  refine v_istore C (lv1 := [(5, .int (0)), (4, .int (0)), (0, .ref (a 3 0)), (1, .int (nI (j_x))), (2, .int (nI (j_m))), (3, .ref (G.2.2.1 (20 + g_g)))]) dX1_yieldDownwards_4 rfl (by decide) rfl ?_
  refine v_iload_n C dX1_yieldDownwards_6 rfl 3 rfl ?_
  refine v_istore C (lv1 := [(6, .int (nI (j_x))), (5, .int (0)), (4, .int (0)), (0, .ref (a 3 0)), (1, .int (nI (j_x))), (2, .int (nI (j_m))), (3, .ref (G.2.2.1 (20 + g_g)))]) dX1_yieldDownwards_7 rfl (by decide) rfl ?_
  refine xx_lv [3, 4, 5, 6, 2, 1, 0] (lv' := [(0, .ref (a 3 0)), (1, .int (nI (j_x))), (2, .int (nI (j_m))), (3, .ref (G.2.2.1 (20 + g_g))), (4, .int (0)), (5, .int (0)), (6, .int (nI (j_x)))]) rfl ?_
  refine xx_wc (w2 := wl a (E G.2.2.1 a s t) L) (lv' := [(0, .ref (a 3 0)), (1, .int (nI (j_x))), (2, .int (nI (j_m))), (3, .ref (G.2.2.1 (20 + g_g))), (4, .int (ydS s j_x g_g 0)), (5, .int (ydA s j_x g_g 0)), (6, .int (nI (j_x + 0)))]) (by rfl) (by first | rfl | (simp [bI, ydS, ydA]; done)) ?_
  refine xx_loop (j_m) 0 (fun i => wl a (E G.2.2.1 a s t) L) (fun i => [(0, .ref (a 3 0)), (1, .int (nI (j_x))), (2, .int (nI (j_m))), (3, .ref (G.2.2.1 (20 + g_g))), (4, .int (ydS s j_x g_g i)), (5, .int (ydA s j_x g_g i)), (6, .int (nI (j_x + i)))]) (by omega) ?_
  intro i hi0 hiN ih_i
  refine v_iload C dX1_yieldDownwards_9 rfl 6 rfl ?_
  refine v_iload_n C dX1_yieldDownwards_11 rfl 1 rfl ?_
  refine v_iload_n C dX1_yieldDownwards_12 rfl 2 rfl ?_
  refine v_iaddN C j_x j_m rfl rfl dX1_yieldDownwards_13 rfl ?_
  refine v_icN_ge C (t := 69) (j_x + i) (j_x + j_m) rfl rfl (by omega) (by omega) dX1_yieldDownwards_14 rfl rfl (fun h1 => ?_) (fun h1 => ?_)
  · skip
    refine v_iload C dX1_yieldDownwards_69 rfl 4 rfl ?_
    exact v_iret C (by decide) (by decide) dX1_yieldDownwards_71 ⟨congrArg (fun z => some (Value.int z)) (by (have : i = j_m := by omega); subst this; rfl), by rfl, by trivial⟩
  · skip
    refine v_aload_n C dX1_yieldDownwards_17 rfl 0 rfl ?_
    refine v_iload C dX1_yieldDownwards_18 rfl 6 rfl ?_
    refine w_invVr C [.int (nI (j_x + i))] 0 0 L_X1_30 (c_X1_grainsAt (s := s) (t := t)  hst hG hL (nI (j_x + i))) (m3 (s := s) (t := t) (g := G.2.2.1) hL) rfl rfl rfl rfl dX1_yieldDownwards_20 rfl kx_no (fun h2 => ?_)
    refine v_iload C dX1_yieldDownwards_23 rfl 5 rfl ?_
    refine v_iadd C dX1_yieldDownwards_25 rfl ?_
    refine v_aload_n C dX1_yieldDownwards_26 rfl 3 rfl ?_
    refine v_getO C (v := .int (mostF (nI g_g))) (Or.inr ⟨"NuggetCamp", (qn4 120 rfl rfl)⟩) (gear_mostTaken C (by omega)) dX1_yieldDownwards_27 rfl ?_
    refine v_mmin C L_X1_39.2.1 L_X1_39.2.2 L_X1_39.1.1 L_X1_39.1.2.1 (by decide) (Nat.le_of_ble_eq_true rfl) (by decide) (by decide) dX1_yieldDownwards_30 rfl ?_
    refine xx_top (y := minF ((grF s (nI (j_x + i))) + (ydA s j_x g_g i)) (mostF (nI g_g))) mn_c ?_
    refine v_istore C (lv1 := [(7, .int (minF ((grF s (nI (j_x + i))) + (ydA s j_x g_g i)) (mostF (nI g_g)))), (0, .ref (a 3 0)), (1, .int (nI (j_x))), (2, .int (nI (j_m))), (3, .ref (G.2.2.1 (20 + g_g))), (4, .int (ydS s j_x g_g i)), (5, .int (ydA s j_x g_g i)), (6, .int (nI (j_x + i)))]) dX1_yieldDownwards_33 rfl (by decide) rfl ?_
    refine v_aload_n C dX1_yieldDownwards_35 rfl 4 rfl ?_
    refine v_iload C dX1_yieldDownwards_36 rfl 0 rfl ?_
    refine v_aload_n C dX1_yieldDownwards_38 rfl 1 rfl ?_
    refine v_iload C dX1_yieldDownwards_39 rfl 7 rfl ?_
    refine w_invVr C [.int (nI (j_x + i))] 0 0 L_X1_45 (c_X1_clayAt (s := s) (t := t)  hst hG hL (nI (j_x + i))) (m3 (s := s) (t := t) (g := G.2.2.1) hL) rfl rfl rfl rfl dX1_yieldDownwards_41 rfl kx_no (fun h3 => ?_)
    refine w_invVOr C [.int (minF ((grF s (nI (j_x + i))) + (ydA s j_x g_g i)) (mostF (nI g_g))), .int (claF s (nI (j_x + i)))] 0 0 L_X1_48 (c_X2_recoveredOf (s := s) (t := t)  hst hG hL g_g (by omega) (minF ((grF s (nI (j_x + i))) + (ydA s j_x g_g i)) (mostF (nI g_g))) (claF s (nI (j_x + i)))) (gear_O C (by omega)) rfl rfl rfl dX1_yieldDownwards_44 rfl kx_no (fun h4 => ?_)
    refine v_istore C (lv1 := [(8, .int (rcF (nI g_g) (minF ((grF s (nI (j_x + i))) + (ydA s j_x g_g i)) (mostF (nI g_g))) (claF s (nI (j_x + i))))), (7, .int (minF ((grF s (nI (j_x + i))) + (ydA s j_x g_g i)) (mostF (nI g_g)))), (0, .ref (a 3 0)), (1, .int (nI (j_x))), (2, .int (nI (j_m))), (3, .ref (G.2.2.1 (20 + g_g))), (4, .int (ydS s j_x g_g i)), (5, .int (ydA s j_x g_g i)), (6, .int (nI (j_x + i)))]) dX1_yieldDownwards_47 rfl (by decide) rfl ?_
    refine v_iload C dX1_yieldDownwards_49 rfl 6 rfl ?_
    refine v_iload C dX1_yieldDownwards_51 rfl 0 rfl ?_
    refine v_iadd C dX1_yieldDownwards_53 rfl ?_
    refine v_istore C (lv1 := [(4, .int ((ydS s j_x g_g i) + (rcF (nI g_g) (minF ((grF s (nI (j_x + i))) + (ydA s j_x g_g i)) (mostF (nI g_g))) (claF s (nI (j_x + i)))))), (8, .int (rcF (nI g_g) (minF ((grF s (nI (j_x + i))) + (ydA s j_x g_g i)) (mostF (nI g_g))) (claF s (nI (j_x + i))))), (7, .int (minF ((grF s (nI (j_x + i))) + (ydA s j_x g_g i)) (mostF (nI g_g)))), (0, .ref (a 3 0)), (1, .int (nI (j_x))), (2, .int (nI (j_m))), (3, .ref (G.2.2.1 (20 + g_g))), (5, .int (ydA s j_x g_g i)), (6, .int (nI (j_x + i)))]) dX1_yieldDownwards_54 rfl (by decide) rfl ?_
    refine v_iload C dX1_yieldDownwards_56 rfl 2 rfl ?_
    refine v_iload C dX1_yieldDownwards_58 rfl 1 rfl ?_
    refine v_isub C dX1_yieldDownwards_60 rfl ?_
    refine v_istore C (lv1 := [(5, .int ((minF ((grF s (nI (j_x + i))) + (ydA s j_x g_g i)) (mostF (nI g_g))) - (rcF (nI g_g) (minF ((grF s (nI (j_x + i))) + (ydA s j_x g_g i)) (mostF (nI g_g))) (claF s (nI (j_x + i)))))), (4, .int ((ydS s j_x g_g i) + (rcF (nI g_g) (minF ((grF s (nI (j_x + i))) + (ydA s j_x g_g i)) (mostF (nI g_g))) (claF s (nI (j_x + i)))))), (8, .int (rcF (nI g_g) (minF ((grF s (nI (j_x + i))) + (ydA s j_x g_g i)) (mostF (nI g_g))) (claF s (nI (j_x + i))))), (7, .int (minF ((grF s (nI (j_x + i))) + (ydA s j_x g_g i)) (mostF (nI g_g)))), (0, .ref (a 3 0)), (1, .int (nI (j_x))), (2, .int (nI (j_m))), (3, .ref (G.2.2.1 (20 + g_g))), (6, .int (nI (j_x + i)))]) dX1_yieldDownwards_61 rfl (by decide) rfl ?_
    refine v_iincN C (lv1 := [(6, .int (nI (j_x + i + 1))), (5, .int ((minF ((grF s (nI (j_x + i))) + (ydA s j_x g_g i)) (mostF (nI g_g))) - (rcF (nI g_g) (minF ((grF s (nI (j_x + i))) + (ydA s j_x g_g i)) (mostF (nI g_g))) (claF s (nI (j_x + i)))))), (4, .int ((ydS s j_x g_g i) + (rcF (nI g_g) (minF ((grF s (nI (j_x + i))) + (ydA s j_x g_g i)) (mostF (nI g_g))) (claF s (nI (j_x + i)))))), (8, .int (rcF (nI g_g) (minF ((grF s (nI (j_x + i))) + (ydA s j_x g_g i)) (mostF (nI g_g))) (claF s (nI (j_x + i))))), (7, .int (minF ((grF s (nI (j_x + i))) + (ydA s j_x g_g i)) (mostF (nI g_g)))), (0, .ref (a 3 0)), (1, .int (nI (j_x))), (2, .int (nI (j_m))), (3, .ref (G.2.2.1 (20 + g_g)))]) (j_x + i) rfl dX1_yieldDownwards_63 rfl 8 rfl (by decide) rfl ?_
    refine v_goto C (q := 9) dX1_yieldDownwards_66 rfl ?_
    refine xx_lv [5, 6, 7, 8, 2, 1, 0] (lv' := [(0, .ref (a 3 0)), (1, .int (nI (j_x))), (2, .int (nI (j_m))), (3, .ref (G.2.2.1 (20 + g_g))), (4, .int ((ydS s j_x g_g i) + (rcF (nI g_g) (minF ((grF s (nI (j_x + i))) + (ydA s j_x g_g i)) (mostF (nI g_g))) (claF s (nI (j_x + i)))))), (5, .int ((minF ((grF s (nI (j_x + i))) + (ydA s j_x g_g i)) (mostF (nI g_g))) - (rcF (nI g_g) (minF ((grF s (nI (j_x + i))) + (ydA s j_x g_g i)) (mostF (nI g_g))) (claF s (nI (j_x + i)))))), (6, .int (nI (j_x + i + 1)))]) rfl ?_
    refine xx_wc (w2 := wl a (E G.2.2.1 a s t) L) (lv' := [(0, .ref (a 3 0)), (1, .int (nI (j_x))), (2, .int (nI (j_m))), (3, .ref (G.2.2.1 (20 + g_g))), (4, .int (ydS s j_x g_g (i + 1))), (5, .int (ydA s j_x g_g (i + 1))), (6, .int (nI (j_x + (i + 1))))]) (by rfl) (by first | rfl | (simp [h1, Nat.not_le.mpr h1, ydS, ydA, Nat.add_assoc])) ?_
    exact ih_i (by omega)

abbrev r_X7_gets : Room := { frames := 7, cells := 1, slots := 6, locals := 110 }
set_option maxRecDepth 4000 in
theorem c_X7_gets {l : Launch} {G : GG} {a : AD} {s t s0 : SS} {L : List (Nat × Nat)} {nm : Nat} {nr : Nat} (hst : l.stackTraces = false) (hG : GOK G) (hL : Live L s0) (x : Int32) (hlm : LsOK a s s0 0 nm) (hm12 : nm ≤ 12) (hv_nm : ∀ i, i < nm → i < tn (s0 12 0)) (hlr : LsOK a s s0 2 nr) (hr20 : nr ≤ 20) (hv_nr : ∀ i, i < nr → i < tn (s0 33 0)) (hro : ∀ i, i < nr → vp_in (s 34 i) nm) : Mth l yX7_gets cX7_gets 2 (Option.some Jvm.ClassFile.FieldType.int) r_X7_gets G (wl a (E G.2.2.1 a s t) L) [.ref (a 2 0), .int x] (RI (.int (getsR s x)) (wl a (E G.2.2.1 a s t) L) (getsE s x = 0)) (XW (fun E => pE LI1 (getsE s x) E) (wl a (E G.2.2.1 a s t) L)) := by
  refine mth_of rfl (Nat.le_of_ble_eq_true rfl) hst hG (fun X hX C0 => ?_)
  subst hX
  have C : Cx X G cX7_gets 2 RX7 (Option.some Jvm.ClassFile.FieldType.int) r_X7_gets "gets" [] := C0
  clear C0
  show V X G 2 _ 0 0 _ 0 [(0, .ref (a 2 0)), (1, .int (x))] []
  refine v_iload_n C dX7_gets_0 rfl 1 rfl ?_
  refine v_if_lt C (t := 19) dX7_gets_1 rfl rfl (fun h1 => ?_) (fun h1 => ?_)
  · skip
    refine v_iconst C (v := 0) dX7_gets_19 rfl rfl ?_
    refine w_invSv C [.int (0)] 1 6 L_X7_112 (c_X7_checkIndex (s := s) (t := t)  hst hG hL 0) rfl rfl rfl dX7_gets_20 rfl (kx_out C (by decide) (fun E w1 hE => by obtain ⟨⟨rfl, h2⟩, rfl⟩ := hE; exact ⟨⟨1, List.Mem.head _, by first | rfl | (simp only [h1, Int32.not_le.mpr h1, h2, getsE, getsR, hlr.p2, ltc (show nr < 1000 by omega), bI, pM, pU, n10, n20, n30, n0, if_true, if_false, ite_true, ite_false, not_true_eq_false, not_false_eq_true, and_true, true_and, and_false, false_and, or_true, true_or, or_false, false_or, reduceIte, and_self, or_self, ne_eq, eq_self_iff_true]; first | done | rfl) | (simp [bI, h1, Int32.not_le.mpr h1, h2, getsE, getsR, hlr.p2, ltc (show nr < 1000 by omega)]; done) | (simp only [getsE, getsR, hlr.p2, ltc (show nr < 1000 by omega), bI, ← Int32.not_le] at *; simp [h1, Int32.not_le.mpr h1, h2]; done) | (simp_all [bI, h1, Int32.not_le.mpr h1, h2, getsE, getsR, hlr.p2, ltc (show nr < 1000 by omega)]; done) | (simp_all [bI, h1, Int32.not_le.mpr h1, h2, getsE, getsR, hlr.p2, ltc (show nr < 1000 by omega)]; rfl) | (exfalso; omega)⟩, rfl⟩)) (fun h3 => ?_)
    exact absurd rfl h3
  · skip
    refine v_iload_n C dX7_gets_4 rfl 1 rfl ?_
    refine v_aload_n C dX7_gets_5 rfl 0 rfl ?_
    refine v_get C (v := .ref (a 6 2)) g_X7_40 (m2 (s := s) (t := t) (g := G.2.2.1) hL) (rg (by decide) rfl) dX7_gets_6 rfl ?_
    refine w_invVr C [] 0 0 L_X7_86 (c_Jx4a65c_size_8abf5 (s := s) (t := t)  hst hG hL 2 (by decide)) (m6 (s := s) (t := t) (g := G.2.2.1) hL 2 (by decide)) rfl rfl rfl rfl dX7_gets_9 rfl kx_no (fun h4 => ?_)
    refine xx_top (y := s 33 0) rfl ?_
    refine xx_top (y := nI nr) hlr.p2 ?_
    refine v_icmp_ge C (t := 19) dX7_gets_12 rfl rfl (fun h5 => ?_) (fun h5 => ?_)
    · skip
      refine v_iconst C (v := 0) dX7_gets_19 rfl rfl ?_
      refine w_invSv C [.int (0)] 1 6 L_X7_112 (c_X7_checkIndex (s := s) (t := t)  hst hG hL 0) rfl rfl rfl dX7_gets_20 rfl (kx_out C (by decide) (fun E w1 hE => by obtain ⟨⟨rfl, h6⟩, rfl⟩ := hE; exact ⟨⟨1, List.Mem.head _, by first | rfl | (simp only [h1, Int32.not_lt.mp h1, h5, Int32.not_lt.mpr h5, h6, getsE, getsR, hlr.p2, ltc (show nr < 1000 by omega), bI, pM, pU, n10, n20, n30, n0, if_true, if_false, ite_true, ite_false, not_true_eq_false, not_false_eq_true, and_true, true_and, and_false, false_and, or_true, true_or, or_false, false_or, reduceIte, and_self, or_self, ne_eq, eq_self_iff_true]; first | done | rfl) | (simp [bI, h1, Int32.not_lt.mp h1, h5, Int32.not_lt.mpr h5, h6, getsE, getsR, hlr.p2, ltc (show nr < 1000 by omega)]; done) | (simp only [getsE, getsR, hlr.p2, ltc (show nr < 1000 by omega), bI, ← Int32.not_le] at *; simp [h1, Int32.not_lt.mp h1, h5, Int32.not_lt.mpr h5, h6]; done) | (simp_all [bI, h1, Int32.not_lt.mp h1, h5, Int32.not_lt.mpr h5, h6, getsE, getsR, hlr.p2, ltc (show nr < 1000 by omega)]; done) | (simp_all [bI, h1, Int32.not_lt.mp h1, h5, Int32.not_lt.mpr h5, h6, getsE, getsR, hlr.p2, ltc (show nr < 1000 by omega)]; rfl) | (exfalso; omega)⟩, rfl⟩)) (fun h7 => ?_)
      exact absurd rfl h7
    · skip
      refine v_iconst C (v := 1) dX7_gets_15 rfl rfl ?_
      refine v_goto C (q := 20) dX7_gets_16 rfl ?_
      refine w_invSv C [.int (1)] 1 6 L_X7_112 (c_X7_checkIndex (s := s) (t := t)  hst hG hL 1) rfl rfl rfl dX7_gets_20 rfl (fun E w1 hE => absurd hE.1.2 (by decide)) (fun h8 => ?_)
      have hP : vp_in x nr := vp_cnt (z := nI nr) (by rw [ltc (by omega)]; exact ⟨Int32.not_lt.mp (by assumption), Int32.not_le.mp (by assumption)⟩) rfl (Nat.le_refl _) (by omega)
      refine v_aload_n C dX7_gets_23 rfl 0 rfl ?_
      refine v_iload_n C dX7_gets_24 rfl 1 rfl ?_
      refine w_invVr C [.int (x)] 1 6 L_X7_276 (c_X7_inchesOfRight (s := s) (t := t) (nm := nm) (nr := nr) hst hG hL x _ (in_nI (N := 20) (vp_up hP hr20) (by omega)) (in_lt (N := 20) (vp_up hP hr20)) hlm hm12 hv_nm hlr hr20 hv_nr hro (in_lt hP)) (m2 (s := s) (t := t) (g := G.2.2.1) hL) rfl rfl rfl rfl dX7_gets_25 rfl kx_no (fun h9 => ?_)
      exact v_iret C (by decide) (by decide) dX7_gets_28 ⟨congrArg (fun z => some (Value.int z)) (by first | rfl | (simp only [h1, Int32.not_lt.mp h1, h5, Int32.not_le.mp h5, getsE, getsR, hlr.p2, ltc (show nr < 1000 by omega), bI, pM, pU, n10, n20, n30, n0, if_true, if_false, ite_true, ite_false, not_true_eq_false, not_false_eq_true, and_true, true_and, and_false, false_and, or_true, true_or, or_false, false_or, reduceIte, and_self, or_self, ne_eq, eq_self_iff_true]; first | done | rfl) | (simp [bI, h1, Int32.not_lt.mp h1, h5, Int32.not_le.mp h5, getsE, getsR, hlr.p2, ltc (show nr < 1000 by omega)]; done) | (simp only [getsE, getsR, hlr.p2, ltc (show nr < 1000 by omega), bI, ← Int32.not_le] at *; simp [h1, Int32.not_lt.mp h1, h5, Int32.not_le.mp h5]; done) | (simp_all [bI, h1, Int32.not_lt.mp h1, h5, Int32.not_le.mp h5, getsE, getsR, hlr.p2, ltc (show nr < 1000 by omega)]; done) | (simp_all [bI, h1, Int32.not_lt.mp h1, h5, Int32.not_le.mp h5, getsE, getsR, hlr.p2, ltc (show nr < 1000 by omega)]; rfl) | (exfalso; omega)), by rfl, by first | assumption | first | rfl | (simp only [h1, Int32.not_lt.mp h1, h5, Int32.not_le.mp h5, getsE, getsR, hlr.p2, ltc (show nr < 1000 by omega), bI, pM, pU, n10, n20, n30, n0, if_true, if_false, ite_true, ite_false, not_true_eq_false, not_false_eq_true, and_true, true_and, and_false, false_and, or_true, true_or, or_false, false_or, reduceIte, and_self, or_self, ne_eq, eq_self_iff_true]; first | done | rfl) | (simp [bI, h1, Int32.not_lt.mp h1, h5, Int32.not_le.mp h5, getsE, getsR, hlr.p2, ltc (show nr < 1000 by omega)]; done) | (simp only [getsE, getsR, hlr.p2, ltc (show nr < 1000 by omega), bI, ← Int32.not_le] at *; simp [h1, Int32.not_lt.mp h1, h5, Int32.not_le.mp h5]; done) | (simp_all [bI, h1, Int32.not_lt.mp h1, h5, Int32.not_le.mp h5, getsE, getsR, hlr.p2, ltc (show nr < 1000 by omega)]; done) | (simp_all [bI, h1, Int32.not_lt.mp h1, h5, Int32.not_le.mp h5, getsE, getsR, hlr.p2, ltc (show nr < 1000 by omega)]; rfl) | (exfalso; omega)⟩

abbrev r_X7_work : Room := { frames := 8, cells := 6, slots := 36, locals := 133 }
set_option maxRecDepth 4000 in
theorem c_X7_work {l : Launch} {G : GG} {a : AD} {s t s0 : SS} {L : List (Nat × Nat)} {nm : Nat} {nc : Nat} {nr : Nat} (hst : l.stackTraces = false) (hG : GOK G) (hL : Live L s0) (x : Int32) (c : Int32) (m : Int32) (hlm : LsOK a s s0 0 nm) (hm12 : nm ≤ 12) (hv_nm : ∀ i, i < nm → i < tn (s0 12 0)) (hlc : LsOK a s s0 1 nc) (hv_nc : ∀ i, i < nc → i < tn (s0 21 0)) (hlr : LsOK a s s0 2 nr) (hr20 : nr ≤ 20) (hv_nr : ∀ i, i < nr → i < tn (s0 33 0)) (hro : ∀ i, i < nr → vp_in (s 34 i) nm) : Mth l yX7_work cX7_work 8 (Option.some Jvm.ClassFile.FieldType.int) r_X7_work G (wl a (E G.2.2.1 a s t) L) [.ref (a 2 0), .int x, .int c, .int m] (RI (.int (workRC s c m)) (wl a (E G.2.2.1 a (workUC s nm nc x c m) t) L) (workEC s nm nc nr x c m = 0)) (XW (fun E => pE L3 (workEC s nm nc nr x c m) E) (wl a (E G.2.2.1 a s t) L)) := by
  refine mth_of rfl (Nat.le_of_ble_eq_true rfl) hst hG (fun X hX C0 => ?_)
  subst hX
  have C : Cx X G cX7_work 8 RX7 (Option.some Jvm.ClassFile.FieldType.int) r_X7_work "work" [] := C0
  clear C0
  show V X G 8 _ 0 0 _ 0 [(0, .ref (a 2 0)), (1, .int (x)), (2, .int (c)), (3, .int (m))] []
  have hc30 := hlc.2.1
  refine v_aload_n C dX7_work_0 rfl 0 rfl ?_
  refine v_iload_n C dX7_work_1 rfl 1 rfl ?_
  refine w_invVr C [.int (x)] 1 6 L_X7_108 (c_X7_minerAt (s := s) (t := t) (nm := nm) hst hG hL x hlm hm12 hv_nm) (m2 (s := s) (t := t) (g := G.2.2.1) hL) rfl rfl rfl rfl dX7_work_2 rfl (kx_out C (by decide) (fun E w1 hE => by obtain ⟨⟨rfl, h1⟩, rfl⟩ := hE; exact ⟨⟨1, List.Mem.head _, by first | rfl | (simp only [h1, workEC, workRC, workUC, wkE, bI, pM, pU, n10, n20, n30, n0, if_true, if_false, ite_true, ite_false, not_true_eq_false, not_false_eq_true, and_true, true_and, and_false, false_and, or_true, true_or, or_false, false_or, reduceIte, and_self, or_self, ne_eq, eq_self_iff_true]; first | done | rfl) | (simp [bI, h1, workEC, workRC, workUC, wkE]; done) | (simp only [workEC, workRC, workUC, wkE, bI, ← Int32.not_le] at *; simp [h1]; done) | (simp_all [bI, h1, workEC, workRC, workUC, wkE]; done) | (simp_all [bI, h1, workEC, workRC, workUC, wkE]; rfl) | (exfalso; omega)⟩, rfl⟩)) (fun h2 => ?_)
  have lh2 : tn x < nm := in_lt (vp_cnt h2 hlm.p0 (Nat.le_refl _) (by omega))
  refine v_astore C (lv1 := [(4, .ref (a 9 (tn x))), (0, .ref (a 2 0)), (1, .int (x)), (2, .int (c)), (3, .int (m))]) dX7_work_5 rfl (by decide) rfl ?_
  refine v_iload_n C dX7_work_7 rfl 3 rfl ?_
  refine w_invSv C [.int (c)] 2 12 L_X7_62 (c_X7_checkCell (s := s) (t := t)  hst hG hL c) rfl rfl rfl dX7_work_8 rfl (kx_out C (by decide) (fun E w1 hE => by obtain ⟨⟨rfl, h3⟩, rfl⟩ := hE; exact ⟨⟨1, List.Mem.head _, by first | rfl | (simp only [h2, h3, workEC, workRC, workUC, wkE, bI, pM, pU, n10, n20, n30, n0, if_true, if_false, ite_true, ite_false, not_true_eq_false, not_false_eq_true, and_true, true_and, and_false, false_and, or_true, true_or, or_false, false_or, reduceIte, and_self, or_self, ne_eq, eq_self_iff_true]; first | done | rfl) | (simp [bI, h2, h3, workEC, workRC, workUC, wkE]; done) | (simp only [workEC, workRC, workUC, wkE, bI, ← Int32.not_le] at *; simp [h2, h3]; done) | (simp_all [bI, h2, h3, workEC, workRC, workUC, wkE]; done) | (simp_all [bI, h2, h3, workEC, workRC, workUC, wkE]; rfl) | (exfalso; omega)⟩, rfl⟩)) (fun h4 => ?_)
  refine v_iload_n C dX7_work_11 rfl 4 rfl ?_
  refine w_invSr C [.int (m)] 3 18 L_X7_131 (c_X7_gearAt (s := s) (t := t)  hst hG hL m) rfl rfl rfl dX7_work_12 rfl (kx_out C (by decide) (fun E w1 hE => by obtain ⟨⟨rfl, h5⟩, rfl⟩ := hE; exact ⟨⟨2, List.Mem.tail _ (List.Mem.head _), by first | rfl | (simp only [h2, h4, h5, workEC, workRC, workUC, wkE, bI, pM, pU, n10, n20, n30, n0, if_true, if_false, ite_true, ite_false, not_true_eq_false, not_false_eq_true, and_true, true_and, and_false, false_and, or_true, true_or, or_false, false_or, reduceIte, and_self, or_self, ne_eq, eq_self_iff_true]; first | done | rfl) | (simp [bI, h2, h4, h5, workEC, workRC, workUC, wkE]; done) | (simp only [workEC, workRC, workUC, wkE, bI, ← Int32.not_le] at *; simp [h2, h4, h5]; done) | (simp_all [bI, h2, h4, h5, workEC, workRC, workUC, wkE]; done) | (simp_all [bI, h2, h4, h5, workEC, workRC, workUC, wkE]; rfl) | (exfalso; omega)⟩, rfl⟩)) (fun h6 => ?_)
  have lh6 : tn m < 4 := in_lt (vp_rng (n := 3) (N := 4) rfl (by decide) h6)
  refine v_astore C (lv1 := [(5, .ref (G.2.2.1 (20 + tn m))), (4, .ref (a 9 (tn x))), (0, .ref (a 2 0)), (1, .int (x)), (2, .int (c)), (3, .int (m))]) dX7_work_15 rfl (by decide) rfl ?_
  refine v_aload_n C dX7_work_17 rfl 2 rfl ?_
  refine v_iload_n C dX7_work_18 rfl 4 rfl ?_
  refine w_invVr C [.int (c)] 3 18 L_X7_135 (c_X7_claimHolding (s := s) (t := t) (nc := nc) hst hG hL c hlc hv_nc) (m2 (s := s) (t := t) (g := G.2.2.1) hL) rfl rfl rfl rfl dX7_work_19 rfl kx_no (fun h7 => ?_)
  refine v_istore C (lv1 := [(6, .int (heldC s c nc)), (5, .ref (G.2.2.1 (20 + tn m))), (4, .ref (a 9 (tn x))), (0, .ref (a 2 0)), (1, .int (x)), (2, .int (c)), (3, .int (m))]) dX7_work_22 rfl (by decide) rfl ?_
  refine v_aload C dX7_work_24 rfl 2 rfl ?_
  refine w_invVr C [] 3 18 L_X7_115 (c_X3_isDead (s := s) (t := t)  hst hG hL (tn x) (hv_nm _ (by omega))) (m9 (s := s) (t := t) (g := G.2.2.1) hL (tn x) (hv_nm _ (by omega))) rfl rfl rfl rfl dX7_work_26 rfl kx_no (fun h8 => ?_)
  refine v_ifB_ne C (t := 73) dX7_work_29 rfl rfl (fun h9 => ?_) (fun h9 => ?_)
  · skip
    refine v_iconst C (v := 0) dX7_work_73 rfl rfl ?_
    refine w_invSv C [.int (0)] 4 24 L_X7_75 (c_X7_checkState (s := s) (t := t)  hst hG hL 0) rfl rfl rfl dX7_work_74 rfl (kx_out C (by decide) (fun E w1 hE => by obtain ⟨⟨rfl, h10⟩, rfl⟩ := hE; exact ⟨⟨3, List.Mem.tail _ (List.Mem.tail _ (List.Mem.head _)), by first | rfl | (simp only [h2, h4, h6, eq_true h9, h10, workEC, workRC, workUC, wkE, bI, pM, pU, n10, n20, n30, n0, if_true, if_false, ite_true, ite_false, not_true_eq_false, not_false_eq_true, and_true, true_and, and_false, false_and, or_true, true_or, or_false, false_or, reduceIte, and_self, or_self, ne_eq, eq_self_iff_true]; first | done | rfl) | (simp [bI, h2, h4, h6, eq_true h9, h10, workEC, workRC, workUC, wkE]; done) | (simp only [workEC, workRC, workUC, wkE, bI, ← Int32.not_le] at *; simp [h2, h4, h6, eq_true h9, h10]; done) | (simp_all [bI, h2, h4, h6, eq_true h9, h10, workEC, workRC, workUC, wkE]; done) | (simp_all [bI, h2, h4, h6, eq_true h9, h10, workEC, workRC, workUC, wkE]; rfl) | (exfalso; omega)⟩, rfl⟩)) (fun h11 => ?_)
    exact absurd rfl h11
  · skip
    refine v_aload C dX7_work_32 rfl 2 rfl ?_
    refine v_get C (v := .int (s 19 (tn x))) g_X7_138 (m9 (s := s) (t := t) (g := G.2.2.1) hL (tn x) (hv_nm _ (by omega))) (rg (by decide) rfl) dX7_work_34 rfl ?_
    refine v_aload_n C dX7_work_37 rfl 3 rfl ?_
    refine v_get C (v := .int (s 0 0)) g_X7_43 (m2 (s := s) (t := t) (g := G.2.2.1) hL) (rg (by decide) rfl) dX7_work_38 rfl ?_
    refine v_icmp_eq C (t := 73) dX7_work_41 rfl rfl (fun h12 => ?_) (fun h12 => ?_)
    · skip
      refine v_iconst C (v := 0) dX7_work_73 rfl rfl ?_
      refine w_invSv C [.int (0)] 4 24 L_X7_75 (c_X7_checkState (s := s) (t := t)  hst hG hL 0) rfl rfl rfl dX7_work_74 rfl (kx_out C (by decide) (fun E w1 hE => by obtain ⟨⟨rfl, h13⟩, rfl⟩ := hE; exact ⟨⟨3, List.Mem.tail _ (List.Mem.tail _ (List.Mem.head _)), by first | rfl | (simp only [h2, h4, h6, h9, eq_true h12, h13, workEC, workRC, workUC, wkE, bI, pM, pU, n10, n20, n30, n0, if_true, if_false, ite_true, ite_false, not_true_eq_false, not_false_eq_true, and_true, true_and, and_false, false_and, or_true, true_or, or_false, false_or, reduceIte, and_self, or_self, ne_eq, eq_self_iff_true]; first | done | rfl) | (simp [bI, h2, h4, h6, h9, eq_true h12, h13, workEC, workRC, workUC, wkE]; done) | (simp only [workEC, workRC, workUC, wkE, bI, ← Int32.not_le] at *; simp [h2, h4, h6, h9, eq_true h12, h13]; done) | (simp_all [bI, h2, h4, h6, h9, eq_true h12, h13, workEC, workRC, workUC, wkE]; done) | (simp_all [bI, h2, h4, h6, h9, eq_true h12, h13, workEC, workRC, workUC, wkE]; rfl) | (exfalso; omega)⟩, rfl⟩)) (fun h14 => ?_)
      exact absurd rfl h14
    · skip
      refine v_aload_n C dX7_work_44 rfl 3 rfl ?_
      refine v_aload C dX7_work_45 rfl 1 rfl ?_
      refine v_iload_n C dX7_work_47 rfl 4 rfl ?_
      refine v_iload C dX7_work_48 rfl 0 rfl ?_
      refine w_invVr C [.ref (G.2.2.1 (20 + tn m)), .int (x), .int (heldC s c nc)] 4 24 L_X7_141 (c_X7_mayUse (s := s) (t := t) (nc := nc) hst hG hL (tn m) (by omega) x (heldC s c nc) hlc hv_nc (heldC_or hlc.p1 (by omega))) (m2 (s := s) (t := t) (g := G.2.2.1) hL) rfl rfl rfl rfl dX7_work_50 rfl kx_no (fun h15 => ?_)
      refine v_if_eq C (t := 73) dX7_work_53 rfl rfl (fun h16 => ?_) (fun h16 => ?_)
      · skip
        refine v_iconst C (v := 0) dX7_work_73 rfl rfl ?_
        refine w_invSv C [.int (0)] 5 30 L_X7_75 (c_X7_checkState (s := s) (t := t)  hst hG hL 0) rfl rfl rfl dX7_work_74 rfl (kx_out C (by decide) (fun E w1 hE => by obtain ⟨⟨rfl, h17⟩, rfl⟩ := hE; exact ⟨⟨3, List.Mem.tail _ (List.Mem.tail _ (List.Mem.head _)), by first | rfl | (simp only [h2, h4, h6, h9, h12, eq_true h16, h17, workEC, workRC, workUC, wkE, bI, pM, pU, n10, n20, n30, n0, if_true, if_false, ite_true, ite_false, not_true_eq_false, not_false_eq_true, and_true, true_and, and_false, false_and, or_true, true_or, or_false, false_or, reduceIte, and_self, or_self, ne_eq, eq_self_iff_true]; first | done | rfl) | (simp [bI, h2, h4, h6, h9, h12, eq_true h16, h17, workEC, workRC, workUC, wkE]; done) | (simp only [workEC, workRC, workUC, wkE, bI, ← Int32.not_le] at *; simp [h2, h4, h6, h9, h12, eq_true h16, h17]; done) | (simp_all [bI, h2, h4, h6, h9, h12, eq_true h16, h17, workEC, workRC, workUC, wkE]; done) | (simp_all [bI, h2, h4, h6, h9, h12, eq_true h16, h17, workEC, workRC, workUC, wkE]; rfl) | (exfalso; omega)⟩, rfl⟩)) (fun h18 => ?_)
        exact absurd rfl h18
      · skip
        refine v_aload_n C dX7_work_56 rfl 3 rfl ?_
        refine v_iload_n C dX7_work_57 rfl 4 rfl ?_
        refine w_invVr C [.int (x)] 4 24 L_X7_145 (c_X7_inchesOfMiner (s := s) (t := t) (nm := nm) (nr := nr) hst hG hL x hlm hm12 hv_nm hlr hr20 hv_nr hro) (m2 (s := s) (t := t) (g := G.2.2.1) hL) rfl rfl rfl rfl dX7_work_58 rfl kx_no (fun h19 => ?_)
        refine v_aload C dX7_work_61 rfl 1 rfl ?_
        refine v_getO C (v := .int (needF (nI (tn m)))) (Or.inr ⟨"NuggetCamp", (qn4 119 rfl rfl)⟩) (gear_inches C (by omega)) dX7_work_63 rfl ?_
        refine v_icmp_lt C (t := 73) dX7_work_66 rfl rfl (fun h20 => ?_) (fun h20 => ?_)
        · skip
          refine v_iconst C (v := 0) dX7_work_73 rfl rfl ?_
          refine w_invSv C [.int (0)] 5 30 L_X7_75 (c_X7_checkState (s := s) (t := t)  hst hG hL 0) rfl rfl rfl dX7_work_74 rfl (kx_out C (by decide) (fun E w1 hE => by obtain ⟨⟨rfl, h21⟩, rfl⟩ := hE; exact ⟨⟨3, List.Mem.tail _ (List.Mem.tail _ (List.Mem.head _)), by first | rfl | (simp only [h2, h4, h6, h9, h12, h16, h20, Int32.not_le.mpr h20, h21, workEC, workRC, workUC, wkE, bI, pM, pU, n10, n20, n30, n0, if_true, if_false, ite_true, ite_false, not_true_eq_false, not_false_eq_true, and_true, true_and, and_false, false_and, or_true, true_or, or_false, false_or, reduceIte, and_self, or_self, ne_eq, eq_self_iff_true]; first | done | rfl) | (simp [bI, h2, h4, h6, h9, h12, h16, h20, Int32.not_le.mpr h20, h21, workEC, workRC, workUC, wkE]; done) | (simp only [workEC, workRC, workUC, wkE, bI, ← Int32.not_le] at *; simp [h2, h4, h6, h9, h12, h16, h20, Int32.not_le.mpr h20, h21]; done) | (simp_all [bI, h2, h4, h6, h9, h12, h16, h20, Int32.not_le.mpr h20, h21, workEC, workRC, workUC, wkE]; done) | (simp_all [bI, h2, h4, h6, h9, h12, h16, h20, Int32.not_le.mpr h20, h21, workEC, workRC, workUC, wkE]; rfl) | (exfalso; omega)⟩, rfl⟩)) (fun h22 => ?_)
          exact absurd rfl h22
        · skip
          refine v_iconst C (v := 1) dX7_work_69 rfl rfl ?_
          refine v_goto C (q := 74) dX7_work_70 rfl ?_
          refine w_invSv C [.int (1)] 5 30 L_X7_75 (c_X7_checkState (s := s) (t := t)  hst hG hL 1) rfl rfl rfl dX7_work_74 rfl (fun E w1 hE => absurd hE.1.2 (by decide)) (fun h23 => ?_)
          refine v_aload_n C dX7_work_77 rfl 3 rfl ?_
          refine v_get C (v := .ref (a 3 0)) g_X7_10 (m2 (s := s) (t := t) (g := G.2.2.1) hL) (rg (by decide) rfl) dX7_work_78 rfl ?_
          refine v_iload_n C dX7_work_81 rfl 5 rfl ?_
          refine v_aload C dX7_work_82 rfl 1 rfl ?_
          refine w_invVr C [.int (c), .ref (G.2.2.1 (20 + tn m))] 5 30 L_X7_153 (c_X1_dig (s := s) (t := t)  hst hG hL c (tn m) (by omega)) (m3 (s := s) (t := t) (g := G.2.2.1) hL) rfl rfl rfl rfl dX7_work_84 rfl kx_no (fun h24 => ?_)
          refine v_istore C (lv1 := [(7, .int (rcF (nI (tn m)) (minF (grF s c) (mostF (nI (tn m)))) (claF s c))), (6, .int (heldC s c nc)), (5, .ref (G.2.2.1 (20 + tn m))), (4, .ref (a 9 (tn x))), (0, .ref (a 2 0)), (1, .int (x)), (2, .int (c)), (3, .int (m))]) dX7_work_87 rfl (by decide) rfl ?_
          refine v_aload_n C dX7_work_89 rfl 4 rfl ?_
          refine v_get C (v := .ref (a 3 0)) g_X7_10 (m2 (s := ((digC s c (nI (tn m))))) (t := t) (g := G.2.2.1) hL) (rg (by decide) rfl) dX7_work_90 rfl ?_
          refine v_iconst C (v := 1) dX7_work_93 rfl rfl ?_
          refine v_put C f_X7_71 (put_tou (s := ((digC s c (nI (tn m))))) (t := t) (g := G.2.2.1) hL 1) rfl rfl (Nat.le_of_ble_eq_true rfl) dX7_work_94 rfl ?_
          refine v_aload C dX7_work_97 rfl 3 rfl ?_
          refine v_aload_n C dX7_work_99 rfl 4 rfl ?_
          refine v_get C (v := .int ((digC s c (nI (tn m))) 0 0)) g_X7_43 (m2 (s := ((su (digC s c (nI (tn m))) 8 0 1))) (t := t) (g := G.2.2.1) hL) (rg (by decide) rfl) dX7_work_100 rfl ?_
          refine xx_top (y := s 0 0) (congrFun (digC_o (k := 0) (by decide) (by decide)) _) ?_
          refine v_put C f_X7_138 (put_n (s := ((su (digC s c (nI (tn m))) 8 0 1))) (t := t) (g := G.2.2.1) hL 8 (by decide) (by decide) (tn x) (hv_nm _ (by omega)) (s 0 0)) rfl rfl (rg_len (by decide)) dX7_work_103 rfl ?_
          refine xx_w (w' := wl a (E G.2.2.1 a (su (su (digC s c (nI (tn m))) 8 0 1) 19 (tn x) (s 0 0)) t) L) rfl ?_
          refine v_iload C dX7_work_106 rfl 1 rfl ?_
          refine v_iconst C (v := (-1)) dX7_work_108 rfl rfl ?_
          refine v_icmp_eq C (t := 125) dX7_work_109 rfl rfl (fun h25 => ?_) (fun h25 => ?_)
          · skip
            refine v_aload_n C dX7_work_125 rfl 4 rfl ?_
            refine v_aload C dX7_work_126 rfl 3 rfl ?_
            refine v_iload C dX7_work_128 rfl 0 rfl ?_
            refine w_invVv C [.ref (a 9 (tn x)), .int (rcF (nI (tn m)) (minF (grF s c) (mostF (nI (tn m)))) (claF s c))] 5 30 L_X7_162 (c_X7_shareOut (s := ((su (su (digC s c (nI (tn m))) 8 0 1) 19 (tn x) (s 0 0)))) (t := t) (nm := nm) hst hG hL (tn x) (rcF (nI (tn m)) (minF (grF s c) (mostF (nI (tn m)))) (claF s c)) (LsOK.c (congrFun (digC_o (k := 12) (by decide) (by decide)) 0) hlm) hm12 hv_nm (by omega)) (m2 (s := ((su (su (digC s c (nI (tn m))) 8 0 1) 19 (tn x) (s 0 0)))) (t := t) (g := G.2.2.1) hL) rfl rfl rfl rfl dX7_work_130 rfl kx_no (fun h26 => ?_)
            refine v_iload C dX7_work_133 rfl 0 rfl ?_
            exact v_iret C (by decide) (by decide) dX7_work_135 ⟨congrArg (fun z => some (Value.int z)) (by first | rfl | (simp only [h2, h4, h6, h9, h12, h16, h20, Int32.not_lt.mp h20, eq_true h25, workEC, workRC, workUC, wkE, bI, pM, pU, n10, n20, n30, n0, if_true, if_false, ite_true, ite_false, not_true_eq_false, not_false_eq_true, and_true, true_and, and_false, false_and, or_true, true_or, or_false, false_or, reduceIte, and_self, or_self, ne_eq, eq_self_iff_true]; first | done | rfl) | (simp [bI, h2, h4, h6, h9, h12, h16, h20, Int32.not_lt.mp h20, eq_true h25, workEC, workRC, workUC, wkE]; done) | (simp only [workEC, workRC, workUC, wkE, bI, ← Int32.not_le] at *; simp [h2, h4, h6, h9, h12, h16, h20, Int32.not_lt.mp h20, eq_true h25]; done) | (simp_all [bI, h2, h4, h6, h9, h12, h16, h20, Int32.not_lt.mp h20, eq_true h25, workEC, workRC, workUC, wkE]; done) | (simp_all [bI, h2, h4, h6, h9, h12, h16, h20, Int32.not_lt.mp h20, eq_true h25, workEC, workRC, workUC, wkE]; rfl) | (exfalso; omega)), by first | rfl | (simp only [h2, h4, h6, h9, h12, h16, h20, Int32.not_lt.mp h20, eq_true h25, workEC, workRC, workUC, wkE, bI, pM, pU, n10, n20, n30, n0, if_true, if_false, ite_true, ite_false, not_true_eq_false, not_false_eq_true, and_true, true_and, and_false, false_and, or_true, true_or, or_false, false_or, reduceIte, and_self, or_self, ne_eq, eq_self_iff_true]; first | done | rfl) | (simp [bI, h2, h4, h6, h9, h12, h16, h20, Int32.not_lt.mp h20, eq_true h25, workEC, workRC, workUC, wkE]; done) | (simp only [workEC, workRC, workUC, wkE, bI, ← Int32.not_le] at *; simp [h2, h4, h6, h9, h12, h16, h20, Int32.not_lt.mp h20, eq_true h25]; done) | (simp_all [bI, h2, h4, h6, h9, h12, h16, h20, Int32.not_lt.mp h20, eq_true h25, workEC, workRC, workUC, wkE]; done) | (simp_all [bI, h2, h4, h6, h9, h12, h16, h20, Int32.not_lt.mp h20, eq_true h25, workEC, workRC, workUC, wkE]; rfl) | (exfalso; omega), by first | assumption | first | rfl | (simp only [h2, h4, h6, h9, h12, h16, h20, Int32.not_lt.mp h20, eq_true h25, workEC, workRC, workUC, wkE, bI, pM, pU, n10, n20, n30, n0, if_true, if_false, ite_true, ite_false, not_true_eq_false, not_false_eq_true, and_true, true_and, and_false, false_and, or_true, true_or, or_false, false_or, reduceIte, and_self, or_self, ne_eq, eq_self_iff_true]; first | done | rfl) | (simp [bI, h2, h4, h6, h9, h12, h16, h20, Int32.not_lt.mp h20, eq_true h25, workEC, workRC, workUC, wkE]; done) | (simp only [workEC, workRC, workUC, wkE, bI, ← Int32.not_le] at *; simp [h2, h4, h6, h9, h12, h16, h20, Int32.not_lt.mp h20, eq_true h25]; done) | (simp_all [bI, h2, h4, h6, h9, h12, h16, h20, Int32.not_lt.mp h20, eq_true h25, workEC, workRC, workUC, wkE]; done) | (simp_all [bI, h2, h4, h6, h9, h12, h16, h20, Int32.not_lt.mp h20, eq_true h25, workEC, workRC, workUC, wkE]; rfl) | (exfalso; omega)⟩
          · skip
            refine v_aload_n C dX7_work_112 rfl 4 rfl ?_
            refine v_iload C dX7_work_113 rfl 1 rfl ?_
            refine w_invVr C [.int (heldC s c nc)] 6 36 L_X7_157 (c_X7_claimAt (s := ((su (su (digC s c (nI (tn m))) 8 0 1) 19 (tn x) (s 0 0)))) (t := t) (nc := nc) hst hG hL (heldC s c nc) (LsOK.c (congrFun (digC_o (k := 21) (by decide) (by decide)) 0) hlc) hv_nc) (m2 (s := ((su (su (digC s c (nI (tn m))) 8 0 1) 19 (tn x) (s 0 0)))) (t := t) (g := G.2.2.1) hL) rfl rfl rfl rfl dX7_work_115 rfl (fun E w1 hE => absurd (mi_vp (heldC_vpn (by assumption) (by omega)) (LsOK.c (congrFun (digC_o (k := 21) (by decide) (by decide)) 0) hlc).p1 (by omega)) hE.1.2) (fun h27 => ?_)
            have lh27 : tn (heldC s c nc) < nc := in_lt (vp_cnt h27 (LsOK.c (congrFun (digC_o (k := 21) (by decide) (by decide)) 0) hlc).p1 (Nat.le_refl _) (by omega))
            refine v_aload_n C dX7_work_118 rfl 4 rfl ?_
            refine v_get C (v := .int ((digC s c (nI (tn m))) 0 0)) g_X7_43 (m2 (s := ((su (su (digC s c (nI (tn m))) 8 0 1) 19 (tn x) (s 0 0)))) (t := t) (g := G.2.2.1) hL) (rg (by decide) rfl) dX7_work_119 rfl ?_
            refine xx_top (y := s 0 0) (congrFun (digC_o (k := 0) (by decide) (by decide)) _) ?_
            refine v_put C f_X7_161 (put_k (s := ((su (su (digC s c (nI (tn m))) 8 0 1) 19 (tn x) (s 0 0)))) (t := t) (g := G.2.2.1) hL 4 (by decide) (tn (heldC s c nc)) (hv_nc _ (by omega)) (s 0 0)) rfl rfl (rg_len (by decide)) dX7_work_122 rfl ?_
            refine xx_w (w' := wl a (E G.2.2.1 a (su (su (su (digC s c (nI (tn m))) 8 0 1) 19 (tn x) (s 0 0)) 26 (tn (heldC s c nc)) (s 0 0)) t) L) rfl ?_
            refine v_aload_n C dX7_work_125 rfl 4 rfl ?_
            refine v_aload C dX7_work_126 rfl 3 rfl ?_
            refine v_iload C dX7_work_128 rfl 0 rfl ?_
            refine w_invVv C [.ref (a 9 (tn x)), .int (rcF (nI (tn m)) (minF (grF s c) (mostF (nI (tn m)))) (claF s c))] 6 36 L_X7_162 (c_X7_shareOut (s := ((su (su (su (digC s c (nI (tn m))) 8 0 1) 19 (tn x) (s 0 0)) 26 (tn (heldC s c nc)) (s 0 0)))) (t := t) (nm := nm) hst hG hL (tn x) (rcF (nI (tn m)) (minF (grF s c) (mostF (nI (tn m)))) (claF s c)) (LsOK.c (congrFun (digC_o (k := 12) (by decide) (by decide)) 0) hlm) hm12 hv_nm (by omega)) (m2 (s := ((su (su (su (digC s c (nI (tn m))) 8 0 1) 19 (tn x) (s 0 0)) 26 (tn (heldC s c nc)) (s 0 0)))) (t := t) (g := G.2.2.1) hL) rfl rfl rfl rfl dX7_work_130 rfl kx_no (fun h28 => ?_)
            refine v_iload C dX7_work_133 rfl 0 rfl ?_
            exact v_iret C (by decide) (by decide) dX7_work_135 ⟨congrArg (fun z => some (Value.int z)) (by first | rfl | (simp only [h2, h4, h6, h9, h12, h16, h20, Int32.not_lt.mp h20, h25, h27, workEC, workRC, workUC, wkE, bI, pM, pU, n10, n20, n30, n0, if_true, if_false, ite_true, ite_false, not_true_eq_false, not_false_eq_true, and_true, true_and, and_false, false_and, or_true, true_or, or_false, false_or, reduceIte, and_self, or_self, ne_eq, eq_self_iff_true]; first | done | rfl) | (simp [bI, h2, h4, h6, h9, h12, h16, h20, Int32.not_lt.mp h20, h25, h27, workEC, workRC, workUC, wkE]; done) | (simp only [workEC, workRC, workUC, wkE, bI, ← Int32.not_le] at *; simp [h2, h4, h6, h9, h12, h16, h20, Int32.not_lt.mp h20, h25, h27]; done) | (simp_all [bI, h2, h4, h6, h9, h12, h16, h20, Int32.not_lt.mp h20, h25, h27, workEC, workRC, workUC, wkE]; done) | (simp_all [bI, h2, h4, h6, h9, h12, h16, h20, Int32.not_lt.mp h20, h25, h27, workEC, workRC, workUC, wkE]; rfl) | (exfalso; omega)), by first | rfl | (simp only [h2, h4, h6, h9, h12, h16, h20, Int32.not_lt.mp h20, h25, h27, workEC, workRC, workUC, wkE, bI, pM, pU, n10, n20, n30, n0, if_true, if_false, ite_true, ite_false, not_true_eq_false, not_false_eq_true, and_true, true_and, and_false, false_and, or_true, true_or, or_false, false_or, reduceIte, and_self, or_self, ne_eq, eq_self_iff_true]; first | done | rfl) | (simp [bI, h2, h4, h6, h9, h12, h16, h20, Int32.not_lt.mp h20, h25, h27, workEC, workRC, workUC, wkE]; done) | (simp only [workEC, workRC, workUC, wkE, bI, ← Int32.not_le] at *; simp [h2, h4, h6, h9, h12, h16, h20, Int32.not_lt.mp h20, h25, h27]; done) | (simp_all [bI, h2, h4, h6, h9, h12, h16, h20, Int32.not_lt.mp h20, h25, h27, workEC, workRC, workUC, wkE]; done) | (simp_all [bI, h2, h4, h6, h9, h12, h16, h20, Int32.not_lt.mp h20, h25, h27, workEC, workRC, workUC, wkE]; rfl) | (exfalso; omega), by first | assumption | first | rfl | (simp only [h2, h4, h6, h9, h12, h16, h20, Int32.not_lt.mp h20, h25, h27, workEC, workRC, workUC, wkE, bI, pM, pU, n10, n20, n30, n0, if_true, if_false, ite_true, ite_false, not_true_eq_false, not_false_eq_true, and_true, true_and, and_false, false_and, or_true, true_or, or_false, false_or, reduceIte, and_self, or_self, ne_eq, eq_self_iff_true]; first | done | rfl) | (simp [bI, h2, h4, h6, h9, h12, h16, h20, Int32.not_lt.mp h20, h25, h27, workEC, workRC, workUC, wkE]; done) | (simp only [workEC, workRC, workUC, wkE, bI, ← Int32.not_le] at *; simp [h2, h4, h6, h9, h12, h16, h20, Int32.not_lt.mp h20, h25, h27]; done) | (simp_all [bI, h2, h4, h6, h9, h12, h16, h20, Int32.not_lt.mp h20, h25, h27, workEC, workRC, workUC, wkE]; done) | (simp_all [bI, h2, h4, h6, h9, h12, h16, h20, Int32.not_lt.mp h20, h25, h27, workEC, workRC, workUC, wkE]; rfl) | (exfalso; omega)⟩

abbrev r_X7_salt : Room := { frames := 8, cells := 4, slots := 24, locals := 124 }
set_option maxRecDepth 4000 in
theorem c_X7_salt {l : Launch} {G : GG} {a : AD} {s t s0 : SS} {L : List (Nat × Nat)} {nm : Nat} {nc : Nat} (hst : l.stackTraces = false) (hG : GOK G) (hL : Live L s0) (x : Int32) (c : Int32) (m : Int32) (hlm : LsOK a s s0 0 nm) (hm12 : nm ≤ 12) (hv_nm : ∀ i, i < nm → i < tn (s0 12 0)) (hlc : LsOK a s s0 1 nc) (hv_nc : ∀ i, i < nc → i < tn (s0 21 0)) : Mth l yX7_salt cX7_salt 5 (Option.some Jvm.ClassFile.FieldType.int) r_X7_salt G (wl a (E G.2.2.1 a s t) L) [.ref (a 2 0), .int x, .int c, .int m] (RI (.int (grF (saltUC s nc x c m) c)) (wl a (E G.2.2.1 a (saltUC s nc x c m) t) L) (saltE s 0 x c m = 0)) (XW (fun E => pE L3 (saltE s 0 x c m) E) (wl a (E G.2.2.1 a s t) L)) := by
  refine mth_of rfl (Nat.le_of_ble_eq_true rfl) hst hG (fun X hX C0 => ?_)
  subst hX
  have C : Cx X G cX7_salt 5 RX7 (Option.some Jvm.ClassFile.FieldType.int) r_X7_salt "salt" [] := C0
  clear C0
  show V X G 5 _ 0 0 _ 0 [(0, .ref (a 2 0)), (1, .int (x)), (2, .int (c)), (3, .int (m))] []
  have hc30 := hlc.2.1
  refine v_aload_n C dX7_salt_0 rfl 0 rfl ?_
  refine v_iload_n C dX7_salt_1 rfl 1 rfl ?_
  refine w_invVr C [.int (x)] 1 6 L_X7_108 (c_X7_minerAt (s := s) (t := t) (nm := nm) hst hG hL x hlm hm12 hv_nm) (m2 (s := s) (t := t) (g := G.2.2.1) hL) rfl rfl rfl rfl dX7_salt_2 rfl (kx_out C (by decide) (fun E w1 hE => by obtain ⟨⟨rfl, h1⟩, rfl⟩ := hE; exact ⟨⟨1, List.Mem.head _, by first | rfl | (simp only [h1, saltE, saltUC, bI, pM, pU, n10, n20, n30, n0, if_true, if_false, ite_true, ite_false, not_true_eq_false, not_false_eq_true, and_true, true_and, and_false, false_and, or_true, true_or, or_false, false_or, reduceIte, and_self, or_self, ne_eq, eq_self_iff_true]; first | done | rfl) | (simp [bI, h1, saltE, saltUC]; done) | (simp only [saltE, saltUC, bI, ← Int32.not_le] at *; simp [h1]; done) | (simp_all [bI, h1, saltE, saltUC]; done) | (simp_all [bI, h1, saltE, saltUC]; rfl) | (exfalso; omega)⟩, rfl⟩)) (fun h2 => ?_)
  have lh2 : tn x < nm := in_lt (vp_cnt h2 hlm.p0 (Nat.le_refl _) (by omega))
  refine v_astore C (lv1 := [(4, .ref (a 9 (tn x))), (0, .ref (a 2 0)), (1, .int (x)), (2, .int (c)), (3, .int (m))]) dX7_salt_5 rfl (by decide) rfl ?_
  refine v_iload_n C dX7_salt_7 rfl 3 rfl ?_
  refine w_invSv C [.int (c)] 2 12 L_X7_62 (c_X7_checkCell (s := s) (t := t)  hst hG hL c) rfl rfl rfl dX7_salt_8 rfl (kx_out C (by decide) (fun E w1 hE => by obtain ⟨⟨rfl, h3⟩, rfl⟩ := hE; exact ⟨⟨1, List.Mem.head _, by first | rfl | (simp only [h2, h3, saltE, saltUC, bI, pM, pU, n10, n20, n30, n0, if_true, if_false, ite_true, ite_false, not_true_eq_false, not_false_eq_true, and_true, true_and, and_false, false_and, or_true, true_or, or_false, false_or, reduceIte, and_self, or_self, ne_eq, eq_self_iff_true]; first | done | rfl) | (simp [bI, h2, h3, saltE, saltUC]; done) | (simp only [saltE, saltUC, bI, ← Int32.not_le] at *; simp [h2, h3]; done) | (simp_all [bI, h2, h3, saltE, saltUC]; done) | (simp_all [bI, h2, h3, saltE, saltUC]; rfl) | (exfalso; omega)⟩, rfl⟩)) (fun h4 => ?_)
  refine v_iload_n C dX7_salt_11 rfl 4 rfl ?_
  refine v_iconst C (v := 1) dX7_salt_12 rfl rfl ?_
  refine v_sipush C (v := 10000) dX7_salt_13 rfl rfl ?_
  refine w_invSv C [.int (m), .int (1), .int (10000)] 3 18 L_X7_67 (c_X7_checkRange (s := s) (t := t)  hst hG hL m 1 10000) rfl rfl rfl dX7_salt_16 rfl (kx_out C (by decide) (fun E w1 hE => by obtain ⟨⟨rfl, h5⟩, rfl⟩ := hE; exact ⟨⟨2, List.Mem.tail _ (List.Mem.head _), by first | rfl | (simp only [h2, h4, h5, saltE, saltUC, bI, pM, pU, n10, n20, n30, n0, if_true, if_false, ite_true, ite_false, not_true_eq_false, not_false_eq_true, and_true, true_and, and_false, false_and, or_true, true_or, or_false, false_or, reduceIte, and_self, or_self, ne_eq, eq_self_iff_true]; first | done | rfl) | (simp [bI, h2, h4, h5, saltE, saltUC]; done) | (simp only [saltE, saltUC, bI, ← Int32.not_le] at *; simp [h2, h4, h5]; done) | (simp_all [bI, h2, h4, h5, saltE, saltUC]; done) | (simp_all [bI, h2, h4, h5, saltE, saltUC]; rfl) | (exfalso; omega)⟩, rfl⟩)) (fun h6 => ?_)
  refine v_aload C dX7_salt_19 rfl 0 rfl ?_
  refine w_invVr C [] 3 18 L_X7_115 (c_X3_isDead (s := s) (t := t)  hst hG hL (tn x) (hv_nm _ (by omega))) (m9 (s := s) (t := t) (g := G.2.2.1) hL (tn x) (hv_nm _ (by omega))) rfl rfl rfl rfl dX7_salt_21 rfl kx_no (fun h7 => ?_)
  refine v_ifB_ne C (t := 40) dX7_salt_24 rfl rfl (fun h8 => ?_) (fun h8 => ?_)
  · skip
    refine v_iconst C (v := 0) dX7_salt_40 rfl rfl ?_
    refine w_invSv C [.int (0)] 4 24 L_X7_75 (c_X7_checkState (s := s) (t := t)  hst hG hL 0) rfl rfl rfl dX7_salt_41 rfl (kx_out C (by decide) (fun E w1 hE => by obtain ⟨⟨rfl, h9⟩, rfl⟩ := hE; exact ⟨⟨3, List.Mem.tail _ (List.Mem.tail _ (List.Mem.head _)), by first | rfl | (simp only [h2, h4, h6, eq_true h8, h9, saltE, saltUC, bI, pM, pU, n10, n20, n30, n0, if_true, if_false, ite_true, ite_false, not_true_eq_false, not_false_eq_true, and_true, true_and, and_false, false_and, or_true, true_or, or_false, false_or, reduceIte, and_self, or_self, ne_eq, eq_self_iff_true]; first | done | rfl) | (simp [bI, h2, h4, h6, eq_true h8, h9, saltE, saltUC]; done) | (simp only [saltE, saltUC, bI, ← Int32.not_le] at *; simp [h2, h4, h6, eq_true h8, h9]; done) | (simp_all [bI, h2, h4, h6, eq_true h8, h9, saltE, saltUC]; done) | (simp_all [bI, h2, h4, h6, eq_true h8, h9, saltE, saltUC]; rfl) | (exfalso; omega)⟩, rfl⟩)) (fun h10 => ?_)
    exact absurd rfl h10
  · skip
    refine v_aload C dX7_salt_27 rfl 0 rfl ?_
    refine v_get C (v := .int (s 13 (tn x))) g_X7_166 (m9 (s := s) (t := t) (g := G.2.2.1) hL (tn x) (hv_nm _ (by omega))) (rg (by decide) rfl) dX7_salt_29 rfl ?_
    refine v_iload_n C dX7_salt_32 rfl 4 rfl ?_
    refine v_icmp_lt C (t := 40) dX7_salt_33 rfl rfl (fun h11 => ?_) (fun h11 => ?_)
    · skip
      refine v_iconst C (v := 0) dX7_salt_40 rfl rfl ?_
      refine w_invSv C [.int (0)] 4 24 L_X7_75 (c_X7_checkState (s := s) (t := t)  hst hG hL 0) rfl rfl rfl dX7_salt_41 rfl (kx_out C (by decide) (fun E w1 hE => by obtain ⟨⟨rfl, h12⟩, rfl⟩ := hE; exact ⟨⟨3, List.Mem.tail _ (List.Mem.tail _ (List.Mem.head _)), by first | rfl | (simp only [h2, h4, h6, h8, h11, Int32.not_le.mpr h11, h12, saltE, saltUC, bI, pM, pU, n10, n20, n30, n0, if_true, if_false, ite_true, ite_false, not_true_eq_false, not_false_eq_true, and_true, true_and, and_false, false_and, or_true, true_or, or_false, false_or, reduceIte, and_self, or_self, ne_eq, eq_self_iff_true]; first | done | rfl) | (simp [bI, h2, h4, h6, h8, h11, Int32.not_le.mpr h11, h12, saltE, saltUC]; done) | (simp only [saltE, saltUC, bI, ← Int32.not_le] at *; simp [h2, h4, h6, h8, h11, Int32.not_le.mpr h11, h12]; done) | (simp_all [bI, h2, h4, h6, h8, h11, Int32.not_le.mpr h11, h12, saltE, saltUC]; done) | (simp_all [bI, h2, h4, h6, h8, h11, Int32.not_le.mpr h11, h12, saltE, saltUC]; rfl) | (exfalso; omega)⟩, rfl⟩)) (fun h13 => ?_)
      exact absurd rfl h13
    · skip
      refine v_iconst C (v := 1) dX7_salt_36 rfl rfl ?_
      refine v_goto C (q := 41) dX7_salt_37 rfl ?_
      refine w_invSv C [.int (1)] 4 24 L_X7_75 (c_X7_checkState (s := s) (t := t)  hst hG hL 1) rfl rfl rfl dX7_salt_41 rfl (fun E w1 hE => absurd hE.1.2 (by decide)) (fun h14 => ?_)
      refine v_aload C dX7_salt_44 rfl 0 rfl ?_
      refine v_dup C dX7_salt_46 rfl rfl ?_
      refine v_get C (v := .int (s 13 (tn x))) g_X7_166 (m9 (s := s) (t := t) (g := G.2.2.1) hL (tn x) (hv_nm _ (by omega))) (rg (by decide) rfl) dX7_salt_47 rfl ?_
      refine v_iload_n C dX7_salt_50 rfl 4 rfl ?_
      refine v_isub C dX7_salt_51 rfl ?_
      refine v_put C f_X7_166 (put_n (s := s) (t := t) (g := G.2.2.1) hL 2 (by decide) (by decide) (tn x) (hv_nm _ (by omega)) ((s 13 (tn x)) - m)) rfl rfl (rg_len (by decide)) dX7_salt_52 rfl ?_
      refine xx_w (w' := wl a (E G.2.2.1 a (su s 13 (tn x) ((s 13 (tn x)) - m)) t) L) rfl ?_
      refine v_aload_n C dX7_salt_55 rfl 1 rfl ?_
      refine v_get C (v := .ref (a 3 0)) g_X7_10 (m2 (s := ((su s 13 (tn x) ((s 13 (tn x)) - m)))) (t := t) (g := G.2.2.1) hL) (rg (by decide) rfl) dX7_salt_56 rfl ?_
      refine v_iload_n C dX7_salt_59 rfl 3 rfl ?_
      refine v_iload_n C dX7_salt_60 rfl 4 rfl ?_
      refine w_invVv C [.int (c), .int (m)] 4 24 L_X7_169 (c_X1_drop (s := ((su s 13 (tn x) ((s 13 (tn x)) - m)))) (t := t)  hst hG hL c m) (m3 (s := ((su s 13 (tn x) ((s 13 (tn x)) - m)))) (t := t) (g := G.2.2.1) hL) rfl rfl rfl rfl dX7_salt_61 rfl kx_no (fun h15 => ?_)
      refine v_aload_n C dX7_salt_64 rfl 1 rfl ?_
      refine v_get C (v := .ref (a 3 0)) g_X7_10 (m2 (s := ((dropF ((su s 13 (tn x) ((s 13 (tn x)) - m))) c m))) (t := t) (g := G.2.2.1) hL) (rg (by decide) rfl) dX7_salt_65 rfl ?_
      refine v_iconst C (v := 1) dX7_salt_68 rfl rfl ?_
      refine v_put C f_X7_71 (put_tou (s := ((dropF ((su s 13 (tn x) ((s 13 (tn x)) - m))) c m))) (t := t) (g := G.2.2.1) hL 1) rfl rfl (Nat.le_of_ble_eq_true rfl) dX7_salt_69 rfl ?_
      refine v_aload C dX7_salt_72 rfl 0 rfl ?_
      refine v_iload_n C dX7_salt_74 rfl 3 rfl ?_
      refine v_aload_n C dX7_salt_75 rfl 1 rfl ?_
      refine v_get C (v := .int ((dropF ((su s 13 (tn x) ((s 13 (tn x)) - m))) c m) 0 0)) g_X7_43 (m2 (s := ((su (dropF ((su s 13 (tn x) ((s 13 (tn x)) - m))) c m) 8 0 1))) (t := t) (g := G.2.2.1) hL) (rg (by decide) rfl) dX7_salt_76 rfl ?_
      refine xx_top (y := s 0 0) (congrFun (dropF_o (k := 0) (by decide) (by decide)) _) ?_
      refine w_invVv C [.int (c), .int (s 0 0)] 4 24 L_X7_172 (c_X3_noteSalting (s := ((su (dropF ((su s 13 (tn x) ((s 13 (tn x)) - m))) c m) 8 0 1))) (t := t)  hst hG hL (tn x) c _ (in_nI (N := 40) (vp_rng (x := c) (n := 39) rfl (by decide) (by assumption)) (by omega)) (in_lt (N := 40) (vp_rng (x := c) (n := 39) rfl (by decide) (by assumption))) (s 0 0) (hv_nm _ (by omega))) (m9 (s := ((su (dropF ((su s 13 (tn x) ((s 13 (tn x)) - m))) c m) 8 0 1))) (t := t) (g := G.2.2.1) hL (tn x) (hv_nm _ (by omega))) rfl rfl rfl rfl dX7_salt_79 rfl kx_no (fun h16 => ?_)
      refine v_aload_n C dX7_salt_82 rfl 1 rfl ?_
      refine v_iload_n C dX7_salt_83 rfl 2 rfl ?_
      refine v_iload_n C dX7_salt_84 rfl 3 rfl ?_
      refine w_invVv C [.int (x), .int (c)] 4 24 L_X7_175 (c_X7_spoilSalesOfToday (s := ((su (su (dropF ((su s 13 (tn x) ((s 13 (tn x)) - m))) c m) 8 0 1) 52 (40 * (tn x) + (tn c)) ((s 0 0))))) (t := t) (nc := nc) hst hG hL x c (LsOK.c (congrFun (dropF_o (k := 21) (by decide) (by decide)) 0) hlc) hv_nc) (m2 (s := ((su (su (dropF ((su s 13 (tn x) ((s 13 (tn x)) - m))) c m) 8 0 1) 52 (40 * (tn x) + (tn c)) ((s 0 0))))) (t := t) (g := G.2.2.1) hL) rfl rfl rfl rfl dX7_salt_85 rfl kx_no (fun h17 => ?_)
      refine v_aload_n C dX7_salt_88 rfl 1 rfl ?_
      refine v_get C (v := .ref (a 3 0)) g_X7_10 (m2 (s := ((spW ((su (su (dropF ((su s 13 (tn x) ((s 13 (tn x)) - m))) c m) 8 0 1) 52 (40 * (tn x) + (tn c)) ((s 0 0)))) x c nc))) (t := t) (g := G.2.2.1) hL) (rg (by decide) rfl) dX7_salt_89 rfl ?_
      refine v_iload_n C dX7_salt_92 rfl 3 rfl ?_
      refine w_invVr C [.int (c)] 4 24 L_X7_79 (c_X1_grainsAt (s := ((spW ((su (su (dropF ((su s 13 (tn x) ((s 13 (tn x)) - m))) c m) 8 0 1) 52 (40 * (tn x) + (tn c)) ((s 0 0)))) x c nc))) (t := t)  hst hG hL c) (m3 (s := ((spW ((su (su (dropF ((su s 13 (tn x) ((s 13 (tn x)) - m))) c m) 8 0 1) 52 (40 * (tn x) + (tn c)) ((s 0 0)))) x c nc))) (t := t) (g := G.2.2.1) hL) rfl rfl rfl rfl dX7_salt_93 rfl kx_no (fun h18 => ?_)
      exact v_iret C (by decide) (by decide) dX7_salt_96 ⟨congrArg (fun z => some (Value.int z)) (by first | rfl | (simp only [h2, h4, h6, h8, h11, Int32.not_lt.mp h11, saltE, saltUC, bI, pM, pU, n10, n20, n30, n0, if_true, if_false, ite_true, ite_false, not_true_eq_false, not_false_eq_true, and_true, true_and, and_false, false_and, or_true, true_or, or_false, false_or, reduceIte, and_self, or_self, ne_eq, eq_self_iff_true]; first | done | rfl) | (simp [bI, h2, h4, h6, h8, h11, Int32.not_lt.mp h11, saltE, saltUC]; done) | (simp only [saltE, saltUC, bI, ← Int32.not_le] at *; simp [h2, h4, h6, h8, h11, Int32.not_lt.mp h11]; done) | (simp_all [bI, h2, h4, h6, h8, h11, Int32.not_lt.mp h11, saltE, saltUC]; done) | (simp_all [bI, h2, h4, h6, h8, h11, Int32.not_lt.mp h11, saltE, saltUC]; rfl) | (exfalso; omega)), by first | rfl | (simp only [h2, h4, h6, h8, h11, Int32.not_lt.mp h11, saltE, saltUC, bI, pM, pU, n10, n20, n30, n0, if_true, if_false, ite_true, ite_false, not_true_eq_false, not_false_eq_true, and_true, true_and, and_false, false_and, or_true, true_or, or_false, false_or, reduceIte, and_self, or_self, ne_eq, eq_self_iff_true]; first | done | rfl) | (simp [bI, h2, h4, h6, h8, h11, Int32.not_lt.mp h11, saltE, saltUC]; done) | (simp only [saltE, saltUC, bI, ← Int32.not_le] at *; simp [h2, h4, h6, h8, h11, Int32.not_lt.mp h11]; done) | (simp_all [bI, h2, h4, h6, h8, h11, Int32.not_lt.mp h11, saltE, saltUC]; done) | (simp_all [bI, h2, h4, h6, h8, h11, Int32.not_lt.mp h11, saltE, saltUC]; rfl) | (exfalso; omega), by first | assumption | first | rfl | (simp only [h2, h4, h6, h8, h11, Int32.not_lt.mp h11, saltE, saltUC, bI, pM, pU, n10, n20, n30, n0, if_true, if_false, ite_true, ite_false, not_true_eq_false, not_false_eq_true, and_true, true_and, and_false, false_and, or_true, true_or, or_false, false_or, reduceIte, and_self, or_self, ne_eq, eq_self_iff_true]; first | done | rfl) | (simp [bI, h2, h4, h6, h8, h11, Int32.not_lt.mp h11, saltE, saltUC]; done) | (simp only [saltE, saltUC, bI, ← Int32.not_le] at *; simp [h2, h4, h6, h8, h11, Int32.not_lt.mp h11]; done) | (simp_all [bI, h2, h4, h6, h8, h11, Int32.not_lt.mp h11, saltE, saltUC]; done) | (simp_all [bI, h2, h4, h6, h8, h11, Int32.not_lt.mp h11, saltE, saltUC]; rfl) | (exfalso; omega)⟩

abbrev r_X7_trade : Room := { frames := 8, cells := 6, slots := 36, locals := 124 }
set_option maxRecDepth 4000 in
theorem c_X7_trade {l : Launch} {G : GG} {a : AD} {s t s0 : SS} {L : List (Nat × Nat)} {nm : Nat} {nc : Nat} (hst : l.stackTraces = false) (hG : GOK G) (hL : Live L s0) (c : Int32) (b : Int32) (m : Int32) (hlm : LsOK a s s0 0 nm) (hm12 : nm ≤ 12) (hv_nm : ∀ i, i < nm → i < tn (s0 12 0)) (hlc : LsOK a s s0 1 nc) (hv_nc : ∀ i, i < nc → i < tn (s0 21 0)) (hco : ∀ i, i < nc → vp_in (s 22 i) nm) (hcf : ∀ i, i < nc → vp_in (s 23 i) 40 ∧ vp_in (s 24 i) 11 ∧ tn (s 23 i) + tn (s 24 i) ≤ 40) : Mth l yX7_trade cX7_trade 9 (Option.some Jvm.ClassFile.FieldType.int) r_X7_trade G (wl a (E G.2.2.1 a s t) L) [.ref (a 2 0), .int c, .int b, .int m] (RI (.int (tradeR s c b m)) (wl a (E G.2.2.1 a (tradeUC s c b m) t) L) (tradeE s c b m = 0)) (XW (fun E => pE L3 (tradeE s c b m) E) (wl a (E G.2.2.1 a s t) L)) := by
  refine mth_of rfl (Nat.le_of_ble_eq_true rfl) hst hG (fun X hX C0 => ?_)
  subst hX
  have C : Cx X G cX7_trade 9 RX7 (Option.some Jvm.ClassFile.FieldType.int) r_X7_trade "trade" [] := C0
  clear C0
  show V X G 9 _ 0 0 _ 0 [(0, .ref (a 2 0)), (1, .int (c)), (2, .int (b)), (3, .int (m))] []
  have hc30 := hlc.2.1
  refine v_aload_n C dX7_trade_0 rfl 0 rfl ?_
  refine v_iload_n C dX7_trade_1 rfl 1 rfl ?_
  refine w_invVr C [.int (c)] 1 6 L_X7_157 (c_X7_claimAt (s := s) (t := t) (nc := nc) hst hG hL c hlc hv_nc) (m2 (s := s) (t := t) (g := G.2.2.1) hL) rfl rfl rfl rfl dX7_trade_2 rfl (kx_out C (by decide) (fun E w1 hE => by obtain ⟨⟨rfl, h1⟩, rfl⟩ := hE; exact ⟨⟨1, List.Mem.head _, by first | rfl | (simp only [h1, tradeE, tradeR, tradeUC, bI, pM, pU, n10, n20, n30, n0, if_true, if_false, ite_true, ite_false, not_true_eq_false, not_false_eq_true, and_true, true_and, and_false, false_and, or_true, true_or, or_false, false_or, reduceIte, and_self, or_self, ne_eq, eq_self_iff_true]; first | done | rfl) | (simp [bI, h1, tradeE, tradeR, tradeUC]; done) | (simp only [tradeE, tradeR, tradeUC, bI, ← Int32.not_le] at *; simp [h1]; done) | (simp_all [bI, h1, tradeE, tradeR, tradeUC]; done) | (simp_all [bI, h1, tradeE, tradeR, tradeUC]; rfl) | (exfalso; omega)⟩, rfl⟩)) (fun h2 => ?_)
  have lh2 : tn c < nc := in_lt (vp_cnt h2 hlc.p1 (Nat.le_refl _) (by omega))
  refine v_astore C (lv1 := [(4, .ref (a 12 (tn c))), (0, .ref (a 2 0)), (1, .int (c)), (2, .int (b)), (3, .int (m))]) dX7_trade_5 rfl (by decide) rfl ?_
  refine v_aload_n C dX7_trade_7 rfl 1 rfl ?_
  refine v_iload_n C dX7_trade_8 rfl 3 rfl ?_
  refine w_invVr C [.int (b)] 2 12 L_X7_108 (c_X7_minerAt (s := s) (t := t) (nm := nm) hst hG hL b hlm hm12 hv_nm) (m2 (s := s) (t := t) (g := G.2.2.1) hL) rfl rfl rfl rfl dX7_trade_9 rfl (kx_out C (by decide) (fun E w1 hE => by obtain ⟨⟨rfl, h3⟩, rfl⟩ := hE; exact ⟨⟨1, List.Mem.head _, by first | rfl | (simp only [h2, h3, tradeE, tradeR, tradeUC, bI, pM, pU, n10, n20, n30, n0, if_true, if_false, ite_true, ite_false, not_true_eq_false, not_false_eq_true, and_true, true_and, and_false, false_and, or_true, true_or, or_false, false_or, reduceIte, and_self, or_self, ne_eq, eq_self_iff_true]; first | done | rfl) | (simp [bI, h2, h3, tradeE, tradeR, tradeUC]; done) | (simp only [tradeE, tradeR, tradeUC, bI, ← Int32.not_le] at *; simp [h2, h3]; done) | (simp_all [bI, h2, h3, tradeE, tradeR, tradeUC]; done) | (simp_all [bI, h2, h3, tradeE, tradeR, tradeUC]; rfl) | (exfalso; omega)⟩, rfl⟩)) (fun h4 => ?_)
  have lh4 : tn b < nm := in_lt (vp_cnt h4 hlm.p0 (Nat.le_refl _) (by omega))
  refine v_astore C (lv1 := [(5, .ref (a 9 (tn b))), (4, .ref (a 12 (tn c))), (0, .ref (a 2 0)), (1, .int (c)), (2, .int (b)), (3, .int (m))]) dX7_trade_12 rfl (by decide) rfl ?_
  refine v_iload_n C dX7_trade_14 rfl 5 rfl ?_
  refine v_iconst C (v := 0) dX7_trade_15 rfl rfl ?_
  refine v_ldc C (v := 100000) dX7_trade_16 rfl N_X7_66 ?_
  refine w_invSv C [.int (m), .int (0), .int (100000)] 3 18 L_X7_67 (c_X7_checkRange (s := s) (t := t)  hst hG hL m 0 100000) rfl rfl rfl dX7_trade_18 rfl (kx_out C (by decide) (fun E w1 hE => by obtain ⟨⟨rfl, h5⟩, rfl⟩ := hE; exact ⟨⟨2, List.Mem.tail _ (List.Mem.head _), by first | rfl | (simp only [h2, h4, h5, tradeE, tradeR, tradeUC, bI, pM, pU, n10, n20, n30, n0, if_true, if_false, ite_true, ite_false, not_true_eq_false, not_false_eq_true, and_true, true_and, and_false, false_and, or_true, true_or, or_false, false_or, reduceIte, and_self, or_self, ne_eq, eq_self_iff_true]; first | done | rfl) | (simp [bI, h2, h4, h5, tradeE, tradeR, tradeUC]; done) | (simp only [tradeE, tradeR, tradeUC, bI, ← Int32.not_le] at *; simp [h2, h4, h5]; done) | (simp_all [bI, h2, h4, h5, tradeE, tradeR, tradeUC]; done) | (simp_all [bI, h2, h4, h5, tradeE, tradeR, tradeUC]; rfl) | (exfalso; omega)⟩, rfl⟩)) (fun h6 => ?_)
  refine v_iload_n C dX7_trade_21 rfl 4 rfl ?_
  refine v_aload C dX7_trade_22 rfl 1 rfl ?_
  refine v_get C (v := .int (s 22 (tn c))) g_X7_223 (m12 (s := s) (t := t) (g := G.2.2.1) hL (tn c) (hv_nc _ (by omega))) (rg (by decide) rfl) dX7_trade_24 rfl ?_
  refine v_icmp_eq C (t := 34) dX7_trade_27 rfl rfl (fun h7 => ?_) (fun h7 => ?_)
  · skip
    refine v_iconst C (v := 0) dX7_trade_34 rfl rfl ?_
    refine w_invSv C [.int (0)] 4 24 L_X7_105 (c_X7_checkArgument (s := s) (t := t)  hst hG hL 0) rfl rfl rfl dX7_trade_35 rfl (kx_out C (by decide) (fun E w1 hE => by obtain ⟨⟨rfl, h8⟩, rfl⟩ := hE; exact ⟨⟨2, List.Mem.tail _ (List.Mem.head _), by first | rfl | (simp only [h2, h4, h6, eq_true h7, h8, tradeE, tradeR, tradeUC, bI, pM, pU, n10, n20, n30, n0, if_true, if_false, ite_true, ite_false, not_true_eq_false, not_false_eq_true, and_true, true_and, and_false, false_and, or_true, true_or, or_false, false_or, reduceIte, and_self, or_self, ne_eq, eq_self_iff_true]; first | done | rfl) | (simp [bI, h2, h4, h6, eq_true h7, h8, tradeE, tradeR, tradeUC]; done) | (simp only [tradeE, tradeR, tradeUC, bI, ← Int32.not_le] at *; simp [h2, h4, h6, eq_true h7, h8]; done) | (simp_all [bI, h2, h4, h6, eq_true h7, h8, tradeE, tradeR, tradeUC]; done) | (simp_all [bI, h2, h4, h6, eq_true h7, h8, tradeE, tradeR, tradeUC]; rfl) | (exfalso; omega)⟩, rfl⟩)) (fun h9 => ?_)
    exact absurd rfl h9
  · skip
    refine v_iconst C (v := 1) dX7_trade_30 rfl rfl ?_
    refine v_goto C (q := 35) dX7_trade_31 rfl ?_
    refine w_invSv C [.int (1)] 4 24 L_X7_105 (c_X7_checkArgument (s := s) (t := t)  hst hG hL 1) rfl rfl rfl dX7_trade_35 rfl (fun E w1 hE => absurd hE.1.2 (by decide)) (fun h10 => ?_)
    refine v_aload C dX7_trade_38 rfl 1 rfl ?_
    refine v_get C (v := .int (s 25 (tn c))) g_X7_226 (m12 (s := s) (t := t) (g := G.2.2.1) hL (tn c) (hv_nc _ (by omega))) (rg (by decide) rfl) dX7_trade_40 rfl ?_
    refine v_if_eq C (t := 67) dX7_trade_43 rfl rfl (fun h11 => ?_) (fun h11 => ?_)
    · skip
      refine v_iconst C (v := 0) dX7_trade_67 rfl rfl ?_
      refine w_invSv C [.int (0)] 5 30 L_X7_75 (c_X7_checkState (s := s) (t := t)  hst hG hL 0) rfl rfl rfl dX7_trade_68 rfl (kx_out C (by decide) (fun E w1 hE => by obtain ⟨⟨rfl, h12⟩, rfl⟩ := hE; exact ⟨⟨3, List.Mem.tail _ (List.Mem.tail _ (List.Mem.head _)), by first | rfl | (simp only [h2, h4, h6, h7, eq_true h11, h12, tradeE, tradeR, tradeUC, bI, pM, pU, n10, n20, n30, n0, if_true, if_false, ite_true, ite_false, not_true_eq_false, not_false_eq_true, and_true, true_and, and_false, false_and, or_true, true_or, or_false, false_or, reduceIte, and_self, or_self, ne_eq, eq_self_iff_true]; first | done | rfl) | (simp [bI, h2, h4, h6, h7, eq_true h11, h12, tradeE, tradeR, tradeUC]; done) | (simp only [tradeE, tradeR, tradeUC, bI, ← Int32.not_le] at *; simp [h2, h4, h6, h7, eq_true h11, h12]; done) | (simp_all [bI, h2, h4, h6, h7, eq_true h11, h12, tradeE, tradeR, tradeUC]; done) | (simp_all [bI, h2, h4, h6, h7, eq_true h11, h12, tradeE, tradeR, tradeUC]; rfl) | (exfalso; omega)⟩, rfl⟩)) (fun h13 => ?_)
      exact absurd rfl h13
    · skip
      refine v_aload C dX7_trade_46 rfl 0 rfl ?_
      refine w_invVr C [] 4 24 L_X7_115 (c_X3_isDead (s := s) (t := t)  hst hG hL (tn b) (hv_nm _ (by omega))) (m9 (s := s) (t := t) (g := G.2.2.1) hL (tn b) (hv_nm _ (by omega))) rfl rfl rfl rfl dX7_trade_48 rfl kx_no (fun h14 => ?_)
      refine v_ifB_ne C (t := 67) dX7_trade_51 rfl rfl (fun h15 => ?_) (fun h15 => ?_)
      · skip
        refine v_iconst C (v := 0) dX7_trade_67 rfl rfl ?_
        refine w_invSv C [.int (0)] 5 30 L_X7_75 (c_X7_checkState (s := s) (t := t)  hst hG hL 0) rfl rfl rfl dX7_trade_68 rfl (kx_out C (by decide) (fun E w1 hE => by obtain ⟨⟨rfl, h16⟩, rfl⟩ := hE; exact ⟨⟨3, List.Mem.tail _ (List.Mem.tail _ (List.Mem.head _)), by first | rfl | (simp only [h2, h4, h6, h7, h11, eq_true h15, h16, tradeE, tradeR, tradeUC, bI, pM, pU, n10, n20, n30, n0, if_true, if_false, ite_true, ite_false, not_true_eq_false, not_false_eq_true, and_true, true_and, and_false, false_and, or_true, true_or, or_false, false_or, reduceIte, and_self, or_self, ne_eq, eq_self_iff_true]; first | done | rfl) | (simp [bI, h2, h4, h6, h7, h11, eq_true h15, h16, tradeE, tradeR, tradeUC]; done) | (simp only [tradeE, tradeR, tradeUC, bI, ← Int32.not_le] at *; simp [h2, h4, h6, h7, h11, eq_true h15, h16]; done) | (simp_all [bI, h2, h4, h6, h7, h11, eq_true h15, h16, tradeE, tradeR, tradeUC]; done) | (simp_all [bI, h2, h4, h6, h7, h11, eq_true h15, h16, tradeE, tradeR, tradeUC]; rfl) | (exfalso; omega)⟩, rfl⟩)) (fun h17 => ?_)
        exact absurd rfl h17
      · skip
        refine v_aload C dX7_trade_54 rfl 0 rfl ?_
        refine v_get C (v := .int (s 16 (tn b))) g_X7_194 (m9 (s := s) (t := t) (g := G.2.2.1) hL (tn b) (hv_nm _ (by omega))) (rg (by decide) rfl) dX7_trade_56 rfl ?_
        refine v_iload_n C dX7_trade_59 rfl 5 rfl ?_
        refine v_icmp_lt C (t := 67) dX7_trade_60 rfl rfl (fun h18 => ?_) (fun h18 => ?_)
        · skip
          refine v_iconst C (v := 0) dX7_trade_67 rfl rfl ?_
          refine w_invSv C [.int (0)] 5 30 L_X7_75 (c_X7_checkState (s := s) (t := t)  hst hG hL 0) rfl rfl rfl dX7_trade_68 rfl (kx_out C (by decide) (fun E w1 hE => by obtain ⟨⟨rfl, h19⟩, rfl⟩ := hE; exact ⟨⟨3, List.Mem.tail _ (List.Mem.tail _ (List.Mem.head _)), by first | rfl | (simp only [h2, h4, h6, h7, h11, h15, h18, Int32.not_le.mpr h18, h19, tradeE, tradeR, tradeUC, bI, pM, pU, n10, n20, n30, n0, if_true, if_false, ite_true, ite_false, not_true_eq_false, not_false_eq_true, and_true, true_and, and_false, false_and, or_true, true_or, or_false, false_or, reduceIte, and_self, or_self, ne_eq, eq_self_iff_true]; first | done | rfl) | (simp [bI, h2, h4, h6, h7, h11, h15, h18, Int32.not_le.mpr h18, h19, tradeE, tradeR, tradeUC]; done) | (simp only [tradeE, tradeR, tradeUC, bI, ← Int32.not_le] at *; simp [h2, h4, h6, h7, h11, h15, h18, Int32.not_le.mpr h18, h19]; done) | (simp_all [bI, h2, h4, h6, h7, h11, h15, h18, Int32.not_le.mpr h18, h19, tradeE, tradeR, tradeUC]; done) | (simp_all [bI, h2, h4, h6, h7, h11, h15, h18, Int32.not_le.mpr h18, h19, tradeE, tradeR, tradeUC]; rfl) | (exfalso; omega)⟩, rfl⟩)) (fun h20 => ?_)
          exact absurd rfl h20
        · skip
          refine v_iconst C (v := 1) dX7_trade_63 rfl rfl ?_
          refine v_goto C (q := 68) dX7_trade_64 rfl ?_
          refine w_invSv C [.int (1)] 5 30 L_X7_75 (c_X7_checkState (s := s) (t := t)  hst hG hL 1) rfl rfl rfl dX7_trade_68 rfl (fun E w1 hE => absurd hE.1.2 (by decide)) (fun h21 => ?_)
          refine v_aload C dX7_trade_71 rfl 1 rfl ?_
          refine v_get C (v := .int (s 22 (tn c))) g_X7_223 (m12 (s := s) (t := t) (g := G.2.2.1) hL (tn c) (hv_nc _ (by omega))) (rg (by decide) rfl) dX7_trade_73 rfl ?_
          refine v_istore C (lv1 := [(6, .int (s 22 (tn c))), (5, .ref (a 9 (tn b))), (4, .ref (a 12 (tn c))), (0, .ref (a 2 0)), (1, .int (c)), (2, .int (b)), (3, .int (m))]) dX7_trade_76 rfl (by decide) rfl ?_
          refine v_aload_n C dX7_trade_78 rfl 3 rfl ?_
          refine v_iload C dX7_trade_79 rfl 0 rfl ?_
          refine w_invVr C [.int (s 22 (tn c))] 6 36 L_X7_108 (c_X7_minerAt (s := s) (t := t) (nm := nm) hst hG hL (s 22 (tn c)) hlm hm12 hv_nm) (m2 (s := s) (t := t) (g := G.2.2.1) hL) rfl rfl rfl rfl dX7_trade_81 rfl (fun E w1 hE => absurd (mi_vp (hco _ (by omega)) hlm.p0 (by omega)) hE.1.2) (fun h22 => ?_)
          have lh22 : tn (s 22 (tn c)) < nm := in_lt (vp_cnt h22 hlm.p0 (Nat.le_refl _) (by omega))
          refine v_astore C (lv1 := [(7, .ref (a 9 (tn (s 22 (tn c))))), (6, .int (s 22 (tn c))), (5, .ref (a 9 (tn b))), (4, .ref (a 12 (tn c))), (0, .ref (a 2 0)), (1, .int (c)), (2, .int (b)), (3, .int (m))]) dX7_trade_84 rfl (by decide) rfl ?_
          refine v_aload C dX7_trade_86 rfl 2 rfl ?_
          refine v_dup C dX7_trade_88 rfl rfl ?_
          refine v_get C (v := .int (s 16 (tn b))) g_X7_194 (m9 (s := s) (t := t) (g := G.2.2.1) hL (tn b) (hv_nm _ (by omega))) (rg (by decide) rfl) dX7_trade_89 rfl ?_
          refine v_iload_n C dX7_trade_92 rfl 7 rfl ?_
          refine v_isub C dX7_trade_93 rfl ?_
          refine v_put C f_X7_194 (put_n (s := s) (t := t) (g := G.2.2.1) hL 5 (by decide) (by decide) (tn b) (hv_nm _ (by omega)) ((s 16 (tn b)) - m)) rfl rfl (rg_len (by decide)) dX7_trade_94 rfl ?_
          refine xx_w (w' := wl a (E G.2.2.1 a (su s 16 (tn b) ((s 16 (tn b)) - m)) t) L) rfl ?_
          refine v_aload C dX7_trade_97 rfl 0 rfl ?_
          refine v_dup C dX7_trade_99 rfl rfl ?_
          refine v_get C (v := .int ((su s 16 (tn b) ((s 16 (tn b)) - m)) 16 (tn (s 22 (tn c))))) g_X7_194 (m9 (s := ((su s 16 (tn b) ((s 16 (tn b)) - m)))) (t := t) (g := G.2.2.1) hL (tn (s 22 (tn c))) (hv_nm _ (by omega))) (rg (by decide) rfl) dX7_trade_100 rfl ?_
          refine v_iload_n C dX7_trade_103 rfl 7 rfl ?_
          refine v_iadd C dX7_trade_104 rfl ?_
          refine v_put C f_X7_194 (put_n (s := ((su s 16 (tn b) ((s 16 (tn b)) - m)))) (t := t) (g := G.2.2.1) hL 5 (by decide) (by decide) (tn (s 22 (tn c))) (hv_nm _ (by omega)) (((su s 16 (tn b) ((s 16 (tn b)) - m)) 16 (tn (s 22 (tn c)))) + m)) rfl rfl (rg_len (by decide)) dX7_trade_105 rfl ?_
          refine xx_w (w' := wl a (E G.2.2.1 a (su (su s 16 (tn b) ((s 16 (tn b)) - m)) 16 (tn (s 22 (tn c))) (((su s 16 (tn b) ((s 16 (tn b)) - m)) 16 (tn (s 22 (tn c)))) + m)) t) L) rfl ?_
          refine v_aload C dX7_trade_108 rfl 0 rfl ?_
          refine v_aload C dX7_trade_110 rfl 3 rfl ?_
          refine v_get C (v := .int (s 23 (tn c))) g_X7_229 (m12 (s := ((su (su s 16 (tn b) ((s 16 (tn b)) - m)) 16 (tn (s 22 (tn c))) (((su s 16 (tn b) ((s 16 (tn b)) - m)) 16 (tn (s 22 (tn c)))) + m)))) (t := t) (g := G.2.2.1) hL (tn c) (hv_nc _ (by omega))) (rg (by decide) rfl) dX7_trade_112 rfl ?_
          refine v_aload C dX7_trade_115 rfl 3 rfl ?_
          refine v_get C (v := .int (s 24 (tn c))) g_X7_232 (m12 (s := ((su (su s 16 (tn b) ((s 16 (tn b)) - m)) 16 (tn (s 22 (tn c))) (((su s 16 (tn b) ((s 16 (tn b)) - m)) 16 (tn (s 22 (tn c)))) + m)))) (t := t) (g := G.2.2.1) hL (tn c) (hv_nc _ (by omega))) (rg (by decide) rfl) dX7_trade_117 rfl ?_
          refine v_aload_n C dX7_trade_120 rfl 4 rfl ?_
          refine v_get C (v := .int (s 0 0)) g_X7_43 (m2 (s := ((su (su s 16 (tn b) ((s 16 (tn b)) - m)) 16 (tn (s 22 (tn c))) (((su s 16 (tn b) ((s 16 (tn b)) - m)) 16 (tn (s 22 (tn c)))) + m)))) (t := t) (g := G.2.2.1) hL) (rg (by decide) rfl) dX7_trade_121 rfl ?_
          refine w_invVr C [.int (s 23 (tn c)), .int (s 24 (tn c)), .int (s 0 0)] 6 36 L_X7_235 (c_X3_saltedLately (s := ((su (su s 16 (tn b) ((s 16 (tn b)) - m)) 16 (tn (s 22 (tn c))) (((su s 16 (tn b) ((s 16 (tn b)) - m)) 16 (tn (s 22 (tn c)))) + m)))) (t := t)  hst hG hL (tn (s 22 (tn c))) (s 23 (tn c)) _ (in_nI (N := 40) (hcf _ (by omega)).1 (by omega)) (in_lt (N := 40) (hcf _ (by omega)).1) (s 24 (tn c)) _ (in_nI (N := 11) (hcf _ (by omega)).2.1 (by omega)) (in_lt (N := 11) (hcf _ (by omega)).2.1) (s 0 0) (hv_nm _ (by omega)) (hcf _ (by omega)).2.2) (m9 (s := ((su (su s 16 (tn b) ((s 16 (tn b)) - m)) 16 (tn (s 22 (tn c))) (((su s 16 (tn b) ((s 16 (tn b)) - m)) 16 (tn (s 22 (tn c)))) + m)))) (t := t) (g := G.2.2.1) hL (tn (s 22 (tn c))) (hv_nm _ (by omega))) rfl rfl rfl rfl dX7_trade_124 rfl kx_no (fun h23 => ?_)
          refine xx_top (y := slC s (tn (s 22 (tn c))) (tn (s 23 (tn c))) (s 0 0) (tn (s 24 (tn c)))) (slC_c (z := s) (z' := (su (su s 16 (tn b) ((s 16 (tn b)) - m)) 16 (tn (s 22 (tn c))) (((su s 16 (tn b) ((s 16 (tn b)) - m)) 16 (tn (s 22 (tn c)))) + m))) rfl _) ?_
          refine v_istore C (lv1 := [(8, .int (slC s (tn (s 22 (tn c))) (tn (s 23 (tn c))) (s 0 0) (tn (s 24 (tn c))))), (7, .ref (a 9 (tn (s 22 (tn c))))), (6, .int (s 22 (tn c))), (5, .ref (a 9 (tn b))), (4, .ref (a 12 (tn c))), (0, .ref (a 2 0)), (1, .int (c)), (2, .int (b)), (3, .int (m))]) dX7_trade_127 rfl (by decide) rfl ?_
          refine v_aload C dX7_trade_129 rfl 4 rfl ?_
          refine v_iload_n C dX7_trade_131 rfl 7 rfl ?_
          refine v_iload_n C dX7_trade_132 rfl 8 rfl ?_
          refine v_aload_n C dX7_trade_133 rfl 5 rfl ?_
          refine v_get C (v := .int (s 0 0)) g_X7_43 (m2 (s := ((su (su s 16 (tn b) ((s 16 (tn b)) - m)) 16 (tn (s 22 (tn c))) (((su s 16 (tn b) ((s 16 (tn b)) - m)) 16 (tn (s 22 (tn c)))) + m)))) (t := t) (g := G.2.2.1) hL) (rg (by decide) rfl) dX7_trade_134 rfl ?_
          refine v_iload C dX7_trade_137 rfl 0 rfl ?_
          refine w_invVv C [.int (b), .int (m), .int (s 0 0), .int (slC s (tn (s 22 (tn c))) (tn (s 23 (tn c))) (s 0 0) (tn (s 24 (tn c))))] 6 36 L_X7_239 (c_X0_sellTo (s := ((su (su s 16 (tn b) ((s 16 (tn b)) - m)) 16 (tn (s 22 (tn c))) (((su s 16 (tn b) ((s 16 (tn b)) - m)) 16 (tn (s 22 (tn c)))) + m)))) (t := t)  hst hG hL (tn c) b m (s 0 0) (slC s (tn (s 22 (tn c))) (tn (s 23 (tn c))) (s 0 0) (tn (s 24 (tn c)))) (hv_nc _ (by omega)) (slC_01 _)) (m12 (s := ((su (su s 16 (tn b) ((s 16 (tn b)) - m)) 16 (tn (s 22 (tn c))) (((su s 16 (tn b) ((s 16 (tn b)) - m)) 16 (tn (s 22 (tn c)))) + m)))) (t := t) (g := G.2.2.1) hL (tn c) (hv_nc _ (by omega))) rfl rfl rfl rfl dX7_trade_139 rfl kx_no (fun h24 => ?_)
          refine v_iload C dX7_trade_142 rfl 2 rfl ?_
          exact v_iret C (by decide) (by decide) dX7_trade_144 ⟨congrArg (fun z => some (Value.int z)) (by first | rfl | (simp only [h2, h4, h6, h7, h11, h15, h18, Int32.not_lt.mp h18, h22, tradeE, tradeR, tradeUC, bI, pM, pU, n10, n20, n30, n0, if_true, if_false, ite_true, ite_false, not_true_eq_false, not_false_eq_true, and_true, true_and, and_false, false_and, or_true, true_or, or_false, false_or, reduceIte, and_self, or_self, ne_eq, eq_self_iff_true]; first | done | rfl) | (simp [bI, h2, h4, h6, h7, h11, h15, h18, Int32.not_lt.mp h18, h22, tradeE, tradeR, tradeUC]; done) | (simp only [tradeE, tradeR, tradeUC, bI, ← Int32.not_le] at *; simp [h2, h4, h6, h7, h11, h15, h18, Int32.not_lt.mp h18, h22]; done) | (simp_all [bI, h2, h4, h6, h7, h11, h15, h18, Int32.not_lt.mp h18, h22, tradeE, tradeR, tradeUC]; done) | (simp_all [bI, h2, h4, h6, h7, h11, h15, h18, Int32.not_lt.mp h18, h22, tradeE, tradeR, tradeUC]; rfl) | (exfalso; omega)), by first | rfl | (simp only [h2, h4, h6, h7, h11, h15, h18, Int32.not_lt.mp h18, h22, tradeE, tradeR, tradeUC, bI, pM, pU, n10, n20, n30, n0, if_true, if_false, ite_true, ite_false, not_true_eq_false, not_false_eq_true, and_true, true_and, and_false, false_and, or_true, true_or, or_false, false_or, reduceIte, and_self, or_self, ne_eq, eq_self_iff_true]; first | done | rfl) | (simp [bI, h2, h4, h6, h7, h11, h15, h18, Int32.not_lt.mp h18, h22, tradeE, tradeR, tradeUC]; done) | (simp only [tradeE, tradeR, tradeUC, bI, ← Int32.not_le] at *; simp [h2, h4, h6, h7, h11, h15, h18, Int32.not_lt.mp h18, h22]; done) | (simp_all [bI, h2, h4, h6, h7, h11, h15, h18, Int32.not_lt.mp h18, h22, tradeE, tradeR, tradeUC]; done) | (simp_all [bI, h2, h4, h6, h7, h11, h15, h18, Int32.not_lt.mp h18, h22, tradeE, tradeR, tradeUC]; rfl) | (exfalso; omega), by first | assumption | first | rfl | (simp only [h2, h4, h6, h7, h11, h15, h18, Int32.not_lt.mp h18, h22, tradeE, tradeR, tradeUC, bI, pM, pU, n10, n20, n30, n0, if_true, if_false, ite_true, ite_false, not_true_eq_false, not_false_eq_true, and_true, true_and, and_false, false_and, or_true, true_or, or_false, false_or, reduceIte, and_self, or_self, ne_eq, eq_self_iff_true]; first | done | rfl) | (simp [bI, h2, h4, h6, h7, h11, h15, h18, Int32.not_lt.mp h18, h22, tradeE, tradeR, tradeUC]; done) | (simp only [tradeE, tradeR, tradeUC, bI, ← Int32.not_le] at *; simp [h2, h4, h6, h7, h11, h15, h18, Int32.not_lt.mp h18, h22]; done) | (simp_all [bI, h2, h4, h6, h7, h11, h15, h18, Int32.not_lt.mp h18, h22, tradeE, tradeR, tradeUC]; done) | (simp_all [bI, h2, h4, h6, h7, h11, h15, h18, Int32.not_lt.mp h18, h22, tradeE, tradeR, tradeUC]; rfl) | (exfalso; omega)⟩

abbrev r_X7_suit : Room := { frames := 7, cells := 4, slots := 24, locals := 103 }
set_option maxRecDepth 4000 in
theorem c_X7_suit {l : Launch} {G : GG} {a : AD} {s t s0 : SS} {L : List (Nat × Nat)} {nm : Nat} {nc : Nat} (hst : l.stackTraces = false) (hG : GOK G) (hL : Live L s0) (c : Int32) (hlm : LsOK a s s0 0 nm) (hm12 : nm ≤ 12) (hv_nm : ∀ i, i < nm → i < tn (s0 12 0)) (hlc : LsOK a s s0 1 nc) (hv_nc : ∀ i, i < nc → i < tn (s0 21 0)) (hco : ∀ i, i < nc → vp_in (s 22 i) nm) (hsl : ∀ i, i < nc → ¬ s 53 i = -1 → vp_in (s 53 i) nm) : Mth l yX7_suit cX7_suit 6 (Option.some Jvm.ClassFile.FieldType.int) r_X7_suit G (wl a (E G.2.2.1 a s t) L) [.ref (a 2 0), .int c] (RI (.int (suitRC s c)) (wl a (E G.2.2.1 a (suitUC s c) t) L) (suitEC s c = 0)) (XW (fun E => pE LIS (suitEC s c) E) (wl a (E G.2.2.1 a s t) L)) := by
  refine mth_of rfl (Nat.le_of_ble_eq_true rfl) hst hG (fun X hX C0 => ?_)
  subst hX
  have C : Cx X G cX7_suit 6 RX7 (Option.some Jvm.ClassFile.FieldType.int) r_X7_suit "suit" [] := C0
  clear C0
  show V X G 6 _ 0 0 _ 0 [(0, .ref (a 2 0)), (1, .int (c))] []
  have hc30 := hlc.2.1
  refine v_aload_n C dX7_suit_0 rfl 0 rfl ?_
  refine v_iload_n C dX7_suit_1 rfl 1 rfl ?_
  refine w_invVr C [.int (c)] 1 6 L_X7_157 (c_X7_claimAt (s := s) (t := t) (nc := nc) hst hG hL c hlc hv_nc) (m2 (s := s) (t := t) (g := G.2.2.1) hL) rfl rfl rfl rfl dX7_suit_2 rfl (kx_out C (by decide) (fun E w1 hE => by obtain ⟨⟨rfl, h1⟩, rfl⟩ := hE; exact ⟨⟨1, List.Mem.head _, by first | rfl | (simp only [h1, suitEC, suitRC, suitUC, bI, pM, pU, n10, n20, n30, n0, if_true, if_false, ite_true, ite_false, not_true_eq_false, not_false_eq_true, and_true, true_and, and_false, false_and, or_true, true_or, or_false, false_or, reduceIte, and_self, or_self, ne_eq, eq_self_iff_true]; first | done | rfl) | (simp [bI, h1, suitEC, suitRC, suitUC]; done) | (simp only [suitEC, suitRC, suitUC, bI, ← Int32.not_le] at *; simp [h1]; done) | (simp_all [bI, h1, suitEC, suitRC, suitUC]; done) | (simp_all [bI, h1, suitEC, suitRC, suitUC]; rfl) | (exfalso; omega)⟩, rfl⟩)) (fun h2 => ?_)
  have lh2 : tn c < nc := in_lt (vp_cnt h2 hlc.p1 (Nat.le_refl _) (by omega))
  refine v_astore_n C (lv1 := [(2, .ref (a 12 (tn c))), (0, .ref (a 2 0)), (1, .int (c))]) dX7_suit_5 rfl (by decide) rfl ?_
  refine v_aload_n C dX7_suit_6 rfl 0 rfl ?_
  refine v_get C (v := .int (s 53 (tn c))) g_X7_243 (m12 (s := s) (t := t) (g := G.2.2.1) hL (tn c) (hv_nc _ (by omega))) (rg (by decide) rfl) dX7_suit_7 rfl ?_
  refine v_iconst C (v := (-1)) dX7_suit_10 rfl rfl ?_
  refine v_icmp_eq C (t := 39) dX7_suit_11 rfl rfl (fun h3 => ?_) (fun h3 => ?_)
  · skip
    refine v_iconst C (v := 0) dX7_suit_39 rfl rfl ?_
    refine w_invSv C [.int (0)] 2 12 L_X7_75 (c_X7_checkState (s := s) (t := t)  hst hG hL 0) rfl rfl rfl dX7_suit_40 rfl (kx_out C (by decide) (fun E w1 hE => by obtain ⟨⟨rfl, h4⟩, rfl⟩ := hE; exact ⟨⟨2, List.Mem.tail _ (List.Mem.head _), by first | rfl | (simp only [h2, eq_true h3, h4, suitEC, suitRC, suitUC, bI, pM, pU, n10, n20, n30, n0, if_true, if_false, ite_true, ite_false, not_true_eq_false, not_false_eq_true, and_true, true_and, and_false, false_and, or_true, true_or, or_false, false_or, reduceIte, and_self, or_self, ne_eq, eq_self_iff_true]; first | done | rfl) | (simp [bI, h2, eq_true h3, h4, suitEC, suitRC, suitUC]; done) | (simp only [suitEC, suitRC, suitUC, bI, ← Int32.not_le] at *; simp [h2, eq_true h3, h4]; done) | (simp_all [bI, h2, eq_true h3, h4, suitEC, suitRC, suitUC]; done) | (simp_all [bI, h2, eq_true h3, h4, suitEC, suitRC, suitUC]; rfl) | (exfalso; omega)⟩, rfl⟩)) (fun h5 => ?_)
    exact absurd rfl h5
  · skip
    refine v_aload_n C dX7_suit_14 rfl 0 rfl ?_
    refine v_get C (v := .int (s 28 (tn c))) g_X7_246 (m12 (s := s) (t := t) (g := G.2.2.1) hL (tn c) (hv_nc _ (by omega))) (rg (by decide) rfl) dX7_suit_15 rfl ?_
    refine v_if_ne C (t := 39) dX7_suit_18 rfl rfl (fun h6 => ?_) (fun h6 => ?_)
    · skip
      refine v_iconst C (v := 0) dX7_suit_39 rfl rfl ?_
      refine w_invSv C [.int (0)] 2 12 L_X7_75 (c_X7_checkState (s := s) (t := t)  hst hG hL 0) rfl rfl rfl dX7_suit_40 rfl (kx_out C (by decide) (fun E w1 hE => by obtain ⟨⟨rfl, h7⟩, rfl⟩ := hE; exact ⟨⟨2, List.Mem.tail _ (List.Mem.head _), by first | rfl | (simp only [h2, h3, h6, h7, suitEC, suitRC, suitUC, bI, pM, pU, n10, n20, n30, n0, if_true, if_false, ite_true, ite_false, not_true_eq_false, not_false_eq_true, and_true, true_and, and_false, false_and, or_true, true_or, or_false, false_or, reduceIte, and_self, or_self, ne_eq, eq_self_iff_true]; first | done | rfl) | (simp [bI, h2, h3, h6, h7, suitEC, suitRC, suitUC]; done) | (simp only [suitEC, suitRC, suitUC, bI, ← Int32.not_le] at *; simp [h2, h3, h6, h7]; done) | (simp_all [bI, h2, h3, h6, h7, suitEC, suitRC, suitUC]; done) | (simp_all [bI, h2, h3, h6, h7, suitEC, suitRC, suitUC]; rfl) | (exfalso; omega)⟩, rfl⟩)) (fun h8 => ?_)
      exact absurd rfl h8
    · skip
      refine v_aload_n C dX7_suit_21 rfl 1 rfl ?_
      refine v_get C (v := .int (s 0 0)) g_X7_43 (m2 (s := s) (t := t) (g := G.2.2.1) hL) (rg (by decide) rfl) dX7_suit_22 rfl ?_
      refine v_aload_n C dX7_suit_25 rfl 0 rfl ?_
      refine v_get C (v := .int (s 32 (tn c))) g_X7_249 (m12 (s := s) (t := t) (g := G.2.2.1) hL (tn c) (hv_nc _ (by omega))) (rg (by decide) rfl) dX7_suit_26 rfl ?_
      refine v_isub C dX7_suit_29 rfl ?_
      refine v_bipush C (v := 30) dX7_suit_30 rfl rfl ?_
      refine v_icmp_gt C (t := 39) dX7_suit_32 rfl rfl (fun h9 => ?_) (fun h9 => ?_)
      · skip
        refine v_iconst C (v := 0) dX7_suit_39 rfl rfl ?_
        refine w_invSv C [.int (0)] 2 12 L_X7_75 (c_X7_checkState (s := s) (t := t)  hst hG hL 0) rfl rfl rfl dX7_suit_40 rfl (kx_out C (by decide) (fun E w1 hE => by obtain ⟨⟨rfl, h10⟩, rfl⟩ := hE; exact ⟨⟨2, List.Mem.tail _ (List.Mem.head _), by first | rfl | (simp only [h2, h3, eq_true h6, h9, Int32.not_le.mpr h9, h10, suitEC, suitRC, suitUC, bI, pM, pU, n10, n20, n30, n0, if_true, if_false, ite_true, ite_false, not_true_eq_false, not_false_eq_true, and_true, true_and, and_false, false_and, or_true, true_or, or_false, false_or, reduceIte, and_self, or_self, ne_eq, eq_self_iff_true]; first | done | rfl) | (simp [bI, h2, h3, eq_true h6, h9, Int32.not_le.mpr h9, h10, suitEC, suitRC, suitUC]; done) | (simp only [suitEC, suitRC, suitUC, bI, ← Int32.not_le] at *; simp [h2, h3, eq_true h6, h9, Int32.not_le.mpr h9, h10]; done) | (simp_all [bI, h2, h3, eq_true h6, h9, Int32.not_le.mpr h9, h10, suitEC, suitRC, suitUC]; done) | (simp_all [bI, h2, h3, eq_true h6, h9, Int32.not_le.mpr h9, h10, suitEC, suitRC, suitUC]; rfl) | (exfalso; omega)⟩, rfl⟩)) (fun h11 => ?_)
        exact absurd rfl h11
      · skip
        refine v_iconst C (v := 1) dX7_suit_35 rfl rfl ?_
        refine v_goto C (q := 40) dX7_suit_36 rfl ?_
        refine w_invSv C [.int (1)] 2 12 L_X7_75 (c_X7_checkState (s := s) (t := t)  hst hG hL 1) rfl rfl rfl dX7_suit_40 rfl (fun E w1 hE => absurd hE.1.2 (by decide)) (fun h12 => ?_)
        refine v_aload_n C dX7_suit_43 rfl 0 rfl ?_
        refine v_iconst C (v := 1) dX7_suit_44 rfl rfl ?_
        refine v_put C f_X7_246 (put_k (s := s) (t := t) (g := G.2.2.1) hL 10 (by decide) (tn c) (hv_nc _ (by omega)) 1) rfl rfl (rg_len (by decide)) dX7_suit_45 rfl ?_
        refine xx_w (w' := wl a (E G.2.2.1 a (su s 28 (tn c) 1) t) L) rfl ?_
        refine v_aload_n C dX7_suit_48 rfl 0 rfl ?_
        refine v_get C (v := .int (s 54 (tn c))) g_X7_252 (m12 (s := ((su s 28 (tn c) 1))) (t := t) (g := G.2.2.1) hL (tn c) (hv_nc _ (by omega))) (rg (by decide) rfl) dX7_suit_49 rfl ?_
        refine v_if_ne C (t := 57) dX7_suit_52 rfl rfl (fun h13 => ?_) (fun h13 => ?_)
        · skip
          refine v_aload_n C dX7_suit_57 rfl 1 rfl ?_
          refine v_aload_n C dX7_suit_58 rfl 0 rfl ?_
          refine v_get C (v := .int (s 22 (tn c))) g_X7_223 (m12 (s := ((su s 28 (tn c) 1))) (t := t) (g := G.2.2.1) hL (tn c) (hv_nc _ (by omega))) (rg (by decide) rfl) dX7_suit_59 rfl ?_
          refine w_invVr C [.int (s 22 (tn c))] 3 18 L_X7_108 (c_X7_minerAt (s := ((su s 28 (tn c) 1))) (t := t) (nm := nm) hst hG hL (s 22 (tn c)) hlm hm12 hv_nm) (m2 (s := ((su s 28 (tn c) 1))) (t := t) (g := G.2.2.1) hL) rfl rfl rfl rfl dX7_suit_62 rfl (fun E w1 hE => absurd (mi_vp (hco _ (by omega)) hlm.p0 (by omega)) hE.1.2) (fun h14 => ?_)
          have lh14 : tn (s 22 (tn c)) < nm := in_lt (vp_cnt h14 hlm.p0 (Nat.le_refl _) (by omega))
          refine v_astore_n C (lv1 := [(3, .ref (a 9 (tn (s 22 (tn c))))), (2, .ref (a 12 (tn c))), (0, .ref (a 2 0)), (1, .int (c))]) dX7_suit_65 rfl (by decide) rfl ?_
          refine v_aload_n C dX7_suit_66 rfl 2 rfl ?_
          refine v_aload_n C dX7_suit_67 rfl 1 rfl ?_
          refine v_get C (v := .int (s 53 (tn c))) g_X7_243 (m12 (s := ((su s 28 (tn c) 1))) (t := t) (g := G.2.2.1) hL (tn c) (hv_nc _ (by omega))) (rg (by decide) rfl) dX7_suit_68 rfl ?_
          refine w_invVr C [.int (s 53 (tn c))] 4 24 L_X7_108 (c_X7_minerAt (s := ((su s 28 (tn c) 1))) (t := t) (nm := nm) hst hG hL (s 53 (tn c)) hlm hm12 hv_nm) (m2 (s := ((su s 28 (tn c) 1))) (t := t) (g := G.2.2.1) hL) rfl rfl rfl rfl dX7_suit_71 rfl (fun E w1 hE => absurd (mi_vp (hsl _ (by omega) (by assumption)) hlm.p0 (by omega)) hE.1.2) (fun h15 => ?_)
          have lh15 : tn (s 53 (tn c)) < nm := in_lt (vp_cnt h15 hlm.p0 (Nat.le_refl _) (by omega))
          refine v_astore C (lv1 := [(4, .ref (a 9 (tn (s 53 (tn c))))), (3, .ref (a 9 (tn (s 22 (tn c))))), (2, .ref (a 12 (tn c))), (0, .ref (a 2 0)), (1, .int (c))]) dX7_suit_74 rfl (by decide) rfl ?_
          refine v_aload_n C dX7_suit_76 rfl 2 rfl ?_
          refine v_get C (v := .int (s 31 (tn c))) g_X7_255 (m12 (s := ((su s 28 (tn c) 1))) (t := t) (g := G.2.2.1) hL (tn c) (hv_nc _ (by omega))) (rg (by decide) rfl) dX7_suit_77 rfl ?_
          refine v_aload C dX7_suit_80 rfl 0 rfl ?_
          refine v_get C (v := .int (s 16 (tn (s 53 (tn c))))) g_X7_194 (m9 (s := ((su s 28 (tn c) 1))) (t := t) (g := G.2.2.1) hL (tn (s 53 (tn c))) (hv_nm _ (by omega))) (rg (by decide) rfl) dX7_suit_82 rfl ?_
          refine v_mmin C L_X7_258.2.1 L_X7_258.2.2 L_X7_258.1.1 L_X7_258.1.2.1 (by decide) (Nat.le_of_ble_eq_true rfl) (by decide) (by decide) dX7_suit_85 rfl ?_
          refine xx_top (y := minF (s 31 (tn c)) (s 16 (tn (s 53 (tn c))))) mn_c ?_
          refine v_istore C (lv1 := [(5, .int (minF (s 31 (tn c)) (s 16 (tn (s 53 (tn c)))))), (4, .ref (a 9 (tn (s 53 (tn c))))), (3, .ref (a 9 (tn (s 22 (tn c))))), (2, .ref (a 12 (tn c))), (0, .ref (a 2 0)), (1, .int (c))]) dX7_suit_88 rfl (by decide) rfl ?_
          refine v_aload C dX7_suit_90 rfl 1 rfl ?_
          refine v_dup C dX7_suit_92 rfl rfl ?_
          refine v_get C (v := .int (s 16 (tn (s 53 (tn c))))) g_X7_194 (m9 (s := ((su s 28 (tn c) 1))) (t := t) (g := G.2.2.1) hL (tn (s 53 (tn c))) (hv_nm _ (by omega))) (rg (by decide) rfl) dX7_suit_93 rfl ?_
          refine v_iload C dX7_suit_96 rfl 0 rfl ?_
          refine v_isub C dX7_suit_98 rfl ?_
          refine v_put C f_X7_194 (put_n (s := ((su s 28 (tn c) 1))) (t := t) (g := G.2.2.1) hL 5 (by decide) (by decide) (tn (s 53 (tn c))) (hv_nm _ (by omega)) ((s 16 (tn (s 53 (tn c)))) - (minF (s 31 (tn c)) (s 16 (tn (s 53 (tn c))))))) rfl rfl (rg_len (by decide)) dX7_suit_99 rfl ?_
          refine xx_w (w' := wl a (E G.2.2.1 a (su (su s 28 (tn c) 1) 16 (tn (s 53 (tn c))) ((s 16 (tn (s 53 (tn c)))) - (minF (s 31 (tn c)) (s 16 (tn (s 53 (tn c))))))) t) L) rfl ?_
          refine v_aload_n C dX7_suit_102 rfl 2 rfl ?_
          refine v_dup C dX7_suit_103 rfl rfl ?_
          refine v_get C (v := .int ((su (su s 28 (tn c) 1) 16 (tn (s 53 (tn c))) ((s 16 (tn (s 53 (tn c)))) - (minF (s 31 (tn c)) (s 16 (tn (s 53 (tn c))))))) 16 (tn (s 22 (tn c))))) g_X7_194 (m9 (s := ((su (su s 28 (tn c) 1) 16 (tn (s 53 (tn c))) ((s 16 (tn (s 53 (tn c)))) - (minF (s 31 (tn c)) (s 16 (tn (s 53 (tn c))))))))) (t := t) (g := G.2.2.1) hL (tn (s 22 (tn c))) (hv_nm _ (by omega))) (rg (by decide) rfl) dX7_suit_104 rfl ?_
          refine v_iload C dX7_suit_107 rfl 0 rfl ?_
          refine v_iadd C dX7_suit_109 rfl ?_
          refine v_put C f_X7_194 (put_n (s := ((su (su s 28 (tn c) 1) 16 (tn (s 53 (tn c))) ((s 16 (tn (s 53 (tn c)))) - (minF (s 31 (tn c)) (s 16 (tn (s 53 (tn c))))))))) (t := t) (g := G.2.2.1) hL 5 (by decide) (by decide) (tn (s 22 (tn c))) (hv_nm _ (by omega)) (((su (su s 28 (tn c) 1) 16 (tn (s 53 (tn c))) ((s 16 (tn (s 53 (tn c)))) - (minF (s 31 (tn c)) (s 16 (tn (s 53 (tn c))))))) 16 (tn (s 22 (tn c)))) + (minF (s 31 (tn c)) (s 16 (tn (s 53 (tn c))))))) rfl rfl (rg_len (by decide)) dX7_suit_110 rfl ?_
          refine xx_w (w' := wl a (E G.2.2.1 a (su (su (su s 28 (tn c) 1) 16 (tn (s 53 (tn c))) ((s 16 (tn (s 53 (tn c)))) - (minF (s 31 (tn c)) (s 16 (tn (s 53 (tn c))))))) 16 (tn (s 22 (tn c))) (((su (su s 28 (tn c) 1) 16 (tn (s 53 (tn c))) ((s 16 (tn (s 53 (tn c)))) - (minF (s 31 (tn c)) (s 16 (tn (s 53 (tn c))))))) 16 (tn (s 22 (tn c)))) + (minF (s 31 (tn c)) (s 16 (tn (s 53 (tn c))))))) t) L) rfl ?_
          refine v_iload C dX7_suit_113 rfl 0 rfl ?_
          exact v_iret C (by decide) (by decide) dX7_suit_115 ⟨congrArg (fun z => some (Value.int z)) (by first | rfl | (simp only [h2, h3, eq_true h6, h9, Int32.not_lt.mp h9, h13, h14, h15, suitEC, suitRC, suitUC, bI, pM, pU, n10, n20, n30, n0, if_true, if_false, ite_true, ite_false, not_true_eq_false, not_false_eq_true, and_true, true_and, and_false, false_and, or_true, true_or, or_false, false_or, reduceIte, and_self, or_self, ne_eq, eq_self_iff_true]; first | done | rfl) | (simp [bI, h2, h3, eq_true h6, h9, Int32.not_lt.mp h9, h13, h14, h15, suitEC, suitRC, suitUC]; done) | (simp only [suitEC, suitRC, suitUC, bI, ← Int32.not_le] at *; simp [h2, h3, eq_true h6, h9, Int32.not_lt.mp h9, h13, h14, h15]; done) | (simp_all [bI, h2, h3, eq_true h6, h9, Int32.not_lt.mp h9, h13, h14, h15, suitEC, suitRC, suitUC]; done) | (simp_all [bI, h2, h3, eq_true h6, h9, Int32.not_lt.mp h9, h13, h14, h15, suitEC, suitRC, suitUC]; rfl) | (exfalso; omega)), by first | rfl | (simp only [h2, h3, eq_true h6, h9, Int32.not_lt.mp h9, h13, h14, h15, suitEC, suitRC, suitUC, bI, pM, pU, n10, n20, n30, n0, if_true, if_false, ite_true, ite_false, not_true_eq_false, not_false_eq_true, and_true, true_and, and_false, false_and, or_true, true_or, or_false, false_or, reduceIte, and_self, or_self, ne_eq, eq_self_iff_true]; first | done | rfl) | (simp [bI, h2, h3, eq_true h6, h9, Int32.not_lt.mp h9, h13, h14, h15, suitEC, suitRC, suitUC]; done) | (simp only [suitEC, suitRC, suitUC, bI, ← Int32.not_le] at *; simp [h2, h3, eq_true h6, h9, Int32.not_lt.mp h9, h13, h14, h15]; done) | (simp_all [bI, h2, h3, eq_true h6, h9, Int32.not_lt.mp h9, h13, h14, h15, suitEC, suitRC, suitUC]; done) | (simp_all [bI, h2, h3, eq_true h6, h9, Int32.not_lt.mp h9, h13, h14, h15, suitEC, suitRC, suitUC]; rfl) | (exfalso; omega), by first | assumption | first | rfl | (simp only [h2, h3, eq_true h6, h9, Int32.not_lt.mp h9, h13, h14, h15, suitEC, suitRC, suitUC, bI, pM, pU, n10, n20, n30, n0, if_true, if_false, ite_true, ite_false, not_true_eq_false, not_false_eq_true, and_true, true_and, and_false, false_and, or_true, true_or, or_false, false_or, reduceIte, and_self, or_self, ne_eq, eq_self_iff_true]; first | done | rfl) | (simp [bI, h2, h3, eq_true h6, h9, Int32.not_lt.mp h9, h13, h14, h15, suitEC, suitRC, suitUC]; done) | (simp only [suitEC, suitRC, suitUC, bI, ← Int32.not_le] at *; simp [h2, h3, eq_true h6, h9, Int32.not_lt.mp h9, h13, h14, h15]; done) | (simp_all [bI, h2, h3, eq_true h6, h9, Int32.not_lt.mp h9, h13, h14, h15, suitEC, suitRC, suitUC]; done) | (simp_all [bI, h2, h3, eq_true h6, h9, Int32.not_lt.mp h9, h13, h14, h15, suitEC, suitRC, suitUC]; rfl) | (exfalso; omega)⟩
        · skip
          refine v_iconst C (v := (-1)) dX7_suit_55 rfl rfl ?_
          exact v_iret C (by decide) (by decide) dX7_suit_56 ⟨congrArg (fun z => some (Value.int z)) (by first | rfl | (simp only [h2, h3, eq_true h6, h9, Int32.not_lt.mp h9, eq_true h13, suitEC, suitRC, suitUC, bI, pM, pU, n10, n20, n30, n0, if_true, if_false, ite_true, ite_false, not_true_eq_false, not_false_eq_true, and_true, true_and, and_false, false_and, or_true, true_or, or_false, false_or, reduceIte, and_self, or_self, ne_eq, eq_self_iff_true]; first | done | rfl) | (simp [bI, h2, h3, eq_true h6, h9, Int32.not_lt.mp h9, eq_true h13, suitEC, suitRC, suitUC]; done) | (simp only [suitEC, suitRC, suitUC, bI, ← Int32.not_le] at *; simp [h2, h3, eq_true h6, h9, Int32.not_lt.mp h9, eq_true h13]; done) | (simp_all [bI, h2, h3, eq_true h6, h9, Int32.not_lt.mp h9, eq_true h13, suitEC, suitRC, suitUC]; done) | (simp_all [bI, h2, h3, eq_true h6, h9, Int32.not_lt.mp h9, eq_true h13, suitEC, suitRC, suitUC]; rfl) | (exfalso; omega)), by first | rfl | (simp only [h2, h3, eq_true h6, h9, Int32.not_lt.mp h9, eq_true h13, suitEC, suitRC, suitUC, bI, pM, pU, n10, n20, n30, n0, if_true, if_false, ite_true, ite_false, not_true_eq_false, not_false_eq_true, and_true, true_and, and_false, false_and, or_true, true_or, or_false, false_or, reduceIte, and_self, or_self, ne_eq, eq_self_iff_true]; first | done | rfl) | (simp [bI, h2, h3, eq_true h6, h9, Int32.not_lt.mp h9, eq_true h13, suitEC, suitRC, suitUC]; done) | (simp only [suitEC, suitRC, suitUC, bI, ← Int32.not_le] at *; simp [h2, h3, eq_true h6, h9, Int32.not_lt.mp h9, eq_true h13]; done) | (simp_all [bI, h2, h3, eq_true h6, h9, Int32.not_lt.mp h9, eq_true h13, suitEC, suitRC, suitUC]; done) | (simp_all [bI, h2, h3, eq_true h6, h9, Int32.not_lt.mp h9, eq_true h13, suitEC, suitRC, suitUC]; rfl) | (exfalso; omega), by first | assumption | first | rfl | (simp only [h2, h3, eq_true h6, h9, Int32.not_lt.mp h9, eq_true h13, suitEC, suitRC, suitUC, bI, pM, pU, n10, n20, n30, n0, if_true, if_false, ite_true, ite_false, not_true_eq_false, not_false_eq_true, and_true, true_and, and_false, false_and, or_true, true_or, or_false, false_or, reduceIte, and_self, or_self, ne_eq, eq_self_iff_true]; first | done | rfl) | (simp [bI, h2, h3, eq_true h6, h9, Int32.not_lt.mp h9, eq_true h13, suitEC, suitRC, suitUC]; done) | (simp only [suitEC, suitRC, suitUC, bI, ← Int32.not_le] at *; simp [h2, h3, eq_true h6, h9, Int32.not_lt.mp h9, eq_true h13]; done) | (simp_all [bI, h2, h3, eq_true h6, h9, Int32.not_lt.mp h9, eq_true h13, suitEC, suitRC, suitUC]; done) | (simp_all [bI, h2, h3, eq_true h6, h9, Int32.not_lt.mp h9, eq_true h13, suitEC, suitRC, suitUC]; rfl) | (exfalso; omega)⟩

abbrev r_X7_plan : Room := { frames := 7, cells := 3, slots := 18, locals := 103 }
set_option maxRecDepth 4000 in
theorem c_X7_plan {l : Launch} {G : GG} {a : AD} {s t s0 : SS} {L : List (Nat × Nat)} {nc : Nat} (hst : l.stackTraces = false) (hG : GOK G) (hL : Live L s0) (c : Int32) (m : Int32) (hlc : LsOK a s s0 1 nc) (hv_nc : ∀ i, i < nc → i < tn (s0 21 0)) (hcf : ∀ i, i < nc → vp_in (s 23 i) 40 ∧ vp_in (s 24 i) 11 ∧ tn (s 23 i) + tn (s 24 i) ≤ 40) : Mth l yX7_plan cX7_plan 5 (Option.some Jvm.ClassFile.FieldType.int) r_X7_plan G (wl a (E G.2.2.1 a s t) L) [.ref (a 2 0), .int c, .int m] (RI (.int (ydS s (tn (s 23 (tn c))) (tn m) (tn (s 24 (tn c))))) (wl a (E G.2.2.1 a s t) L) (planEC s c m = 0)) (XW (fun E => pE L3 (planEC s c m) E) (wl a (E G.2.2.1 a s t) L)) := by
  refine mth_of rfl (Nat.le_of_ble_eq_true rfl) hst hG (fun X hX C0 => ?_)
  subst hX
  have C : Cx X G cX7_plan 5 RX7 (Option.some Jvm.ClassFile.FieldType.int) r_X7_plan "plan" [] := C0
  clear C0
  show V X G 5 _ 0 0 _ 0 [(0, .ref (a 2 0)), (1, .int (c)), (2, .int (m))] []
  have hc30 := hlc.2.1
  refine v_aload_n C dX7_plan_0 rfl 0 rfl ?_
  refine v_iload_n C dX7_plan_1 rfl 1 rfl ?_
  refine w_invVr C [.int (c)] 1 6 L_X7_157 (c_X7_claimAt (s := s) (t := t) (nc := nc) hst hG hL c hlc hv_nc) (m2 (s := s) (t := t) (g := G.2.2.1) hL) rfl rfl rfl rfl dX7_plan_2 rfl (kx_out C (by decide) (fun E w1 hE => by obtain ⟨⟨rfl, h1⟩, rfl⟩ := hE; exact ⟨⟨1, List.Mem.head _, by first | rfl | (simp only [h1, planEC, bI, pM, pU, n10, n20, n30, n0, if_true, if_false, ite_true, ite_false, not_true_eq_false, not_false_eq_true, and_true, true_and, and_false, false_and, or_true, true_or, or_false, false_or, reduceIte, and_self, or_self, ne_eq, eq_self_iff_true]; first | done | rfl) | (simp [bI, h1, planEC]; done) | (simp only [planEC, bI, ← Int32.not_le] at *; simp [h1]; done) | (simp_all [bI, h1, planEC]; done) | (simp_all [bI, h1, planEC]; rfl) | (exfalso; omega)⟩, rfl⟩)) (fun h2 => ?_)
  have lh2 : tn c < nc := in_lt (vp_cnt h2 hlc.p1 (Nat.le_refl _) (by omega))
  refine v_astore_n C (lv1 := [(3, .ref (a 12 (tn c))), (0, .ref (a 2 0)), (1, .int (c)), (2, .int (m))]) dX7_plan_5 rfl (by decide) rfl ?_
  refine v_iload_n C dX7_plan_6 rfl 3 rfl ?_
  refine w_invSr C [.int (m)] 2 12 L_X7_131 (c_X7_gearAt (s := s) (t := t)  hst hG hL m) rfl rfl rfl dX7_plan_7 rfl (kx_out C (by decide) (fun E w1 hE => by obtain ⟨⟨rfl, h3⟩, rfl⟩ := hE; exact ⟨⟨2, List.Mem.tail _ (List.Mem.head _), by first | rfl | (simp only [h2, h3, planEC, bI, pM, pU, n10, n20, n30, n0, if_true, if_false, ite_true, ite_false, not_true_eq_false, not_false_eq_true, and_true, true_and, and_false, false_and, or_true, true_or, or_false, false_or, reduceIte, and_self, or_self, ne_eq, eq_self_iff_true]; first | done | rfl) | (simp [bI, h2, h3, planEC]; done) | (simp only [planEC, bI, ← Int32.not_le] at *; simp [h2, h3]; done) | (simp_all [bI, h2, h3, planEC]; done) | (simp_all [bI, h2, h3, planEC]; rfl) | (exfalso; omega)⟩, rfl⟩)) (fun h4 => ?_)
  have lh4 : tn m < 4 := in_lt (vp_rng (n := 3) (N := 4) rfl (by decide) h4)
  refine v_astore C (lv1 := [(4, .ref (G.2.2.1 (20 + tn m))), (3, .ref (a 12 (tn c))), (0, .ref (a 2 0)), (1, .int (c)), (2, .int (m))]) dX7_plan_10 rfl (by decide) rfl ?_
  refine v_aload_n C dX7_plan_12 rfl 1 rfl ?_
  refine v_get C (v := .int (s 24 (tn c))) g_X7_232 (m12 (s := s) (t := t) (g := G.2.2.1) hL (tn c) (hv_nc _ (by omega))) (rg (by decide) rfl) dX7_plan_13 rfl ?_
  refine v_iconst C (v := 5) dX7_plan_16 rfl rfl ?_
  refine v_icmp_gt C (t := 24) dX7_plan_17 rfl rfl (fun h5 => ?_) (fun h5 => ?_)
  · skip
    refine v_iconst C (v := 0) dX7_plan_24 rfl rfl ?_
    refine w_invSv C [.int (0)] 3 18 L_X7_75 (c_X7_checkState (s := s) (t := t)  hst hG hL 0) rfl rfl rfl dX7_plan_25 rfl (kx_out C (by decide) (fun E w1 hE => by obtain ⟨⟨rfl, h6⟩, rfl⟩ := hE; exact ⟨⟨3, List.Mem.tail _ (List.Mem.tail _ (List.Mem.head _)), by first | rfl | (simp only [h2, h4, h5, Int32.not_le.mpr h5, h6, planEC, bI, pM, pU, n10, n20, n30, n0, if_true, if_false, ite_true, ite_false, not_true_eq_false, not_false_eq_true, and_true, true_and, and_false, false_and, or_true, true_or, or_false, false_or, reduceIte, and_self, or_self, ne_eq, eq_self_iff_true]; first | done | rfl) | (simp [bI, h2, h4, h5, Int32.not_le.mpr h5, h6, planEC]; done) | (simp only [planEC, bI, ← Int32.not_le] at *; simp [h2, h4, h5, Int32.not_le.mpr h5, h6]; done) | (simp_all [bI, h2, h4, h5, Int32.not_le.mpr h5, h6, planEC]; done) | (simp_all [bI, h2, h4, h5, Int32.not_le.mpr h5, h6, planEC]; rfl) | (exfalso; omega)⟩, rfl⟩)) (fun h7 => ?_)
    exact absurd rfl h7
  · skip
    refine v_iconst C (v := 1) dX7_plan_20 rfl rfl ?_
    refine v_goto C (q := 25) dX7_plan_21 rfl ?_
    refine w_invSv C [.int (1)] 3 18 L_X7_75 (c_X7_checkState (s := s) (t := t)  hst hG hL 1) rfl rfl rfl dX7_plan_25 rfl (fun E w1 hE => absurd hE.1.2 (by decide)) (fun h8 => ?_)
    refine v_aload_n C dX7_plan_28 rfl 2 rfl ?_
    refine v_get C (v := .ref (a 3 0)) g_X7_10 (m2 (s := s) (t := t) (g := G.2.2.1) hL) (rg (by decide) rfl) dX7_plan_29 rfl ?_
    refine v_aload_n C dX7_plan_32 rfl 1 rfl ?_
    refine v_get C (v := .int (s 23 (tn c))) g_X7_229 (m12 (s := s) (t := t) (g := G.2.2.1) hL (tn c) (hv_nc _ (by omega))) (rg (by decide) rfl) dX7_plan_33 rfl ?_
    refine v_aload_n C dX7_plan_36 rfl 1 rfl ?_
    refine v_get C (v := .int (s 24 (tn c))) g_X7_232 (m12 (s := s) (t := t) (g := G.2.2.1) hL (tn c) (hv_nc _ (by omega))) (rg (by decide) rfl) dX7_plan_37 rfl ?_
    refine v_aload C dX7_plan_40 rfl 0 rfl ?_
    refine w_invVr C [.int (s 23 (tn c)), .int (s 24 (tn c)), .ref (G.2.2.1 (20 + tn m))] 3 18 L_X7_288 (c_X1_yieldDownwards (s := s) (t := t)  hst hG hL (s 23 (tn c)) _ (in_nI (N := 40) (hcf _ (by omega)).1 (by omega)) (in_lt (N := 40) (hcf _ (by omega)).1) (s 24 (tn c)) _ (in_nI (N := 11) (hcf _ (by omega)).2.1 (by omega)) (in_lt (N := 11) (hcf _ (by omega)).2.1) (tn m) (by omega)) (m3 (s := s) (t := t) (g := G.2.2.1) hL) rfl rfl rfl rfl dX7_plan_42 rfl kx_no (fun h9 => ?_)
    exact v_iret C (by decide) (by decide) dX7_plan_45 ⟨congrArg (fun z => some (Value.int z)) (by first | rfl | (simp only [h2, h4, h5, Int32.not_lt.mp h5, planEC, bI, pM, pU, n10, n20, n30, n0, if_true, if_false, ite_true, ite_false, not_true_eq_false, not_false_eq_true, and_true, true_and, and_false, false_and, or_true, true_or, or_false, false_or, reduceIte, and_self, or_self, ne_eq, eq_self_iff_true]; first | done | rfl) | (simp [bI, h2, h4, h5, Int32.not_lt.mp h5, planEC]; done) | (simp only [planEC, bI, ← Int32.not_le] at *; simp [h2, h4, h5, Int32.not_lt.mp h5]; done) | (simp_all [bI, h2, h4, h5, Int32.not_lt.mp h5, planEC]; done) | (simp_all [bI, h2, h4, h5, Int32.not_lt.mp h5, planEC]; rfl) | (exfalso; omega)), by rfl, by first | assumption | first | rfl | (simp only [h2, h4, h5, Int32.not_lt.mp h5, planEC, bI, pM, pU, n10, n20, n30, n0, if_true, if_false, ite_true, ite_false, not_true_eq_false, not_false_eq_true, and_true, true_and, and_false, false_and, or_true, true_or, or_false, false_or, reduceIte, and_self, or_self, ne_eq, eq_self_iff_true]; first | done | rfl) | (simp [bI, h2, h4, h5, Int32.not_lt.mp h5, planEC]; done) | (simp only [planEC, bI, ← Int32.not_le] at *; simp [h2, h4, h5, Int32.not_lt.mp h5]; done) | (simp_all [bI, h2, h4, h5, Int32.not_lt.mp h5, planEC]; done) | (simp_all [bI, h2, h4, h5, Int32.not_lt.mp h5, planEC]; rfl) | (exfalso; omega)⟩

abbrev r_X7_planCell : Room := { frames := 8, cells := 4, slots := 24, locals := 124 }
set_option maxRecDepth 4000 in
theorem c_X7_planCell {l : Launch} {G : GG} {a : AD} {s t s0 : SS} {L : List (Nat × Nat)} {nc : Nat} (hst : l.stackTraces = false) (hG : GOK G) (hL : Live L s0) (c : Int32) (m : Int32) (p : Int32) (hlc : LsOK a s s0 1 nc) (hv_nc : ∀ i, i < nc → i < tn (s0 21 0)) (hcf : ∀ i, i < nc → vp_in (s 23 i) 40 ∧ vp_in (s 24 i) 11 ∧ tn (s 23 i) + tn (s 24 i) ≤ 40) : Mth l yX7_planCell cX7_planCell 5 (Option.some Jvm.ClassFile.FieldType.int) r_X7_planCell G (wl a (E G.2.2.1 a s t) L) [.ref (a 2 0), .int c, .int m, .int p] (RI (.int (planCellRC s c p)) (wl a (E G.2.2.1 a s t) L) (planCellEC s c m p = 0)) (XW (fun E => pE L3 (planCellEC s c m p) E) (wl a (E G.2.2.1 a s t) L)) := by
  refine mth_of rfl (Nat.le_of_ble_eq_true rfl) hst hG (fun X hX C0 => ?_)
  subst hX
  have C : Cx X G cX7_planCell 5 RX7 (Option.some Jvm.ClassFile.FieldType.int) r_X7_planCell "planCell" [] := C0
  clear C0
  show V X G 5 _ 0 0 _ 0 [(0, .ref (a 2 0)), (1, .int (c)), (2, .int (m)), (3, .int (p))] []
  have hc30 := hlc.2.1
  refine v_aload_n C dX7_planCell_0 rfl 0 rfl ?_
  refine v_iload_n C dX7_planCell_1 rfl 1 rfl ?_
  refine w_invVr C [.int (c)] 1 6 L_X7_157 (c_X7_claimAt (s := s) (t := t) (nc := nc) hst hG hL c hlc hv_nc) (m2 (s := s) (t := t) (g := G.2.2.1) hL) rfl rfl rfl rfl dX7_planCell_2 rfl (kx_out C (by decide) (fun E w1 hE => by obtain ⟨⟨rfl, h1⟩, rfl⟩ := hE; exact ⟨⟨1, List.Mem.head _, by first | rfl | (simp only [h1, planCellEC, planCellRC, bI, pM, pU, n10, n20, n30, n0, if_true, if_false, ite_true, ite_false, not_true_eq_false, not_false_eq_true, and_true, true_and, and_false, false_and, or_true, true_or, or_false, false_or, reduceIte, and_self, or_self, ne_eq, eq_self_iff_true]; first | done | rfl) | (simp [bI, h1, planCellEC, planCellRC]; done) | (simp only [planCellEC, planCellRC, bI, ← Int32.not_le] at *; simp [h1]; done) | (simp_all [bI, h1, planCellEC, planCellRC]; done) | (simp_all [bI, h1, planCellEC, planCellRC]; rfl) | (exfalso; omega)⟩, rfl⟩)) (fun h2 => ?_)
  have lh2 : tn c < nc := in_lt (vp_cnt h2 hlc.p1 (Nat.le_refl _) (by omega))
  refine v_astore C (lv1 := [(4, .ref (a 12 (tn c))), (0, .ref (a 2 0)), (1, .int (c)), (2, .int (m)), (3, .int (p))]) dX7_planCell_5 rfl (by decide) rfl ?_
  refine v_iload_n C dX7_planCell_7 rfl 4 rfl ?_
  refine v_if_lt C (t := 15) dX7_planCell_8 rfl rfl (fun h3 => ?_) (fun h3 => ?_)
  · skip
    refine v_iconst C (v := 0) dX7_planCell_15 rfl rfl ?_
    refine w_invSv C [.int (0)] 2 12 L_X7_112 (c_X7_checkIndex (s := s) (t := t)  hst hG hL 0) rfl rfl rfl dX7_planCell_16 rfl (kx_out C (by decide) (fun E w1 hE => by obtain ⟨⟨rfl, h4⟩, rfl⟩ := hE; exact ⟨⟨1, List.Mem.head _, by first | rfl | (simp only [h2, h3, Int32.not_le.mpr h3, h4, planCellEC, planCellRC, bI, pM, pU, n10, n20, n30, n0, if_true, if_false, ite_true, ite_false, not_true_eq_false, not_false_eq_true, and_true, true_and, and_false, false_and, or_true, true_or, or_false, false_or, reduceIte, and_self, or_self, ne_eq, eq_self_iff_true]; first | done | rfl) | (simp [bI, h2, h3, Int32.not_le.mpr h3, h4, planCellEC, planCellRC]; done) | (simp only [planCellEC, planCellRC, bI, ← Int32.not_le] at *; simp [h2, h3, Int32.not_le.mpr h3, h4]; done) | (simp_all [bI, h2, h3, Int32.not_le.mpr h3, h4, planCellEC, planCellRC]; done) | (simp_all [bI, h2, h3, Int32.not_le.mpr h3, h4, planCellEC, planCellRC]; rfl) | (exfalso; omega)⟩, rfl⟩)) (fun h5 => ?_)
    exact absurd rfl h5
  · skip
    refine v_iconst C (v := 1) dX7_planCell_11 rfl rfl ?_
    refine v_goto C (q := 16) dX7_planCell_12 rfl ?_
    refine w_invSv C [.int (1)] 2 12 L_X7_112 (c_X7_checkIndex (s := s) (t := t)  hst hG hL 1) rfl rfl rfl dX7_planCell_16 rfl (fun E w1 hE => absurd hE.1.2 (by decide)) (fun h6 => ?_)
    refine v_iload_n C dX7_planCell_19 rfl 3 rfl ?_
    refine v_iconst C (v := 0) dX7_planCell_20 rfl rfl ?_
    refine v_iconst C (v := 3) dX7_planCell_21 rfl rfl ?_
    refine w_invSv C [.int (m), .int (0), .int (3)] 3 18 L_X7_67 (c_X7_checkRange (s := s) (t := t)  hst hG hL m 0 3) rfl rfl rfl dX7_planCell_22 rfl (kx_out C (by decide) (fun E w1 hE => by obtain ⟨⟨rfl, h7⟩, rfl⟩ := hE; exact ⟨⟨2, List.Mem.tail _ (List.Mem.head _), by first | rfl | (simp only [h2, h3, Int32.not_lt.mp h3, h7, planCellEC, planCellRC, bI, pM, pU, n10, n20, n30, n0, if_true, if_false, ite_true, ite_false, not_true_eq_false, not_false_eq_true, and_true, true_and, and_false, false_and, or_true, true_or, or_false, false_or, reduceIte, and_self, or_self, ne_eq, eq_self_iff_true]; first | done | rfl) | (simp [bI, h2, h3, Int32.not_lt.mp h3, h7, planCellEC, planCellRC]; done) | (simp only [planCellEC, planCellRC, bI, ← Int32.not_le] at *; simp [h2, h3, Int32.not_lt.mp h3, h7]; done) | (simp_all [bI, h2, h3, Int32.not_lt.mp h3, h7, planCellEC, planCellRC]; done) | (simp_all [bI, h2, h3, Int32.not_lt.mp h3, h7, planCellEC, planCellRC]; rfl) | (exfalso; omega)⟩, rfl⟩)) (fun h8 => ?_)
    refine v_aload C dX7_planCell_25 rfl 0 rfl ?_
    refine v_get C (v := .int (s 24 (tn c))) g_X7_232 (m12 (s := s) (t := t) (g := G.2.2.1) hL (tn c) (hv_nc _ (by omega))) (rg (by decide) rfl) dX7_planCell_27 rfl ?_
    refine v_iconst C (v := 5) dX7_planCell_30 rfl rfl ?_
    refine v_icmp_gt C (t := 38) dX7_planCell_31 rfl rfl (fun h9 => ?_) (fun h9 => ?_)
    · skip
      refine v_iconst C (v := 0) dX7_planCell_38 rfl rfl ?_
      refine w_invSv C [.int (0)] 4 24 L_X7_75 (c_X7_checkState (s := s) (t := t)  hst hG hL 0) rfl rfl rfl dX7_planCell_39 rfl (kx_out C (by decide) (fun E w1 hE => by obtain ⟨⟨rfl, h10⟩, rfl⟩ := hE; exact ⟨⟨3, List.Mem.tail _ (List.Mem.tail _ (List.Mem.head _)), by first | rfl | (simp only [h2, h3, Int32.not_lt.mp h3, h8, h9, Int32.not_le.mpr h9, h10, planCellEC, planCellRC, bI, pM, pU, n10, n20, n30, n0, if_true, if_false, ite_true, ite_false, not_true_eq_false, not_false_eq_true, and_true, true_and, and_false, false_and, or_true, true_or, or_false, false_or, reduceIte, and_self, or_self, ne_eq, eq_self_iff_true]; first | done | rfl) | (simp [bI, h2, h3, Int32.not_lt.mp h3, h8, h9, Int32.not_le.mpr h9, h10, planCellEC, planCellRC]; done) | (simp only [planCellEC, planCellRC, bI, ← Int32.not_le] at *; simp [h2, h3, Int32.not_lt.mp h3, h8, h9, Int32.not_le.mpr h9, h10]; done) | (simp_all [bI, h2, h3, Int32.not_lt.mp h3, h8, h9, Int32.not_le.mpr h9, h10, planCellEC, planCellRC]; done) | (simp_all [bI, h2, h3, Int32.not_lt.mp h3, h8, h9, Int32.not_le.mpr h9, h10, planCellEC, planCellRC]; rfl) | (exfalso; omega)⟩, rfl⟩)) (fun h11 => ?_)
      exact absurd rfl h11
    · skip
      refine v_iconst C (v := 1) dX7_planCell_34 rfl rfl ?_
      refine v_goto C (q := 39) dX7_planCell_35 rfl ?_
      refine w_invSv C [.int (1)] 4 24 L_X7_75 (c_X7_checkState (s := s) (t := t)  hst hG hL 1) rfl rfl rfl dX7_planCell_39 rfl (fun E w1 hE => absurd hE.1.2 (by decide)) (fun h12 => ?_)
      refine v_iload_n C dX7_planCell_42 rfl 4 rfl ?_
      refine v_aload C dX7_planCell_43 rfl 0 rfl ?_
      refine v_get C (v := .int (s 24 (tn c))) g_X7_232 (m12 (s := s) (t := t) (g := G.2.2.1) hL (tn c) (hv_nc _ (by omega))) (rg (by decide) rfl) dX7_planCell_45 rfl ?_
      refine v_icmp_ge C (t := 61) dX7_planCell_48 rfl rfl (fun h13 => ?_) (fun h13 => ?_)
      · skip
        refine v_iconst C (v := (-1)) dX7_planCell_61 rfl rfl ?_
        exact v_iret C (by decide) (by decide) dX7_planCell_62 ⟨congrArg (fun z => some (Value.int z)) (by first | rfl | (simp only [h2, h3, Int32.not_lt.mp h3, h8, h9, Int32.not_lt.mp h9, h13, Int32.not_lt.mpr h13, planCellEC, planCellRC, bI, pM, pU, n10, n20, n30, n0, if_true, if_false, ite_true, ite_false, not_true_eq_false, not_false_eq_true, and_true, true_and, and_false, false_and, or_true, true_or, or_false, false_or, reduceIte, and_self, or_self, ne_eq, eq_self_iff_true]; first | done | rfl) | (simp [bI, h2, h3, Int32.not_lt.mp h3, h8, h9, Int32.not_lt.mp h9, h13, Int32.not_lt.mpr h13, planCellEC, planCellRC]; done) | (simp only [planCellEC, planCellRC, bI, ← Int32.not_le] at *; simp [h2, h3, Int32.not_lt.mp h3, h8, h9, Int32.not_lt.mp h9, h13, Int32.not_lt.mpr h13]; done) | (simp_all [bI, h2, h3, Int32.not_lt.mp h3, h8, h9, Int32.not_lt.mp h9, h13, Int32.not_lt.mpr h13, planCellEC, planCellRC]; done) | (simp_all [bI, h2, h3, Int32.not_lt.mp h3, h8, h9, Int32.not_lt.mp h9, h13, Int32.not_lt.mpr h13, planCellEC, planCellRC]; rfl) | (exfalso; omega)), by rfl, by first | assumption | first | rfl | (simp only [h2, h3, Int32.not_lt.mp h3, h8, h9, Int32.not_lt.mp h9, h13, Int32.not_lt.mpr h13, planCellEC, planCellRC, bI, pM, pU, n10, n20, n30, n0, if_true, if_false, ite_true, ite_false, not_true_eq_false, not_false_eq_true, and_true, true_and, and_false, false_and, or_true, true_or, or_false, false_or, reduceIte, and_self, or_self, ne_eq, eq_self_iff_true]; first | done | rfl) | (simp [bI, h2, h3, Int32.not_lt.mp h3, h8, h9, Int32.not_lt.mp h9, h13, Int32.not_lt.mpr h13, planCellEC, planCellRC]; done) | (simp only [planCellEC, planCellRC, bI, ← Int32.not_le] at *; simp [h2, h3, Int32.not_lt.mp h3, h8, h9, Int32.not_lt.mp h9, h13, Int32.not_lt.mpr h13]; done) | (simp_all [bI, h2, h3, Int32.not_lt.mp h3, h8, h9, Int32.not_lt.mp h9, h13, Int32.not_lt.mpr h13, planCellEC, planCellRC]; done) | (simp_all [bI, h2, h3, Int32.not_lt.mp h3, h8, h9, Int32.not_lt.mp h9, h13, Int32.not_lt.mpr h13, planCellEC, planCellRC]; rfl) | (exfalso; omega)⟩
      · skip
        refine v_aload C dX7_planCell_51 rfl 0 rfl ?_
        refine v_get C (v := .int (s 23 (tn c))) g_X7_229 (m12 (s := s) (t := t) (g := G.2.2.1) hL (tn c) (hv_nc _ (by omega))) (rg (by decide) rfl) dX7_planCell_53 rfl ?_
        refine v_iload_n C dX7_planCell_56 rfl 4 rfl ?_
        refine v_iadd C dX7_planCell_57 rfl ?_
        refine v_goto C (q := 62) dX7_planCell_58 rfl ?_
        exact v_iret C (by decide) (by decide) dX7_planCell_62 ⟨congrArg (fun z => some (Value.int z)) (by first | rfl | (simp only [h2, h3, Int32.not_lt.mp h3, h8, h9, Int32.not_lt.mp h9, h13, Int32.not_le.mp h13, planCellEC, planCellRC, bI, pM, pU, n10, n20, n30, n0, if_true, if_false, ite_true, ite_false, not_true_eq_false, not_false_eq_true, and_true, true_and, and_false, false_and, or_true, true_or, or_false, false_or, reduceIte, and_self, or_self, ne_eq, eq_self_iff_true]; first | done | rfl) | (simp [bI, h2, h3, Int32.not_lt.mp h3, h8, h9, Int32.not_lt.mp h9, h13, Int32.not_le.mp h13, planCellEC, planCellRC]; done) | (simp only [planCellEC, planCellRC, bI, ← Int32.not_le] at *; simp [h2, h3, Int32.not_lt.mp h3, h8, h9, Int32.not_lt.mp h9, h13, Int32.not_le.mp h13]; done) | (simp_all [bI, h2, h3, Int32.not_lt.mp h3, h8, h9, Int32.not_lt.mp h9, h13, Int32.not_le.mp h13, planCellEC, planCellRC]; done) | (simp_all [bI, h2, h3, Int32.not_lt.mp h3, h8, h9, Int32.not_lt.mp h9, h13, Int32.not_le.mp h13, planCellEC, planCellRC]; rfl) | (exfalso; omega)), by rfl, by first | assumption | first | rfl | (simp only [h2, h3, Int32.not_lt.mp h3, h8, h9, Int32.not_lt.mp h9, h13, Int32.not_le.mp h13, planCellEC, planCellRC, bI, pM, pU, n10, n20, n30, n0, if_true, if_false, ite_true, ite_false, not_true_eq_false, not_false_eq_true, and_true, true_and, and_false, false_and, or_true, true_or, or_false, false_or, reduceIte, and_self, or_self, ne_eq, eq_self_iff_true]; first | done | rfl) | (simp [bI, h2, h3, Int32.not_lt.mp h3, h8, h9, Int32.not_lt.mp h9, h13, Int32.not_le.mp h13, planCellEC, planCellRC]; done) | (simp only [planCellEC, planCellRC, bI, ← Int32.not_le] at *; simp [h2, h3, Int32.not_lt.mp h3, h8, h9, Int32.not_lt.mp h9, h13, Int32.not_le.mp h13]; done) | (simp_all [bI, h2, h3, Int32.not_lt.mp h3, h8, h9, Int32.not_lt.mp h9, h13, Int32.not_le.mp h13, planCellEC, planCellRC]; done) | (simp_all [bI, h2, h3, Int32.not_lt.mp h3, h8, h9, Int32.not_lt.mp h9, h13, Int32.not_le.mp h13, planCellEC, planCellRC]; rfl) | (exfalso; omega)⟩

