theorem vp_rng1 {x M : Int32} {n N : Nat} (hM : M.toInt = n) (hN : n < N) (h : (1 : Int32) ≤ x ∧ x ≤ M) : vp_in x N := by
  have h0 : (1 : Int32).toInt = 1 := by decide
  have h1 := Int32.le_iff_toInt_le.mp h.1
  have h2 := Int32.le_iff_toInt_le.mp h.2
  rw [vp_in_iff]
  omega
theorem ix40 {c : Int32} (h : (0 : Int32) ≤ c ∧ c ≤ 39) (h9 : ¬ c = 39) : vp_in (c + 1) 40 ∧ (c + 1).toNatClampNeg = tn c + 1 := by
  obtain ⟨j, hj, rfl⟩ := vp_in_of (vp_rng (n := 39) rfl (by decide : 39 < 40) h) (by omega)
  have : ¬ j = 39 := fun e => h9 (by rw [e]; rfl)
  rw [show tn (nI j) = j from nI_clamp (by omega), nI_1]
  exact ⟨vp_in_nI (by omega) (by omega), nI_clamp (by omega)⟩
theorem shaF_o {z : SS} {j : Nat} {m : Int32} {n k : Nat} (h : k ≠ 13) : shaF z j m n k = z k := by
  unfold shaF
  rw [su_o h, shW_o h]
def digF (z : SS) (c m : Int32) : SS := if c = 39 then su (su z 9 (tn c) (z 9 (tn c) - takF m (z 9 (tn c)))) 6 0 (z 6 0 + (takF m (z 9 (tn c)) - recF m (z 9 (tn c)) (z 10 (tn c)))) else su (su z 9 (tn c) (z 9 (tn c) - takF m (z 9 (tn c)))) 9 (tn c + 1) (su z 9 (tn c) (z 9 (tn c) - takF m (z 9 (tn c))) 9 (tn c + 1) + (takF m (z 9 (tn c)) - recF m (z 9 (tn c)) (z 10 (tn c))))
def wkE (z : SS) (h d : Int32) : SS := if h = -1 then z else su z 26 (tn h) d
def arS (z : SS) : Nat → SS × Nat
  | 0 => (z, 0)
  | k + 1 => if (arS z k).1 38 k = z 0 0 then (su (arS z k).1 5 0 ((arS z k).1 5 0 + (arS z k).1 37 k), (arS z k).2) else (su (su (arS z k).1 37 (arS z k).2 ((arS z k).1 37 k)) 38 (arS z k).2 ((arS z k).1 38 k), (arS z k).2 + 1)
theorem arS_le {z : SS} : ∀ n, (arS z n).2 ≤ n
  | 0 => Nat.le_refl _
  | n + 1 => by
    have := arS_le (z := z) n
    unfold arS
    split
    · show (arS z n).2 ≤ n + 1
      omega
    · show (arS z n).2 + 1 ≤ n + 1
      omega
theorem arS_o {z : SS} {k : Nat} (h5 : k ≠ 5) (h37 : k ≠ 37) (h38 : k ≠ 38) : ∀ n, (arS z n).1 k = z k
  | 0 => rfl
  | n + 1 => by
    unfold arS
    split
    · show su _ 5 0 _ k = _
      rw [su_o h5, arS_o h5 h37 h38 n]
    · show su (su _ 37 _ _) 38 _ _ k = _
      rw [su_o h38, su_o h37, arS_o h5 h37 h38 n]
def arF (z : SS) (n : Nat) : SS := su (arS z n).1 36 0 (nI (arS z n).2)
theorem arF_o {z : SS} {n k : Nat} (h5 : k ≠ 5) (h36 : k ≠ 36) (h37 : k ≠ 37) (h38 : k ≠ 38) : arF z n k = z k := by
  unfold arF
  rw [su_o h36, arS_o h5 h37 h38]
def pegE (z : SS) (nc : Nat) (x : Int32) (c : Int32) (m : Int32) : Int32 := if ¬ (((0 : Int32) ≤ x ∧ x ≤ z 12 0 - 1) ∧ ((0 : Int32) ≤ c ∧ c ≤ 39) ∧ m ≤ 40 - c) then 1 else if ¬ (1 ≤ m ∧ m ≤ 10) then 2 else if z 17 (tn x) = 0 ∨ z 2 0 < m ∨ freeM z (tn c) nc (tn m) = 0 ∨ nc = 30 then 3 else 0
def pegR (z : SS) (nc : Nat) (x : Int32) (c : Int32) (m : Int32) : Int32 := nI nc
def pegU (z : SS) (nc : Nat) (x : Int32) (c : Int32) (m : Int32) : SS := su (su (su (su (su (su (su (su z 22 nc x) 23 nc c) 24 nc m) 25 nc 1) 26 nc (z 0 0)) 27 nc (z 3 0)) 32 nc (-1)) 21 0 (nI (nc + 1))
def workE (z : SS) (nm : Nat) (nc : Nat) (nr : Nat) (x : Int32) (c : Int32) (m : Int32) : Int32 := if ¬ (((0 : Int32) ≤ x ∧ x ≤ z 12 0 - 1) ∧ ((0 : Int32) ≤ c ∧ c ≤ 39)) then 1 else if ¬ ((0 : Int32) ≤ m ∧ m ≤ 3) then 2 else if z 17 (tn x) = 0 ∨ z 19 (tn x) = z 0 0 ∨ mayF z nc x c m = 0 ∨ inW z x nr < needF m then 3 else 0
def workR (z : SS) (nm : Nat) (nc : Nat) (nr : Nat) (x : Int32) (c : Int32) (m : Int32) : Int32 := recF m (z 9 (tn c)) (z 10 (tn c))
def workU (z : SS) (nm : Nat) (nc : Nat) (nr : Nat) (x : Int32) (c : Int32) (m : Int32) : SS := wkE (su (su (shaF (digF z c m) (tn x) (recF m (z 9 (tn c)) (z 10 (tn c))) nm) 19 (tn x) (z 0 0)) 8 0 1) (heldM z c nc) (z 0 0)
def ofMinerE (z : SS) (nm : Nat) (nr : Nat) (x : Int32) (w_ : Int32) : Int32 := if ¬ ((0 : Int32) ≤ x ∧ x ≤ z 12 0 - 1) then 1 else if (0 ≤ w_ ∧ w_ ≤ 7) then 0 else 2
def ofMinerR (z : SS) (nm : Nat) (nr : Nat) (x : Int32) (w_ : Int32) : Int32 := if w_ = 0 then z 13 (tn x) else if w_ = 1 then z 14 (tn x) else if w_ = 2 then z 15 (tn x) else if w_ = 3 then z 16 (tn x) else if w_ = 4 then z 17 (tn x) else if w_ = 5 then inW z x nr else if w_ = 6 then z 18 (tn x) else sumN (fun b => z 20 (12 * tn x + b)) nm

abbrev r_X8_peg : Room := { frames := 3, cells := 0, slots := 0, locals := 69 }
set_option maxRecDepth 4000 in
theorem c_X8_peg {l : Launch} {G : GG} {a : AD} {s t s0 : SS} {L : List (Nat × Nat)} {nm : Nat} {nc : Nat} (hst : l.stackTraces = false) (hG : GOK G) (hL : Live L s0) (x : Int32) (c : Int32) (m : Int32) (hm : t 12 0 = nI nm) (hm12 : nm ≤ 12) (hc : t 21 0 = nI nc) (hc30 : nc ≤ 30) : Mth l yX8_peg cX8_peg 6 (Option.some Jvm.ClassFile.FieldType.int) r_X8_peg G (wl a (E G.2.2.1 a s t) L) [.ref (a 0 0), .int x, .int c, .int m] (RI (.int (pM (pegE t nc x c m) (pegR t nc x c m))) (wl a (E G.2.2.1 a s (pU (pegE t nc x c m) (pegU (su t 45 0 0) nc x c m) t)) L) (True)) nX := by
  refine mth_of rfl (Nat.le_of_ble_eq_true rfl) hst hG (fun X hX C0 => ?_)
  subst hX
  have C : Cx X G cX8_peg 6 RX8 (Option.some Jvm.ClassFile.FieldType.int) r_X8_peg "peg" [] := C0
  clear C0
  show V X G 6 _ 0 0 _ 0 [(0, .ref (a 0 0)), (1, .int (x)), (2, .int (c)), (3, .int (m))] []
  refine v_aload_n C dX8_peg_0 rfl 0 rfl ?_
  refine v_iload_n C dX8_peg_1 rfl 1 rfl ?_
  refine w_invVr C [.int (x)] 0 0 L_X8_176 (c_X8_isMiner (s := s) (t := t)  hst hG hL x) (m0 (s := s) (t := t) (g := G.2.2.1) hL) rfl rfl rfl rfl dX8_peg_2 rfl kx_no (fun h1 => ?_)
  refine v_ifB_eq C (t := 27) dX8_peg_5 rfl rfl (fun h2 => ?_) (fun h2 => ?_)
  · skip
    refine v_iconst C (v := 0) dX8_peg_27 rfl rfl ?_
    refine v_istore C (lv1 := [(4, .int (0)), (0, .ref (a 0 0)), (1, .int (x)), (2, .int (c)), (3, .int (m))]) dX8_peg_28 rfl (by decide) rfl ?_
    refine v_iload C dX8_peg_30 rfl 0 rfl ?_
    refine v_if_eq C (t := 49) dX8_peg_32 rfl rfl (fun _ => ?_) (fun h => absurd h (by decide))
    refine v_iconst C (v := 0) dX8_peg_49 rfl rfl ?_
    refine v_istore C (lv1 := [(5, .int (0)), (4, .int (0)), (0, .ref (a 0 0)), (1, .int (x)), (2, .int (c)), (3, .int (m))]) dX8_peg_50 rfl (by decide) rfl ?_
    refine v_aload_n C dX8_peg_52 rfl 2 rfl ?_
    refine v_iload C dX8_peg_53 rfl 1 rfl ?_
    refine v_if_ne C (t := 62) dX8_peg_55 rfl rfl (fun h => absurd h (by decide)) (fun _ => ?_)
    refine v_iconst C (v := 1) dX8_peg_58 rfl rfl ?_
    refine v_goto C (q := 110) dX8_peg_59 rfl ?_
    refine w_invVr C [.int (1)] 0 0 L_X8_145 (c_X8_holdsTo (s := s) (t := t)  hst hG hL 1) (m0 (s := s) (t := t) (g := G.2.2.1) hL) rfl rfl rfl rfl dX8_peg_110 rfl kx_no (fun h3 => ?_)
    refine v_ifB_ne C (t := 118) dX8_peg_113 rfl rfl (fun h => absurd h (by decide)) (fun _ => ?_)
    refine v_iconst C (v := 0) dX8_peg_116 rfl rfl ?_
    exact v_iret C (by decide) (by decide) dX8_peg_117 ⟨congrArg (fun z => some (Value.int z)) (by first | rfl | (simp only [h2, pM, pU, heldM_45, gvW_45, inW_45, livN_45, sum9_45, sum13_45, pegE, pegR, pegU, bI, pM, pU, n10, n20, n30, n0, if_true, if_false, ite_true, ite_false, not_true_eq_false, not_false_eq_true, and_true, true_and, and_false, false_and, or_true, true_or, or_false, false_or, reduceIte, and_self, or_self, ne_eq, eq_self_iff_true]; first | done | rfl) | (simp [bI, h2, pM, pU, heldM_45, gvW_45, inW_45, livN_45, sum9_45, sum13_45, pegE, pegR, pegU]; done) | (simp only [pM, pU, heldM_45, gvW_45, inW_45, livN_45, sum9_45, sum13_45, pegE, pegR, pegU, bI, ← Int32.not_le] at *; simp [h2]; done) | (simp_all [bI, h2, pM, pU, heldM_45, gvW_45, inW_45, livN_45, sum9_45, sum13_45, pegE, pegR, pegU]; done) | (simp_all [bI, h2, pM, pU, heldM_45, gvW_45, inW_45, livN_45, sum9_45, sum13_45, pegE, pegR, pegU]; rfl) | (exfalso; omega)), by first | rfl | (simp only [h2, pM, pU, heldM_45, gvW_45, inW_45, livN_45, sum9_45, sum13_45, pegE, pegR, pegU, bI, pM, pU, n10, n20, n30, n0, if_true, if_false, ite_true, ite_false, not_true_eq_false, not_false_eq_true, and_true, true_and, and_false, false_and, or_true, true_or, or_false, false_or, reduceIte, and_self, or_self, ne_eq, eq_self_iff_true]; first | done | rfl) | (simp [bI, h2, pM, pU, heldM_45, gvW_45, inW_45, livN_45, sum9_45, sum13_45, pegE, pegR, pegU]; done) | (simp only [pM, pU, heldM_45, gvW_45, inW_45, livN_45, sum9_45, sum13_45, pegE, pegR, pegU, bI, ← Int32.not_le] at *; simp [h2]; done) | (simp_all [bI, h2, pM, pU, heldM_45, gvW_45, inW_45, livN_45, sum9_45, sum13_45, pegE, pegR, pegU]; done) | (simp_all [bI, h2, pM, pU, heldM_45, gvW_45, inW_45, livN_45, sum9_45, sum13_45, pegE, pegR, pegU]; rfl) | (exfalso; omega), by trivial⟩
  · skip
    refine v_iload_n C dX8_peg_8 rfl 2 rfl ?_
    refine w_invSr C [.int (c)] 0 0 L_X8_134 (c_X8_isCell (s := s) (t := t)  hst hG hL c) rfl rfl rfl dX8_peg_9 rfl kx_no (fun h4 => ?_)
    refine v_ifB_eq C (t := 27) dX8_peg_12 rfl rfl (fun h5 => ?_) (fun h5 => ?_)
    · skip
      refine v_iconst C (v := 0) dX8_peg_27 rfl rfl ?_
      refine v_istore C (lv1 := [(4, .int (0)), (0, .ref (a 0 0)), (1, .int (x)), (2, .int (c)), (3, .int (m))]) dX8_peg_28 rfl (by decide) rfl ?_
      refine v_iload C dX8_peg_30 rfl 0 rfl ?_
      refine v_if_eq C (t := 49) dX8_peg_32 rfl rfl (fun _ => ?_) (fun h => absurd h (by decide))
      refine v_iconst C (v := 0) dX8_peg_49 rfl rfl ?_
      refine v_istore C (lv1 := [(5, .int (0)), (4, .int (0)), (0, .ref (a 0 0)), (1, .int (x)), (2, .int (c)), (3, .int (m))]) dX8_peg_50 rfl (by decide) rfl ?_
      refine v_aload_n C dX8_peg_52 rfl 2 rfl ?_
      refine v_iload C dX8_peg_53 rfl 1 rfl ?_
      refine v_if_ne C (t := 62) dX8_peg_55 rfl rfl (fun h => absurd h (by decide)) (fun _ => ?_)
      refine v_iconst C (v := 1) dX8_peg_58 rfl rfl ?_
      refine v_goto C (q := 110) dX8_peg_59 rfl ?_
      refine w_invVr C [.int (1)] 0 0 L_X8_145 (c_X8_holdsTo (s := s) (t := t)  hst hG hL 1) (m0 (s := s) (t := t) (g := G.2.2.1) hL) rfl rfl rfl rfl dX8_peg_110 rfl kx_no (fun h6 => ?_)
      refine v_ifB_ne C (t := 118) dX8_peg_113 rfl rfl (fun h => absurd h (by decide)) (fun _ => ?_)
      refine v_iconst C (v := 0) dX8_peg_116 rfl rfl ?_
      exact v_iret C (by decide) (by decide) dX8_peg_117 ⟨congrArg (fun z => some (Value.int z)) (by first | rfl | (simp only [h2, h5, pM, pU, heldM_45, gvW_45, inW_45, livN_45, sum9_45, sum13_45, pegE, pegR, pegU, bI, pM, pU, n10, n20, n30, n0, if_true, if_false, ite_true, ite_false, not_true_eq_false, not_false_eq_true, and_true, true_and, and_false, false_and, or_true, true_or, or_false, false_or, reduceIte, and_self, or_self, ne_eq, eq_self_iff_true]; first | done | rfl) | (simp [bI, h2, h5, pM, pU, heldM_45, gvW_45, inW_45, livN_45, sum9_45, sum13_45, pegE, pegR, pegU]; done) | (simp only [pM, pU, heldM_45, gvW_45, inW_45, livN_45, sum9_45, sum13_45, pegE, pegR, pegU, bI, ← Int32.not_le] at *; simp [h2, h5]; done) | (simp_all [bI, h2, h5, pM, pU, heldM_45, gvW_45, inW_45, livN_45, sum9_45, sum13_45, pegE, pegR, pegU]; done) | (simp_all [bI, h2, h5, pM, pU, heldM_45, gvW_45, inW_45, livN_45, sum9_45, sum13_45, pegE, pegR, pegU]; rfl) | (exfalso; omega)), by first | rfl | (simp only [h2, h5, pM, pU, heldM_45, gvW_45, inW_45, livN_45, sum9_45, sum13_45, pegE, pegR, pegU, bI, pM, pU, n10, n20, n30, n0, if_true, if_false, ite_true, ite_false, not_true_eq_false, not_false_eq_true, and_true, true_and, and_false, false_and, or_true, true_or, or_false, false_or, reduceIte, and_self, or_self, ne_eq, eq_self_iff_true]; first | done | rfl) | (simp [bI, h2, h5, pM, pU, heldM_45, gvW_45, inW_45, livN_45, sum9_45, sum13_45, pegE, pegR, pegU]; done) | (simp only [pM, pU, heldM_45, gvW_45, inW_45, livN_45, sum9_45, sum13_45, pegE, pegR, pegU, bI, ← Int32.not_le] at *; simp [h2, h5]; done) | (simp_all [bI, h2, h5, pM, pU, heldM_45, gvW_45, inW_45, livN_45, sum9_45, sum13_45, pegE, pegR, pegU]; done) | (simp_all [bI, h2, h5, pM, pU, heldM_45, gvW_45, inW_45, livN_45, sum9_45, sum13_45, pegE, pegR, pegU]; rfl) | (exfalso; omega), by trivial⟩
    · skip
      refine v_iload_n C dX8_peg_15 rfl 3 rfl ?_
      refine v_bipush C (v := 40) dX8_peg_16 rfl rfl ?_
      refine v_iload_n C dX8_peg_18 rfl 2 rfl ?_
      refine v_isub C dX8_peg_19 rfl ?_
      refine v_icmp_gt C (t := 27) dX8_peg_20 rfl rfl (fun h7 => ?_) (fun h7 => ?_)
      · skip
        refine v_iconst C (v := 0) dX8_peg_27 rfl rfl ?_
        refine v_istore C (lv1 := [(4, .int (0)), (0, .ref (a 0 0)), (1, .int (x)), (2, .int (c)), (3, .int (m))]) dX8_peg_28 rfl (by decide) rfl ?_
        refine v_iload C dX8_peg_30 rfl 0 rfl ?_
        refine v_if_eq C (t := 49) dX8_peg_32 rfl rfl (fun _ => ?_) (fun h => absurd h (by decide))
        refine v_iconst C (v := 0) dX8_peg_49 rfl rfl ?_
        refine v_istore C (lv1 := [(5, .int (0)), (4, .int (0)), (0, .ref (a 0 0)), (1, .int (x)), (2, .int (c)), (3, .int (m))]) dX8_peg_50 rfl (by decide) rfl ?_
        refine v_aload_n C dX8_peg_52 rfl 2 rfl ?_
        refine v_iload C dX8_peg_53 rfl 1 rfl ?_
        refine v_if_ne C (t := 62) dX8_peg_55 rfl rfl (fun h => absurd h (by decide)) (fun _ => ?_)
        refine v_iconst C (v := 1) dX8_peg_58 rfl rfl ?_
        refine v_goto C (q := 110) dX8_peg_59 rfl ?_
        refine w_invVr C [.int (1)] 0 0 L_X8_145 (c_X8_holdsTo (s := s) (t := t)  hst hG hL 1) (m0 (s := s) (t := t) (g := G.2.2.1) hL) rfl rfl rfl rfl dX8_peg_110 rfl kx_no (fun h8 => ?_)
        refine v_ifB_ne C (t := 118) dX8_peg_113 rfl rfl (fun h => absurd h (by decide)) (fun _ => ?_)
        refine v_iconst C (v := 0) dX8_peg_116 rfl rfl ?_
        exact v_iret C (by decide) (by decide) dX8_peg_117 ⟨congrArg (fun z => some (Value.int z)) (by first | rfl | (simp only [h2, h5, h7, Int32.not_le.mpr h7, pM, pU, heldM_45, gvW_45, inW_45, livN_45, sum9_45, sum13_45, pegE, pegR, pegU, bI, pM, pU, n10, n20, n30, n0, if_true, if_false, ite_true, ite_false, not_true_eq_false, not_false_eq_true, and_true, true_and, and_false, false_and, or_true, true_or, or_false, false_or, reduceIte, and_self, or_self, ne_eq, eq_self_iff_true]; first | done | rfl) | (simp [bI, h2, h5, h7, Int32.not_le.mpr h7, pM, pU, heldM_45, gvW_45, inW_45, livN_45, sum9_45, sum13_45, pegE, pegR, pegU]; done) | (simp only [pM, pU, heldM_45, gvW_45, inW_45, livN_45, sum9_45, sum13_45, pegE, pegR, pegU, bI, ← Int32.not_le] at *; simp [h2, h5, h7, Int32.not_le.mpr h7]; done) | (simp_all [bI, h2, h5, h7, Int32.not_le.mpr h7, pM, pU, heldM_45, gvW_45, inW_45, livN_45, sum9_45, sum13_45, pegE, pegR, pegU]; done) | (simp_all [bI, h2, h5, h7, Int32.not_le.mpr h7, pM, pU, heldM_45, gvW_45, inW_45, livN_45, sum9_45, sum13_45, pegE, pegR, pegU]; rfl) | (exfalso; omega)), by first | rfl | (simp only [h2, h5, h7, Int32.not_le.mpr h7, pM, pU, heldM_45, gvW_45, inW_45, livN_45, sum9_45, sum13_45, pegE, pegR, pegU, bI, pM, pU, n10, n20, n30, n0, if_true, if_false, ite_true, ite_false, not_true_eq_false, not_false_eq_true, and_true, true_and, and_false, false_and, or_true, true_or, or_false, false_or, reduceIte, and_self, or_self, ne_eq, eq_self_iff_true]; first | done | rfl) | (simp [bI, h2, h5, h7, Int32.not_le.mpr h7, pM, pU, heldM_45, gvW_45, inW_45, livN_45, sum9_45, sum13_45, pegE, pegR, pegU]; done) | (simp only [pM, pU, heldM_45, gvW_45, inW_45, livN_45, sum9_45, sum13_45, pegE, pegR, pegU, bI, ← Int32.not_le] at *; simp [h2, h5, h7, Int32.not_le.mpr h7]; done) | (simp_all [bI, h2, h5, h7, Int32.not_le.mpr h7, pM, pU, heldM_45, gvW_45, inW_45, livN_45, sum9_45, sum13_45, pegE, pegR, pegU]; done) | (simp_all [bI, h2, h5, h7, Int32.not_le.mpr h7, pM, pU, heldM_45, gvW_45, inW_45, livN_45, sum9_45, sum13_45, pegE, pegR, pegU]; rfl) | (exfalso; omega), by trivial⟩
      · skip
        refine v_iconst C (v := 1) dX8_peg_23 rfl rfl ?_
        refine v_goto C (q := 28) dX8_peg_24 rfl ?_
        refine v_istore C (lv1 := [(4, .int (1)), (0, .ref (a 0 0)), (1, .int (x)), (2, .int (c)), (3, .int (m))]) dX8_peg_28 rfl (by decide) rfl ?_
        refine v_iload C dX8_peg_30 rfl 0 rfl ?_
        refine v_if_eq C (t := 49) dX8_peg_32 rfl rfl (fun h => absurd h (by decide)) (fun _ => ?_)
        refine v_iload_n C dX8_peg_35 rfl 4 rfl ?_
        refine v_iconst C (v := 1) dX8_peg_36 rfl rfl ?_
        refine v_bipush C (v := 10) dX8_peg_37 rfl rfl ?_
        refine w_invSr C [.int (m), .int (1), .int (10)] 0 0 L_X8_123 (c_X8_isIn (s := s) (t := t)  hst hG hL m 1 10) rfl rfl rfl dX8_peg_39 rfl kx_no (fun h9 => ?_)
        refine v_ifB_eq C (t := 49) dX8_peg_42 rfl rfl (fun h10 => ?_) (fun h10 => ?_)
        · skip
          refine v_iconst C (v := 0) dX8_peg_49 rfl rfl ?_
          refine v_istore C (lv1 := [(5, .int (0)), (4, .int (1)), (0, .ref (a 0 0)), (1, .int (x)), (2, .int (c)), (3, .int (m))]) dX8_peg_50 rfl (by decide) rfl ?_
          refine v_aload_n C dX8_peg_52 rfl 2 rfl ?_
          refine v_iload C dX8_peg_53 rfl 1 rfl ?_
          refine v_if_ne C (t := 62) dX8_peg_55 rfl rfl (fun _ => ?_) (fun h => absurd h (by decide))
          refine v_iload C dX8_peg_62 rfl 0 rfl ?_
          refine v_if_ne C (t := 71) dX8_peg_64 rfl rfl (fun h => absurd h (by decide)) (fun _ => ?_)
          refine v_iconst C (v := 2) dX8_peg_67 rfl rfl ?_
          refine v_goto C (q := 110) dX8_peg_68 rfl ?_
          refine w_invVr C [.int (2)] 0 0 L_X8_145 (c_X8_holdsTo (s := s) (t := t)  hst hG hL 2) (m0 (s := s) (t := t) (g := G.2.2.1) hL) rfl rfl rfl rfl dX8_peg_110 rfl kx_no (fun h11 => ?_)
          refine v_ifB_ne C (t := 118) dX8_peg_113 rfl rfl (fun h => absurd h (by decide)) (fun _ => ?_)
          refine v_iconst C (v := 0) dX8_peg_116 rfl rfl ?_
          exact v_iret C (by decide) (by decide) dX8_peg_117 ⟨congrArg (fun z => some (Value.int z)) (by first | rfl | (simp only [h2, h5, h7, Int32.not_lt.mp h7, h10, pM, pU, heldM_45, gvW_45, inW_45, livN_45, sum9_45, sum13_45, pegE, pegR, pegU, bI, pM, pU, n10, n20, n30, n0, if_true, if_false, ite_true, ite_false, not_true_eq_false, not_false_eq_true, and_true, true_and, and_false, false_and, or_true, true_or, or_false, false_or, reduceIte, and_self, or_self, ne_eq, eq_self_iff_true]; first | done | rfl) | (simp [bI, h2, h5, h7, Int32.not_lt.mp h7, h10, pM, pU, heldM_45, gvW_45, inW_45, livN_45, sum9_45, sum13_45, pegE, pegR, pegU]; done) | (simp only [pM, pU, heldM_45, gvW_45, inW_45, livN_45, sum9_45, sum13_45, pegE, pegR, pegU, bI, ← Int32.not_le] at *; simp [h2, h5, h7, Int32.not_lt.mp h7, h10]; done) | (simp_all [bI, h2, h5, h7, Int32.not_lt.mp h7, h10, pM, pU, heldM_45, gvW_45, inW_45, livN_45, sum9_45, sum13_45, pegE, pegR, pegU]; done) | (simp_all [bI, h2, h5, h7, Int32.not_lt.mp h7, h10, pM, pU, heldM_45, gvW_45, inW_45, livN_45, sum9_45, sum13_45, pegE, pegR, pegU]; rfl) | (exfalso; omega)), by first | rfl | (simp only [h2, h5, h7, Int32.not_lt.mp h7, h10, pM, pU, heldM_45, gvW_45, inW_45, livN_45, sum9_45, sum13_45, pegE, pegR, pegU, bI, pM, pU, n10, n20, n30, n0, if_true, if_false, ite_true, ite_false, not_true_eq_false, not_false_eq_true, and_true, true_and, and_false, false_and, or_true, true_or, or_false, false_or, reduceIte, and_self, or_self, ne_eq, eq_self_iff_true]; first | done | rfl) | (simp [bI, h2, h5, h7, Int32.not_lt.mp h7, h10, pM, pU, heldM_45, gvW_45, inW_45, livN_45, sum9_45, sum13_45, pegE, pegR, pegU]; done) | (simp only [pM, pU, heldM_45, gvW_45, inW_45, livN_45, sum9_45, sum13_45, pegE, pegR, pegU, bI, ← Int32.not_le] at *; simp [h2, h5, h7, Int32.not_lt.mp h7, h10]; done) | (simp_all [bI, h2, h5, h7, Int32.not_lt.mp h7, h10, pM, pU, heldM_45, gvW_45, inW_45, livN_45, sum9_45, sum13_45, pegE, pegR, pegU]; done) | (simp_all [bI, h2, h5, h7, Int32.not_lt.mp h7, h10, pM, pU, heldM_45, gvW_45, inW_45, livN_45, sum9_45, sum13_45, pegE, pegR, pegU]; rfl) | (exfalso; omega), by trivial⟩
        · skip
          refine v_iconst C (v := 1) dX8_peg_45 rfl rfl ?_
          refine v_goto C (q := 50) dX8_peg_46 rfl ?_
          refine v_istore C (lv1 := [(5, .int (1)), (4, .int (1)), (0, .ref (a 0 0)), (1, .int (x)), (2, .int (c)), (3, .int (m))]) dX8_peg_50 rfl (by decide) rfl ?_
          refine v_aload_n C dX8_peg_52 rfl 2 rfl ?_
          refine v_iload C dX8_peg_53 rfl 1 rfl ?_
          refine v_if_ne C (t := 62) dX8_peg_55 rfl rfl (fun _ => ?_) (fun h => absurd h (by decide))
          refine v_iload C dX8_peg_62 rfl 0 rfl ?_
          refine v_if_ne C (t := 71) dX8_peg_64 rfl rfl (fun _ => ?_) (fun h => absurd h (by decide))
          refine v_aload_n C dX8_peg_71 rfl 2 rfl ?_
          refine v_iload_n C dX8_peg_72 rfl 3 rfl ?_
          refine w_invVr C [.int (x)] 0 0 L_X8_155 (c_X8_isDead (s := s) (t := t)  hst hG hL x _ (in_nI (N := 12) (vp_cnt (by assumption) hm hm12 (by decide)) (by omega)) (in_lt (N := 12) (vp_cnt (by assumption) hm hm12 (by decide)))) (m0 (s := s) (t := t) (g := G.2.2.1) hL) rfl rfl rfl rfl dX8_peg_73 rfl kx_no (fun h12 => ?_)
          refine v_ifB_ne C (t := 105) dX8_peg_76 rfl rfl (fun h13 => ?_) (fun h13 => ?_)
          · skip
            refine v_iconst C (v := 3) dX8_peg_105 rfl rfl ?_
            refine v_goto C (q := 110) dX8_peg_106 rfl ?_
            refine w_invVr C [.int (3)] 0 0 L_X8_145 (c_X8_holdsTo (s := s) (t := t)  hst hG hL 3) (m0 (s := s) (t := t) (g := G.2.2.1) hL) rfl rfl rfl rfl dX8_peg_110 rfl kx_no (fun h14 => ?_)
            refine v_ifB_ne C (t := 118) dX8_peg_113 rfl rfl (fun h => absurd h (by decide)) (fun _ => ?_)
            refine v_iconst C (v := 0) dX8_peg_116 rfl rfl ?_
            exact v_iret C (by decide) (by decide) dX8_peg_117 ⟨congrArg (fun z => some (Value.int z)) (by first | rfl | (simp only [h2, h5, h7, Int32.not_lt.mp h7, h10, eq_true h13, pM, pU, heldM_45, gvW_45, inW_45, livN_45, sum9_45, sum13_45, pegE, pegR, pegU, bI, pM, pU, n10, n20, n30, n0, if_true, if_false, ite_true, ite_false, not_true_eq_false, not_false_eq_true, and_true, true_and, and_false, false_and, or_true, true_or, or_false, false_or, reduceIte, and_self, or_self, ne_eq, eq_self_iff_true]; first | done | rfl) | (simp [bI, h2, h5, h7, Int32.not_lt.mp h7, h10, eq_true h13, pM, pU, heldM_45, gvW_45, inW_45, livN_45, sum9_45, sum13_45, pegE, pegR, pegU]; done) | (simp only [pM, pU, heldM_45, gvW_45, inW_45, livN_45, sum9_45, sum13_45, pegE, pegR, pegU, bI, ← Int32.not_le] at *; simp [h2, h5, h7, Int32.not_lt.mp h7, h10, eq_true h13]; done) | (simp_all [bI, h2, h5, h7, Int32.not_lt.mp h7, h10, eq_true h13, pM, pU, heldM_45, gvW_45, inW_45, livN_45, sum9_45, sum13_45, pegE, pegR, pegU]; done) | (simp_all [bI, h2, h5, h7, Int32.not_lt.mp h7, h10, eq_true h13, pM, pU, heldM_45, gvW_45, inW_45, livN_45, sum9_45, sum13_45, pegE, pegR, pegU]; rfl) | (exfalso; omega)), by first | rfl | (simp only [h2, h5, h7, Int32.not_lt.mp h7, h10, eq_true h13, pM, pU, heldM_45, gvW_45, inW_45, livN_45, sum9_45, sum13_45, pegE, pegR, pegU, bI, pM, pU, n10, n20, n30, n0, if_true, if_false, ite_true, ite_false, not_true_eq_false, not_false_eq_true, and_true, true_and, and_false, false_and, or_true, true_or, or_false, false_or, reduceIte, and_self, or_self, ne_eq, eq_self_iff_true]; first | done | rfl) | (simp [bI, h2, h5, h7, Int32.not_lt.mp h7, h10, eq_true h13, pM, pU, heldM_45, gvW_45, inW_45, livN_45, sum9_45, sum13_45, pegE, pegR, pegU]; done) | (simp only [pM, pU, heldM_45, gvW_45, inW_45, livN_45, sum9_45, sum13_45, pegE, pegR, pegU, bI, ← Int32.not_le] at *; simp [h2, h5, h7, Int32.not_lt.mp h7, h10, eq_true h13]; done) | (simp_all [bI, h2, h5, h7, Int32.not_lt.mp h7, h10, eq_true h13, pM, pU, heldM_45, gvW_45, inW_45, livN_45, sum9_45, sum13_45, pegE, pegR, pegU]; done) | (simp_all [bI, h2, h5, h7, Int32.not_lt.mp h7, h10, eq_true h13, pM, pU, heldM_45, gvW_45, inW_45, livN_45, sum9_45, sum13_45, pegE, pegR, pegU]; rfl) | (exfalso; omega), by trivial⟩
          · skip
            refine v_iload_n C dX8_peg_79 rfl 5 rfl ?_
            refine v_aload_n C dX8_peg_80 rfl 2 rfl ?_
            refine v_get C (v := .int (t 2 0)) g_X8_13 (m0 (s := s) (t := t) (g := G.2.2.1) hL) (rg (by decide) rfl) dX8_peg_81 rfl ?_
            refine v_icmp_gt C (t := 105) dX8_peg_84 rfl rfl (fun h15 => ?_) (fun h15 => ?_)
            · skip
              refine v_iconst C (v := 3) dX8_peg_105 rfl rfl ?_
              refine v_goto C (q := 110) dX8_peg_106 rfl ?_
              refine w_invVr C [.int (3)] 0 0 L_X8_145 (c_X8_holdsTo (s := s) (t := t)  hst hG hL 3) (m0 (s := s) (t := t) (g := G.2.2.1) hL) rfl rfl rfl rfl dX8_peg_110 rfl kx_no (fun h16 => ?_)
              refine v_ifB_ne C (t := 118) dX8_peg_113 rfl rfl (fun h => absurd h (by decide)) (fun _ => ?_)
              refine v_iconst C (v := 0) dX8_peg_116 rfl rfl ?_
              exact v_iret C (by decide) (by decide) dX8_peg_117 ⟨congrArg (fun z => some (Value.int z)) (by first | rfl | (simp only [h2, h5, h7, Int32.not_lt.mp h7, h10, h13, h15, Int32.not_le.mpr h15, pM, pU, heldM_45, gvW_45, inW_45, livN_45, sum9_45, sum13_45, pegE, pegR, pegU, bI, pM, pU, n10, n20, n30, n0, if_true, if_false, ite_true, ite_false, not_true_eq_false, not_false_eq_true, and_true, true_and, and_false, false_and, or_true, true_or, or_false, false_or, reduceIte, and_self, or_self, ne_eq, eq_self_iff_true]; first | done | rfl) | (simp [bI, h2, h5, h7, Int32.not_lt.mp h7, h10, h13, h15, Int32.not_le.mpr h15, pM, pU, heldM_45, gvW_45, inW_45, livN_45, sum9_45, sum13_45, pegE, pegR, pegU]; done) | (simp only [pM, pU, heldM_45, gvW_45, inW_45, livN_45, sum9_45, sum13_45, pegE, pegR, pegU, bI, ← Int32.not_le] at *; simp [h2, h5, h7, Int32.not_lt.mp h7, h10, h13, h15, Int32.not_le.mpr h15]; done) | (simp_all [bI, h2, h5, h7, Int32.not_lt.mp h7, h10, h13, h15, Int32.not_le.mpr h15, pM, pU, heldM_45, gvW_45, inW_45, livN_45, sum9_45, sum13_45, pegE, pegR, pegU]; done) | (simp_all [bI, h2, h5, h7, Int32.not_lt.mp h7, h10, h13, h15, Int32.not_le.mpr h15, pM, pU, heldM_45, gvW_45, inW_45, livN_45, sum9_45, sum13_45, pegE, pegR, pegU]; rfl) | (exfalso; omega)), by first | rfl | (simp only [h2, h5, h7, Int32.not_lt.mp h7, h10, h13, h15, Int32.not_le.mpr h15, pM, pU, heldM_45, gvW_45, inW_45, livN_45, sum9_45, sum13_45, pegE, pegR, pegU, bI, pM, pU, n10, n20, n30, n0, if_true, if_false, ite_true, ite_false, not_true_eq_false, not_false_eq_true, and_true, true_and, and_false, false_and, or_true, true_or, or_false, false_or, reduceIte, and_self, or_self, ne_eq, eq_self_iff_true]; first | done | rfl) | (simp [bI, h2, h5, h7, Int32.not_lt.mp h7, h10, h13, h15, Int32.not_le.mpr h15, pM, pU, heldM_45, gvW_45, inW_45, livN_45, sum9_45, sum13_45, pegE, pegR, pegU]; done) | (simp only [pM, pU, heldM_45, gvW_45, inW_45, livN_45, sum9_45, sum13_45, pegE, pegR, pegU, bI, ← Int32.not_le] at *; simp [h2, h5, h7, Int32.not_lt.mp h7, h10, h13, h15, Int32.not_le.mpr h15]; done) | (simp_all [bI, h2, h5, h7, Int32.not_lt.mp h7, h10, h13, h15, Int32.not_le.mpr h15, pM, pU, heldM_45, gvW_45, inW_45, livN_45, sum9_45, sum13_45, pegE, pegR, pegU]; done) | (simp_all [bI, h2, h5, h7, Int32.not_lt.mp h7, h10, h13, h15, Int32.not_le.mpr h15, pM, pU, heldM_45, gvW_45, inW_45, livN_45, sum9_45, sum13_45, pegE, pegR, pegU]; rfl) | (exfalso; omega), by trivial⟩
            · skip
              refine v_aload_n C dX8_peg_87 rfl 2 rfl ?_
              refine v_iload_n C dX8_peg_88 rfl 4 rfl ?_
              refine v_iload_n C dX8_peg_89 rfl 5 rfl ?_
              refine w_invVr C [.int (c), .int (m)] 0 0 L_X8_179 (c_X8_areFree (s := s) (t := t) (nc := nc) hst hG hL c _ (in_nI (N := 40) (vp_rng (n := 39) rfl (by decide) (by assumption)) (by omega)) (in_lt (N := 40) (vp_rng (n := 39) rfl (by decide) (by assumption))) m _ (in_nI (N := 11) (vp_rng1 (n := 10) rfl (by decide) (by assumption)) (by omega)) (in_lt (N := 11) (vp_rng1 (n := 10) rfl (by decide) (by assumption))) hc hc30) (m0 (s := s) (t := t) (g := G.2.2.1) hL) rfl rfl rfl rfl dX8_peg_90 rfl kx_no (fun h17 => ?_)
              refine v_if_eq C (t := 105) dX8_peg_93 rfl rfl (fun h18 => ?_) (fun h18 => ?_)
              · skip
                refine v_iconst C (v := 3) dX8_peg_105 rfl rfl ?_
                refine v_goto C (q := 110) dX8_peg_106 rfl ?_
                refine w_invVr C [.int (3)] 0 0 L_X8_145 (c_X8_holdsTo (s := s) (t := t)  hst hG hL 3) (m0 (s := s) (t := t) (g := G.2.2.1) hL) rfl rfl rfl rfl dX8_peg_110 rfl kx_no (fun h19 => ?_)
                refine v_ifB_ne C (t := 118) dX8_peg_113 rfl rfl (fun h => absurd h (by decide)) (fun _ => ?_)
                refine v_iconst C (v := 0) dX8_peg_116 rfl rfl ?_
                exact v_iret C (by decide) (by decide) dX8_peg_117 ⟨congrArg (fun z => some (Value.int z)) (by first | rfl | (simp only [h2, h5, h7, Int32.not_lt.mp h7, h10, h13, h15, Int32.not_lt.mp h15, eq_true h18, pM, pU, heldM_45, gvW_45, inW_45, livN_45, sum9_45, sum13_45, pegE, pegR, pegU, bI, pM, pU, n10, n20, n30, n0, if_true, if_false, ite_true, ite_false, not_true_eq_false, not_false_eq_true, and_true, true_and, and_false, false_and, or_true, true_or, or_false, false_or, reduceIte, and_self, or_self, ne_eq, eq_self_iff_true]; first | done | rfl) | (simp [bI, h2, h5, h7, Int32.not_lt.mp h7, h10, h13, h15, Int32.not_lt.mp h15, eq_true h18, pM, pU, heldM_45, gvW_45, inW_45, livN_45, sum9_45, sum13_45, pegE, pegR, pegU]; done) | (simp only [pM, pU, heldM_45, gvW_45, inW_45, livN_45, sum9_45, sum13_45, pegE, pegR, pegU, bI, ← Int32.not_le] at *; simp [h2, h5, h7, Int32.not_lt.mp h7, h10, h13, h15, Int32.not_lt.mp h15, eq_true h18]; done) | (simp_all [bI, h2, h5, h7, Int32.not_lt.mp h7, h10, h13, h15, Int32.not_lt.mp h15, eq_true h18, pM, pU, heldM_45, gvW_45, inW_45, livN_45, sum9_45, sum13_45, pegE, pegR, pegU]; done) | (simp_all [bI, h2, h5, h7, Int32.not_lt.mp h7, h10, h13, h15, Int32.not_lt.mp h15, eq_true h18, pM, pU, heldM_45, gvW_45, inW_45, livN_45, sum9_45, sum13_45, pegE, pegR, pegU]; rfl) | (exfalso; omega)), by first | rfl | (simp only [h2, h5, h7, Int32.not_lt.mp h7, h10, h13, h15, Int32.not_lt.mp h15, eq_true h18, pM, pU, heldM_45, gvW_45, inW_45, livN_45, sum9_45, sum13_45, pegE, pegR, pegU, bI, pM, pU, n10, n20, n30, n0, if_true, if_false, ite_true, ite_false, not_true_eq_false, not_false_eq_true, and_true, true_and, and_false, false_and, or_true, true_or, or_false, false_or, reduceIte, and_self, or_self, ne_eq, eq_self_iff_true]; first | done | rfl) | (simp [bI, h2, h5, h7, Int32.not_lt.mp h7, h10, h13, h15, Int32.not_lt.mp h15, eq_true h18, pM, pU, heldM_45, gvW_45, inW_45, livN_45, sum9_45, sum13_45, pegE, pegR, pegU]; done) | (simp only [pM, pU, heldM_45, gvW_45, inW_45, livN_45, sum9_45, sum13_45, pegE, pegR, pegU, bI, ← Int32.not_le] at *; simp [h2, h5, h7, Int32.not_lt.mp h7, h10, h13, h15, Int32.not_lt.mp h15, eq_true h18]; done) | (simp_all [bI, h2, h5, h7, Int32.not_lt.mp h7, h10, h13, h15, Int32.not_lt.mp h15, eq_true h18, pM, pU, heldM_45, gvW_45, inW_45, livN_45, sum9_45, sum13_45, pegE, pegR, pegU]; done) | (simp_all [bI, h2, h5, h7, Int32.not_lt.mp h7, h10, h13, h15, Int32.not_lt.mp h15, eq_true h18, pM, pU, heldM_45, gvW_45, inW_45, livN_45, sum9_45, sum13_45, pegE, pegR, pegU]; rfl) | (exfalso; omega), by trivial⟩
              · skip
                refine v_aload_n C dX8_peg_96 rfl 2 rfl ?_
                refine v_get C (v := .int (t 21 0)) g_X8_130 (m0 (s := s) (t := t) (g := G.2.2.1) hL) (rg (by decide) rfl) dX8_peg_97 rfl ?_
                refine xx_top (y := nI nc) hc ?_
                refine v_bipush C (v := 30) dX8_peg_100 rfl rfl ?_
                refine v_icN_ne C (t := 109) nc 30 rfl rfl (by omega) (by omega) dX8_peg_102 rfl rfl (fun h20 => ?_) (fun h20 => ?_)
                · skip
                  refine v_iconst C (v := 0) dX8_peg_109 rfl rfl ?_
                  refine w_invVr C [.int (0)] 0 0 L_X8_145 (c_X8_holdsTo (s := s) (t := t)  hst hG hL 0) (m0 (s := s) (t := t) (g := G.2.2.1) hL) rfl rfl rfl rfl dX8_peg_110 rfl kx_no (fun h21 => ?_)
                  refine v_ifB_ne C (t := 118) dX8_peg_113 rfl rfl (fun _ => ?_) (fun h => absurd (by decide) h)
                  refine v_aload_n C dX8_peg_118 rfl 2 rfl ?_
                  refine v_get C (v := .ref (a 1 22)) g_X8_59 (m0 (s := s) (t := ((su t 45 0 0))) (g := G.2.2.1) hL) (rg (by decide) rfl) dX8_peg_119 rfl ?_
                  refine v_aload_n C dX8_peg_122 rfl 2 rfl ?_
                  refine v_get C (v := .int (t 21 0)) g_X8_130 (m0 (s := s) (t := ((su t 45 0 0))) (g := G.2.2.1) hL) (rg (by decide) rfl) dX8_peg_123 rfl ?_
                  refine xx_top (y := nI nc) hc ?_
                  refine v_iload_n C dX8_peg_126 rfl 3 rfl ?_
                  refine v_iastE C (len := 30) nc (put_m1 (s := s) (t := ((su t 45 0 0))) (g := G.2.2.1) hL 22 rfl nc x) (nI_clamp (by omega)) (pk_in nc 30 (by omega)) dX8_peg_127 rfl ?_
                  refine v_aload_n C dX8_peg_128 rfl 2 rfl ?_
                  refine v_get C (v := .ref (a 1 23)) g_X8_62 (m0 (s := s) (t := ((su (su t 45 0 0) 22 nc x))) (g := G.2.2.1) hL) (rg (by decide) rfl) dX8_peg_129 rfl ?_
                  refine v_aload_n C dX8_peg_132 rfl 2 rfl ?_
                  refine v_get C (v := .int (t 21 0)) g_X8_130 (m0 (s := s) (t := ((su (su t 45 0 0) 22 nc x))) (g := G.2.2.1) hL) (rg (by decide) rfl) dX8_peg_133 rfl ?_
                  refine xx_top (y := nI nc) hc ?_
                  refine v_iload_n C dX8_peg_136 rfl 4 rfl ?_
                  refine v_iastE C (len := 30) nc (put_m1 (s := s) (t := ((su (su t 45 0 0) 22 nc x))) (g := G.2.2.1) hL 23 rfl nc c) (nI_clamp (by omega)) (pk_in nc 30 (by omega)) dX8_peg_137 rfl ?_
                  refine v_aload_n C dX8_peg_138 rfl 2 rfl ?_
                  refine v_get C (v := .ref (a 1 24)) g_X8_65 (m0 (s := s) (t := ((su (su (su t 45 0 0) 22 nc x) 23 nc c))) (g := G.2.2.1) hL) (rg (by decide) rfl) dX8_peg_139 rfl ?_
                  refine v_aload_n C dX8_peg_142 rfl 2 rfl ?_
                  refine v_get C (v := .int (t 21 0)) g_X8_130 (m0 (s := s) (t := ((su (su (su t 45 0 0) 22 nc x) 23 nc c))) (g := G.2.2.1) hL) (rg (by decide) rfl) dX8_peg_143 rfl ?_
                  refine xx_top (y := nI nc) hc ?_
                  refine v_iload_n C dX8_peg_146 rfl 5 rfl ?_
                  refine v_iastE C (len := 30) nc (put_m1 (s := s) (t := ((su (su (su t 45 0 0) 22 nc x) 23 nc c))) (g := G.2.2.1) hL 24 rfl nc m) (nI_clamp (by omega)) (pk_in nc 30 (by omega)) dX8_peg_147 rfl ?_
                  refine v_aload_n C dX8_peg_148 rfl 2 rfl ?_
                  refine v_get C (v := .ref (a 1 25)) g_X8_68 (m0 (s := s) (t := ((su (su (su (su t 45 0 0) 22 nc x) 23 nc c) 24 nc m))) (g := G.2.2.1) hL) (rg (by decide) rfl) dX8_peg_149 rfl ?_
                  refine v_aload_n C dX8_peg_152 rfl 2 rfl ?_
                  refine v_get C (v := .int (t 21 0)) g_X8_130 (m0 (s := s) (t := ((su (su (su (su t 45 0 0) 22 nc x) 23 nc c) 24 nc m))) (g := G.2.2.1) hL) (rg (by decide) rfl) dX8_peg_153 rfl ?_
                  refine xx_top (y := nI nc) hc ?_
                  refine v_iconst C (v := 1) dX8_peg_156 rfl rfl ?_
                  refine v_zastE C (len := 30) nc (put_m1 (s := s) (t := ((su (su (su (su t 45 0 0) 22 nc x) 23 nc c) 24 nc m))) (g := G.2.2.1) hL 25 rfl nc 1) rfl (nI_clamp (by omega)) (pk_in nc 30 (by omega)) dX8_peg_157 rfl ?_
                  refine v_aload_n C dX8_peg_158 rfl 2 rfl ?_
                  refine v_get C (v := .ref (a 1 26)) g_X8_72 (m0 (s := s) (t := ((su (su (su (su (su t 45 0 0) 22 nc x) 23 nc c) 24 nc m) 25 nc 1))) (g := G.2.2.1) hL) (rg (by decide) rfl) dX8_peg_159 rfl ?_
                  refine v_aload_n C dX8_peg_162 rfl 2 rfl ?_
                  refine v_get C (v := .int (t 21 0)) g_X8_130 (m0 (s := s) (t := ((su (su (su (su (su t 45 0 0) 22 nc x) 23 nc c) 24 nc m) 25 nc 1))) (g := G.2.2.1) hL) (rg (by decide) rfl) dX8_peg_163 rfl ?_
                  refine xx_top (y := nI nc) hc ?_
                  refine v_aload_n C dX8_peg_166 rfl 2 rfl ?_
                  refine v_get C (v := .int (t 0 0)) g_X8_138 (m0 (s := s) (t := ((su (su (su (su (su t 45 0 0) 22 nc x) 23 nc c) 24 nc m) 25 nc 1))) (g := G.2.2.1) hL) (rg (by decide) rfl) dX8_peg_167 rfl ?_
                  refine v_iastE C (len := 30) nc (put_m1 (s := s) (t := ((su (su (su (su (su t 45 0 0) 22 nc x) 23 nc c) 24 nc m) 25 nc 1))) (g := G.2.2.1) hL 26 rfl nc (t 0 0)) (nI_clamp (by omega)) (pk_in nc 30 (by omega)) dX8_peg_170 rfl ?_
                  refine v_aload_n C dX8_peg_171 rfl 2 rfl ?_
                  refine v_get C (v := .ref (a 1 27)) g_X8_75 (m0 (s := s) (t := ((su (su (su (su (su (su t 45 0 0) 22 nc x) 23 nc c) 24 nc m) 25 nc 1) 26 nc (t 0 0)))) (g := G.2.2.1) hL) (rg (by decide) rfl) dX8_peg_172 rfl ?_
                  refine v_aload_n C dX8_peg_175 rfl 2 rfl ?_
                  refine v_get C (v := .int (t 21 0)) g_X8_130 (m0 (s := s) (t := ((su (su (su (su (su (su t 45 0 0) 22 nc x) 23 nc c) 24 nc m) 25 nc 1) 26 nc (t 0 0)))) (g := G.2.2.1) hL) (rg (by decide) rfl) dX8_peg_176 rfl ?_
                  refine xx_top (y := nI nc) hc ?_
                  refine v_aload_n C dX8_peg_179 rfl 2 rfl ?_
                  refine v_get C (v := .int (t 3 0)) g_X8_16 (m0 (s := s) (t := ((su (su (su (su (su (su t 45 0 0) 22 nc x) 23 nc c) 24 nc m) 25 nc 1) 26 nc (t 0 0)))) (g := G.2.2.1) hL) (rg (by decide) rfl) dX8_peg_180 rfl ?_
                  refine v_iastE C (len := 30) nc (put_m1 (s := s) (t := ((su (su (su (su (su (su t 45 0 0) 22 nc x) 23 nc c) 24 nc m) 25 nc 1) 26 nc (t 0 0)))) (g := G.2.2.1) hL 27 rfl nc (t 3 0)) (nI_clamp (by omega)) (pk_in nc 30 (by omega)) dX8_peg_183 rfl ?_
                  refine v_aload_n C dX8_peg_184 rfl 2 rfl ?_
                  refine v_get C (v := .ref (a 1 32)) g_X8_90 (m0 (s := s) (t := ((su (su (su (su (su (su (su t 45 0 0) 22 nc x) 23 nc c) 24 nc m) 25 nc 1) 26 nc (t 0 0)) 27 nc (t 3 0)))) (g := G.2.2.1) hL) (rg (by decide) rfl) dX8_peg_185 rfl ?_
                  refine v_aload_n C dX8_peg_188 rfl 2 rfl ?_
                  refine v_get C (v := .int (t 21 0)) g_X8_130 (m0 (s := s) (t := ((su (su (su (su (su (su (su t 45 0 0) 22 nc x) 23 nc c) 24 nc m) 25 nc 1) 26 nc (t 0 0)) 27 nc (t 3 0)))) (g := G.2.2.1) hL) (rg (by decide) rfl) dX8_peg_189 rfl ?_
                  refine xx_top (y := nI nc) hc ?_
                  refine v_iconst C (v := (-1)) dX8_peg_192 rfl rfl ?_
                  refine v_iastE C (len := 30) nc (put_m1 (s := s) (t := ((su (su (su (su (su (su (su t 45 0 0) 22 nc x) 23 nc c) 24 nc m) 25 nc 1) 26 nc (t 0 0)) 27 nc (t 3 0)))) (g := G.2.2.1) hL 32 rfl nc ((-1))) (nI_clamp (by omega)) (pk_in nc 30 (by omega)) dX8_peg_193 rfl ?_
                  refine v_aload_n C dX8_peg_194 rfl 2 rfl ?_
                  refine v_dup C dX8_peg_195 rfl rfl ?_
                  refine v_get C (v := .int (t 21 0)) g_X8_130 (m0 (s := s) (t := ((su (su (su (su (su (su (su (su t 45 0 0) 22 nc x) 23 nc c) 24 nc m) 25 nc 1) 26 nc (t 0 0)) 27 nc (t 3 0)) 32 nc ((-1))))) (g := G.2.2.1) hL) (rg (by decide) rfl) dX8_peg_196 rfl ?_
                  refine xx_top (y := nI nc) hc ?_
                  refine v_iconst C (v := 1) dX8_peg_199 rfl rfl ?_
                  refine v_iaddN C nc 1 rfl rfl dX8_peg_200 rfl ?_
                  refine v_put C f_X8_130 (put_m0 (s := s) (t := ((su (su (su (su (su (su (su (su t 45 0 0) 22 nc x) 23 nc c) 24 nc m) 25 nc 1) 26 nc (t 0 0)) 27 nc (t 3 0)) 32 nc ((-1))))) (g := G.2.2.1) hL 21 rfl (nI (nc + 1))) rfl rfl (rg_len (by decide)) dX8_peg_201 rfl ?_
                  refine v_aload_n C dX8_peg_204 rfl 2 rfl ?_
                  refine v_get C (v := .int (nI (nc + 1))) g_X8_130 (m0 (s := s) (t := ((su (su (su (su (su (su (su (su (su t 45 0 0) 22 nc x) 23 nc c) 24 nc m) 25 nc 1) 26 nc (t 0 0)) 27 nc (t 3 0)) 32 nc ((-1))) 21 0 (nI (nc + 1))))) (g := G.2.2.1) hL) (rg (by decide) rfl) dX8_peg_205 rfl ?_
                  refine v_iconst C (v := 1) dX8_peg_208 rfl rfl ?_
                  refine v_isubN C (nc + 1) 1 (by omega) rfl rfl dX8_peg_209 rfl ?_
                  exact v_iret C (by decide) (by decide) dX8_peg_210 ⟨congrArg (fun z => some (Value.int z)) (by first | rfl | (simp only [h2, h5, h7, Int32.not_lt.mp h7, h10, h13, h15, Int32.not_lt.mp h15, h18, h20, pM, pU, heldM_45, gvW_45, inW_45, livN_45, sum9_45, sum13_45, pegE, pegR, pegU, bI, pM, pU, n10, n20, n30, n0, if_true, if_false, ite_true, ite_false, not_true_eq_false, not_false_eq_true, and_true, true_and, and_false, false_and, or_true, true_or, or_false, false_or, reduceIte, and_self, or_self, ne_eq, eq_self_iff_true]; first | done | rfl) | (simp [bI, h2, h5, h7, Int32.not_lt.mp h7, h10, h13, h15, Int32.not_lt.mp h15, h18, h20, pM, pU, heldM_45, gvW_45, inW_45, livN_45, sum9_45, sum13_45, pegE, pegR, pegU]; done) | (simp only [pM, pU, heldM_45, gvW_45, inW_45, livN_45, sum9_45, sum13_45, pegE, pegR, pegU, bI, ← Int32.not_le] at *; simp [h2, h5, h7, Int32.not_lt.mp h7, h10, h13, h15, Int32.not_lt.mp h15, h18, h20]; done) | (simp_all [bI, h2, h5, h7, Int32.not_lt.mp h7, h10, h13, h15, Int32.not_lt.mp h15, h18, h20, pM, pU, heldM_45, gvW_45, inW_45, livN_45, sum9_45, sum13_45, pegE, pegR, pegU]; done) | (simp_all [bI, h2, h5, h7, Int32.not_lt.mp h7, h10, h13, h15, Int32.not_lt.mp h15, h18, h20, pM, pU, heldM_45, gvW_45, inW_45, livN_45, sum9_45, sum13_45, pegE, pegR, pegU]; rfl) | (exfalso; omega)), by first | rfl | (simp only [h2, h5, h7, Int32.not_lt.mp h7, h10, h13, h15, Int32.not_lt.mp h15, h18, h20, pM, pU, heldM_45, gvW_45, inW_45, livN_45, sum9_45, sum13_45, pegE, pegR, pegU, bI, pM, pU, n10, n20, n30, n0, if_true, if_false, ite_true, ite_false, not_true_eq_false, not_false_eq_true, and_true, true_and, and_false, false_and, or_true, true_or, or_false, false_or, reduceIte, and_self, or_self, ne_eq, eq_self_iff_true]; first | done | rfl) | (simp [bI, h2, h5, h7, Int32.not_lt.mp h7, h10, h13, h15, Int32.not_lt.mp h15, h18, h20, pM, pU, heldM_45, gvW_45, inW_45, livN_45, sum9_45, sum13_45, pegE, pegR, pegU]; done) | (simp only [pM, pU, heldM_45, gvW_45, inW_45, livN_45, sum9_45, sum13_45, pegE, pegR, pegU, bI, ← Int32.not_le] at *; simp [h2, h5, h7, Int32.not_lt.mp h7, h10, h13, h15, Int32.not_lt.mp h15, h18, h20]; done) | (simp_all [bI, h2, h5, h7, Int32.not_lt.mp h7, h10, h13, h15, Int32.not_lt.mp h15, h18, h20, pM, pU, heldM_45, gvW_45, inW_45, livN_45, sum9_45, sum13_45, pegE, pegR, pegU]; done) | (simp_all [bI, h2, h5, h7, Int32.not_lt.mp h7, h10, h13, h15, Int32.not_lt.mp h15, h18, h20, pM, pU, heldM_45, gvW_45, inW_45, livN_45, sum9_45, sum13_45, pegE, pegR, pegU]; rfl) | (exfalso; omega), by trivial⟩
                · skip
                  refine v_iconst C (v := 3) dX8_peg_105 rfl rfl ?_
                  refine v_goto C (q := 110) dX8_peg_106 rfl ?_
                  refine w_invVr C [.int (3)] 0 0 L_X8_145 (c_X8_holdsTo (s := s) (t := t)  hst hG hL 3) (m0 (s := s) (t := t) (g := G.2.2.1) hL) rfl rfl rfl rfl dX8_peg_110 rfl kx_no (fun h22 => ?_)
                  refine v_ifB_ne C (t := 118) dX8_peg_113 rfl rfl (fun h => absurd h (by decide)) (fun _ => ?_)
                  refine v_iconst C (v := 0) dX8_peg_116 rfl rfl ?_
                  exact v_iret C (by decide) (by decide) dX8_peg_117 ⟨congrArg (fun z => some (Value.int z)) (by first | rfl | (simp only [h2, h5, h7, Int32.not_lt.mp h7, h10, h13, h15, Int32.not_lt.mp h15, h18, eq_true h20, pM, pU, heldM_45, gvW_45, inW_45, livN_45, sum9_45, sum13_45, pegE, pegR, pegU, bI, pM, pU, n10, n20, n30, n0, if_true, if_false, ite_true, ite_false, not_true_eq_false, not_false_eq_true, and_true, true_and, and_false, false_and, or_true, true_or, or_false, false_or, reduceIte, and_self, or_self, ne_eq, eq_self_iff_true]; first | done | rfl) | (simp [bI, h2, h5, h7, Int32.not_lt.mp h7, h10, h13, h15, Int32.not_lt.mp h15, h18, eq_true h20, pM, pU, heldM_45, gvW_45, inW_45, livN_45, sum9_45, sum13_45, pegE, pegR, pegU]; done) | (simp only [pM, pU, heldM_45, gvW_45, inW_45, livN_45, sum9_45, sum13_45, pegE, pegR, pegU, bI, ← Int32.not_le] at *; simp [h2, h5, h7, Int32.not_lt.mp h7, h10, h13, h15, Int32.not_lt.mp h15, h18, eq_true h20]; done) | (simp_all [bI, h2, h5, h7, Int32.not_lt.mp h7, h10, h13, h15, Int32.not_lt.mp h15, h18, eq_true h20, pM, pU, heldM_45, gvW_45, inW_45, livN_45, sum9_45, sum13_45, pegE, pegR, pegU]; done) | (simp_all [bI, h2, h5, h7, Int32.not_lt.mp h7, h10, h13, h15, Int32.not_lt.mp h15, h18, eq_true h20, pM, pU, heldM_45, gvW_45, inW_45, livN_45, sum9_45, sum13_45, pegE, pegR, pegU]; rfl) | (exfalso; omega)), by first | rfl | (simp only [h2, h5, h7, Int32.not_lt.mp h7, h10, h13, h15, Int32.not_lt.mp h15, h18, eq_true h20, pM, pU, heldM_45, gvW_45, inW_45, livN_45, sum9_45, sum13_45, pegE, pegR, pegU, bI, pM, pU, n10, n20, n30, n0, if_true, if_false, ite_true, ite_false, not_true_eq_false, not_false_eq_true, and_true, true_and, and_false, false_and, or_true, true_or, or_false, false_or, reduceIte, and_self, or_self, ne_eq, eq_self_iff_true]; first | done | rfl) | (simp [bI, h2, h5, h7, Int32.not_lt.mp h7, h10, h13, h15, Int32.not_lt.mp h15, h18, eq_true h20, pM, pU, heldM_45, gvW_45, inW_45, livN_45, sum9_45, sum13_45, pegE, pegR, pegU]; done) | (simp only [pM, pU, heldM_45, gvW_45, inW_45, livN_45, sum9_45, sum13_45, pegE, pegR, pegU, bI, ← Int32.not_le] at *; simp [h2, h5, h7, Int32.not_lt.mp h7, h10, h13, h15, Int32.not_lt.mp h15, h18, eq_true h20]; done) | (simp_all [bI, h2, h5, h7, Int32.not_lt.mp h7, h10, h13, h15, Int32.not_lt.mp h15, h18, eq_true h20, pM, pU, heldM_45, gvW_45, inW_45, livN_45, sum9_45, sum13_45, pegE, pegR, pegU]; done) | (simp_all [bI, h2, h5, h7, Int32.not_lt.mp h7, h10, h13, h15, Int32.not_lt.mp h15, h18, eq_true h20, pM, pU, heldM_45, gvW_45, inW_45, livN_45, sum9_45, sum13_45, pegE, pegR, pegU]; rfl) | (exfalso; omega), by trivial⟩

abbrev r_X8_work : Room := { frames := 3, cells := 0, slots := 0, locals := 69 }
set_option maxRecDepth 4000 in
theorem c_X8_work {l : Launch} {G : GG} {a : AD} {s t s0 : SS} {L : List (Nat × Nat)} {nm : Nat} {nc : Nat} {nr : Nat} (hst : l.stackTraces = false) (hG : GOK G) (hL : Live L s0) (x : Int32) (c : Int32) (m : Int32) (hm : t 12 0 = nI nm) (hm12 : nm ≤ 12) (hc : t 21 0 = nI nc) (hc30 : nc ≤ 30) (hr : t 33 0 = nI nr) (hr20 : nr ≤ 20) (hro : ∀ i, i < nr → vp_in (t 34 i) 12) : Mth l yX8_work cX8_work 9 (Option.some Jvm.ClassFile.FieldType.int) r_X8_work G (wl a (E G.2.2.1 a s t) L) [.ref (a 0 0), .int x, .int c, .int m] (RI (.int (pM (workE t nm nc nr x c m) (workR t nm nc nr x c m))) (wl a (E G.2.2.1 a s (pU (workE t nm nc nr x c m) (workU (su t 45 0 0) nm nc nr x c m) t)) L) (True)) nX := by
  refine mth_of rfl (Nat.le_of_ble_eq_true rfl) hst hG (fun X hX C0 => ?_)
  subst hX
  have C : Cx X G cX8_work 9 RX8 (Option.some Jvm.ClassFile.FieldType.int) r_X8_work "work" [] := C0
  clear C0
  show V X G 9 _ 0 0 _ 0 [(0, .ref (a 0 0)), (1, .int (x)), (2, .int (c)), (3, .int (m))] []
  refine v_aload_n C dX8_work_0 rfl 0 rfl ?_
  refine v_iload_n C dX8_work_1 rfl 1 rfl ?_
  refine w_invVr C [.int (x)] 0 0 L_X8_176 (c_X8_isMiner (s := s) (t := t)  hst hG hL x) (m0 (s := s) (t := t) (g := G.2.2.1) hL) rfl rfl rfl rfl dX8_work_2 rfl kx_no (fun h1 => ?_)
  refine v_ifB_eq C (t := 19) dX8_work_5 rfl rfl (fun h2 => ?_) (fun h2 => ?_)
  · skip
    refine v_iconst C (v := 0) dX8_work_19 rfl rfl ?_
    refine v_istore C (lv1 := [(4, .int (0)), (0, .ref (a 0 0)), (1, .int (x)), (2, .int (c)), (3, .int (m))]) dX8_work_20 rfl (by decide) rfl ?_
    refine v_iload C dX8_work_22 rfl 0 rfl ?_
    refine v_if_eq C (t := 38) dX8_work_24 rfl rfl (fun _ => ?_) (fun h => absurd h (by decide))
    refine v_iconst C (v := 0) dX8_work_38 rfl rfl ?_
    refine v_istore C (lv1 := [(5, .int (0)), (4, .int (0)), (0, .ref (a 0 0)), (1, .int (x)), (2, .int (c)), (3, .int (m))]) dX8_work_39 rfl (by decide) rfl ?_
    refine v_iload C dX8_work_41 rfl 0 rfl ?_
    refine v_if_eq C (t := 93) dX8_work_43 rfl rfl (fun _ => ?_) (fun h => absurd h (by decide))
    refine v_iconst C (v := 0) dX8_work_93 rfl rfl ?_
    refine v_istore C (lv1 := [(6, .int (0)), (5, .int (0)), (4, .int (0)), (0, .ref (a 0 0)), (1, .int (x)), (2, .int (c)), (3, .int (m))]) dX8_work_94 rfl (by decide) rfl ?_
    refine v_aload_n C dX8_work_96 rfl 3 rfl ?_
    refine v_iload C dX8_work_97 rfl 2 rfl ?_
    refine v_if_ne C (t := 106) dX8_work_99 rfl rfl (fun h => absurd h (by decide)) (fun _ => ?_)
    refine v_iconst C (v := 1) dX8_work_102 rfl rfl ?_
    refine v_goto C (q := 125) dX8_work_103 rfl ?_
    refine w_invVr C [.int (1)] 0 0 L_X8_145 (c_X8_holdsTo (s := s) (t := t)  hst hG hL 1) (m0 (s := s) (t := t) (g := G.2.2.1) hL) rfl rfl rfl rfl dX8_work_125 rfl kx_no (fun h3 => ?_)
    refine v_ifB_ne C (t := 133) dX8_work_128 rfl rfl (fun h => absurd h (by decide)) (fun _ => ?_)
    refine v_iconst C (v := 0) dX8_work_131 rfl rfl ?_
    exact v_iret C (by decide) (by decide) dX8_work_132 ⟨congrArg (fun z => some (Value.int z)) (by first | rfl | (simp only [h2, pM, pU, heldM_45, gvW_45, inW_45, livN_45, sum9_45, sum13_45, workE, workR, workU, wkE, digF, s45_9, s45_10, s45_0, s45_6, bI, pM, pU, n10, n20, n30, n0, if_true, if_false, ite_true, ite_false, not_true_eq_false, not_false_eq_true, and_true, true_and, and_false, false_and, or_true, true_or, or_false, false_or, reduceIte, and_self, or_self, ne_eq, eq_self_iff_true]; first | done | rfl) | (simp [bI, h2, pM, pU, heldM_45, gvW_45, inW_45, livN_45, sum9_45, sum13_45, workE, workR, workU, wkE, digF, s45_9, s45_10, s45_0, s45_6]; done) | (simp only [pM, pU, heldM_45, gvW_45, inW_45, livN_45, sum9_45, sum13_45, workE, workR, workU, wkE, digF, s45_9, s45_10, s45_0, s45_6, bI, ← Int32.not_le] at *; simp [h2]; done) | (simp_all [bI, h2, pM, pU, heldM_45, gvW_45, inW_45, livN_45, sum9_45, sum13_45, workE, workR, workU, wkE, digF, s45_9, s45_10, s45_0, s45_6]; done) | (simp_all [bI, h2, pM, pU, heldM_45, gvW_45, inW_45, livN_45, sum9_45, sum13_45, workE, workR, workU, wkE, digF, s45_9, s45_10, s45_0, s45_6]; rfl) | (exfalso; omega)), by first | rfl | (simp only [h2, pM, pU, heldM_45, gvW_45, inW_45, livN_45, sum9_45, sum13_45, workE, workR, workU, wkE, digF, s45_9, s45_10, s45_0, s45_6, bI, pM, pU, n10, n20, n30, n0, if_true, if_false, ite_true, ite_false, not_true_eq_false, not_false_eq_true, and_true, true_and, and_false, false_and, or_true, true_or, or_false, false_or, reduceIte, and_self, or_self, ne_eq, eq_self_iff_true]; first | done | rfl) | (simp [bI, h2, pM, pU, heldM_45, gvW_45, inW_45, livN_45, sum9_45, sum13_45, workE, workR, workU, wkE, digF, s45_9, s45_10, s45_0, s45_6]; done) | (simp only [pM, pU, heldM_45, gvW_45, inW_45, livN_45, sum9_45, sum13_45, workE, workR, workU, wkE, digF, s45_9, s45_10, s45_0, s45_6, bI, ← Int32.not_le] at *; simp [h2]; done) | (simp_all [bI, h2, pM, pU, heldM_45, gvW_45, inW_45, livN_45, sum9_45, sum13_45, workE, workR, workU, wkE, digF, s45_9, s45_10, s45_0, s45_6]; done) | (simp_all [bI, h2, pM, pU, heldM_45, gvW_45, inW_45, livN_45, sum9_45, sum13_45, workE, workR, workU, wkE, digF, s45_9, s45_10, s45_0, s45_6]; rfl) | (exfalso; omega), by trivial⟩
  · skip
    refine v_iload_n C dX8_work_8 rfl 2 rfl ?_
    refine w_invSr C [.int (c)] 0 0 L_X8_134 (c_X8_isCell (s := s) (t := t)  hst hG hL c) rfl rfl rfl dX8_work_9 rfl kx_no (fun h4 => ?_)
    refine v_ifB_eq C (t := 19) dX8_work_12 rfl rfl (fun h5 => ?_) (fun h5 => ?_)
    · skip
      refine v_iconst C (v := 0) dX8_work_19 rfl rfl ?_
      refine v_istore C (lv1 := [(4, .int (0)), (0, .ref (a 0 0)), (1, .int (x)), (2, .int (c)), (3, .int (m))]) dX8_work_20 rfl (by decide) rfl ?_
      refine v_iload C dX8_work_22 rfl 0 rfl ?_
      refine v_if_eq C (t := 38) dX8_work_24 rfl rfl (fun _ => ?_) (fun h => absurd h (by decide))
      refine v_iconst C (v := 0) dX8_work_38 rfl rfl ?_
      refine v_istore C (lv1 := [(5, .int (0)), (4, .int (0)), (0, .ref (a 0 0)), (1, .int (x)), (2, .int (c)), (3, .int (m))]) dX8_work_39 rfl (by decide) rfl ?_
      refine v_iload C dX8_work_41 rfl 0 rfl ?_
      refine v_if_eq C (t := 93) dX8_work_43 rfl rfl (fun _ => ?_) (fun h => absurd h (by decide))
      refine v_iconst C (v := 0) dX8_work_93 rfl rfl ?_
      refine v_istore C (lv1 := [(6, .int (0)), (5, .int (0)), (4, .int (0)), (0, .ref (a 0 0)), (1, .int (x)), (2, .int (c)), (3, .int (m))]) dX8_work_94 rfl (by decide) rfl ?_
      refine v_aload_n C dX8_work_96 rfl 3 rfl ?_
      refine v_iload C dX8_work_97 rfl 2 rfl ?_
      refine v_if_ne C (t := 106) dX8_work_99 rfl rfl (fun h => absurd h (by decide)) (fun _ => ?_)
      refine v_iconst C (v := 1) dX8_work_102 rfl rfl ?_
      refine v_goto C (q := 125) dX8_work_103 rfl ?_
      refine w_invVr C [.int (1)] 0 0 L_X8_145 (c_X8_holdsTo (s := s) (t := t)  hst hG hL 1) (m0 (s := s) (t := t) (g := G.2.2.1) hL) rfl rfl rfl rfl dX8_work_125 rfl kx_no (fun h6 => ?_)
      refine v_ifB_ne C (t := 133) dX8_work_128 rfl rfl (fun h => absurd h (by decide)) (fun _ => ?_)
      refine v_iconst C (v := 0) dX8_work_131 rfl rfl ?_
      exact v_iret C (by decide) (by decide) dX8_work_132 ⟨congrArg (fun z => some (Value.int z)) (by first | rfl | (simp only [h2, h5, pM, pU, heldM_45, gvW_45, inW_45, livN_45, sum9_45, sum13_45, workE, workR, workU, wkE, digF, s45_9, s45_10, s45_0, s45_6, bI, pM, pU, n10, n20, n30, n0, if_true, if_false, ite_true, ite_false, not_true_eq_false, not_false_eq_true, and_true, true_and, and_false, false_and, or_true, true_or, or_false, false_or, reduceIte, and_self, or_self, ne_eq, eq_self_iff_true]; first | done | rfl) | (simp [bI, h2, h5, pM, pU, heldM_45, gvW_45, inW_45, livN_45, sum9_45, sum13_45, workE, workR, workU, wkE, digF, s45_9, s45_10, s45_0, s45_6]; done) | (simp only [pM, pU, heldM_45, gvW_45, inW_45, livN_45, sum9_45, sum13_45, workE, workR, workU, wkE, digF, s45_9, s45_10, s45_0, s45_6, bI, ← Int32.not_le] at *; simp [h2, h5]; done) | (simp_all [bI, h2, h5, pM, pU, heldM_45, gvW_45, inW_45, livN_45, sum9_45, sum13_45, workE, workR, workU, wkE, digF, s45_9, s45_10, s45_0, s45_6]; done) | (simp_all [bI, h2, h5, pM, pU, heldM_45, gvW_45, inW_45, livN_45, sum9_45, sum13_45, workE, workR, workU, wkE, digF, s45_9, s45_10, s45_0, s45_6]; rfl) | (exfalso; omega)), by first | rfl | (simp only [h2, h5, pM, pU, heldM_45, gvW_45, inW_45, livN_45, sum9_45, sum13_45, workE, workR, workU, wkE, digF, s45_9, s45_10, s45_0, s45_6, bI, pM, pU, n10, n20, n30, n0, if_true, if_false, ite_true, ite_false, not_true_eq_false, not_false_eq_true, and_true, true_and, and_false, false_and, or_true, true_or, or_false, false_or, reduceIte, and_self, or_self, ne_eq, eq_self_iff_true]; first | done | rfl) | (simp [bI, h2, h5, pM, pU, heldM_45, gvW_45, inW_45, livN_45, sum9_45, sum13_45, workE, workR, workU, wkE, digF, s45_9, s45_10, s45_0, s45_6]; done) | (simp only [pM, pU, heldM_45, gvW_45, inW_45, livN_45, sum9_45, sum13_45, workE, workR, workU, wkE, digF, s45_9, s45_10, s45_0, s45_6, bI, ← Int32.not_le] at *; simp [h2, h5]; done) | (simp_all [bI, h2, h5, pM, pU, heldM_45, gvW_45, inW_45, livN_45, sum9_45, sum13_45, workE, workR, workU, wkE, digF, s45_9, s45_10, s45_0, s45_6]; done) | (simp_all [bI, h2, h5, pM, pU, heldM_45, gvW_45, inW_45, livN_45, sum9_45, sum13_45, workE, workR, workU, wkE, digF, s45_9, s45_10, s45_0, s45_6]; rfl) | (exfalso; omega), by trivial⟩
    · skip
      refine v_iconst C (v := 1) dX8_work_15 rfl rfl ?_
      refine v_goto C (q := 20) dX8_work_16 rfl ?_
      refine v_istore C (lv1 := [(4, .int (1)), (0, .ref (a 0 0)), (1, .int (x)), (2, .int (c)), (3, .int (m))]) dX8_work_20 rfl (by decide) rfl ?_
      refine v_iload C dX8_work_22 rfl 0 rfl ?_
      refine v_if_eq C (t := 38) dX8_work_24 rfl rfl (fun h => absurd h (by decide)) (fun _ => ?_)
      refine v_iload_n C dX8_work_27 rfl 4 rfl ?_
      refine w_invSr C [.int (m)] 0 0 L_X8_189 (c_X8_isMethod (s := s) (t := t)  hst hG hL m) rfl rfl rfl dX8_work_28 rfl kx_no (fun h7 => ?_)
      refine v_ifB_eq C (t := 38) dX8_work_31 rfl rfl (fun h8 => ?_) (fun h8 => ?_)
      · skip
        refine v_iconst C (v := 0) dX8_work_38 rfl rfl ?_
        refine v_istore C (lv1 := [(5, .int (0)), (4, .int (1)), (0, .ref (a 0 0)), (1, .int (x)), (2, .int (c)), (3, .int (m))]) dX8_work_39 rfl (by decide) rfl ?_
        refine v_iload C dX8_work_41 rfl 0 rfl ?_
        refine v_if_eq C (t := 93) dX8_work_43 rfl rfl (fun _ => ?_) (fun h => absurd h (by decide))
        refine v_iconst C (v := 0) dX8_work_93 rfl rfl ?_
        refine v_istore C (lv1 := [(6, .int (0)), (5, .int (0)), (4, .int (1)), (0, .ref (a 0 0)), (1, .int (x)), (2, .int (c)), (3, .int (m))]) dX8_work_94 rfl (by decide) rfl ?_
        refine v_aload_n C dX8_work_96 rfl 3 rfl ?_
        refine v_iload C dX8_work_97 rfl 2 rfl ?_
        refine v_if_ne C (t := 106) dX8_work_99 rfl rfl (fun _ => ?_) (fun h => absurd h (by decide))
        refine v_iload C dX8_work_106 rfl 1 rfl ?_
        refine v_if_ne C (t := 115) dX8_work_108 rfl rfl (fun h => absurd h (by decide)) (fun _ => ?_)
        refine v_iconst C (v := 2) dX8_work_111 rfl rfl ?_
        refine v_goto C (q := 125) dX8_work_112 rfl ?_
        refine w_invVr C [.int (2)] 0 0 L_X8_145 (c_X8_holdsTo (s := s) (t := t)  hst hG hL 2) (m0 (s := s) (t := t) (g := G.2.2.1) hL) rfl rfl rfl rfl dX8_work_125 rfl kx_no (fun h9 => ?_)
        refine v_ifB_ne C (t := 133) dX8_work_128 rfl rfl (fun h => absurd h (by decide)) (fun _ => ?_)
        refine v_iconst C (v := 0) dX8_work_131 rfl rfl ?_
        exact v_iret C (by decide) (by decide) dX8_work_132 ⟨congrArg (fun z => some (Value.int z)) (by first | rfl | (simp only [h2, h5, h8, pM, pU, heldM_45, gvW_45, inW_45, livN_45, sum9_45, sum13_45, workE, workR, workU, wkE, digF, s45_9, s45_10, s45_0, s45_6, bI, pM, pU, n10, n20, n30, n0, if_true, if_false, ite_true, ite_false, not_true_eq_false, not_false_eq_true, and_true, true_and, and_false, false_and, or_true, true_or, or_false, false_or, reduceIte, and_self, or_self, ne_eq, eq_self_iff_true]; first | done | rfl) | (simp [bI, h2, h5, h8, pM, pU, heldM_45, gvW_45, inW_45, livN_45, sum9_45, sum13_45, workE, workR, workU, wkE, digF, s45_9, s45_10, s45_0, s45_6]; done) | (simp only [pM, pU, heldM_45, gvW_45, inW_45, livN_45, sum9_45, sum13_45, workE, workR, workU, wkE, digF, s45_9, s45_10, s45_0, s45_6, bI, ← Int32.not_le] at *; simp [h2, h5, h8]; done) | (simp_all [bI, h2, h5, h8, pM, pU, heldM_45, gvW_45, inW_45, livN_45, sum9_45, sum13_45, workE, workR, workU, wkE, digF, s45_9, s45_10, s45_0, s45_6]; done) | (simp_all [bI, h2, h5, h8, pM, pU, heldM_45, gvW_45, inW_45, livN_45, sum9_45, sum13_45, workE, workR, workU, wkE, digF, s45_9, s45_10, s45_0, s45_6]; rfl) | (exfalso; omega)), by first | rfl | (simp only [h2, h5, h8, pM, pU, heldM_45, gvW_45, inW_45, livN_45, sum9_45, sum13_45, workE, workR, workU, wkE, digF, s45_9, s45_10, s45_0, s45_6, bI, pM, pU, n10, n20, n30, n0, if_true, if_false, ite_true, ite_false, not_true_eq_false, not_false_eq_true, and_true, true_and, and_false, false_and, or_true, true_or, or_false, false_or, reduceIte, and_self, or_self, ne_eq, eq_self_iff_true]; first | done | rfl) | (simp [bI, h2, h5, h8, pM, pU, heldM_45, gvW_45, inW_45, livN_45, sum9_45, sum13_45, workE, workR, workU, wkE, digF, s45_9, s45_10, s45_0, s45_6]; done) | (simp only [pM, pU, heldM_45, gvW_45, inW_45, livN_45, sum9_45, sum13_45, workE, workR, workU, wkE, digF, s45_9, s45_10, s45_0, s45_6, bI, ← Int32.not_le] at *; simp [h2, h5, h8]; done) | (simp_all [bI, h2, h5, h8, pM, pU, heldM_45, gvW_45, inW_45, livN_45, sum9_45, sum13_45, workE, workR, workU, wkE, digF, s45_9, s45_10, s45_0, s45_6]; done) | (simp_all [bI, h2, h5, h8, pM, pU, heldM_45, gvW_45, inW_45, livN_45, sum9_45, sum13_45, workE, workR, workU, wkE, digF, s45_9, s45_10, s45_0, s45_6]; rfl) | (exfalso; omega), by trivial⟩
      · skip
        refine v_iconst C (v := 1) dX8_work_34 rfl rfl ?_
        refine v_goto C (q := 39) dX8_work_35 rfl ?_
        refine v_istore C (lv1 := [(5, .int (1)), (4, .int (1)), (0, .ref (a 0 0)), (1, .int (x)), (2, .int (c)), (3, .int (m))]) dX8_work_39 rfl (by decide) rfl ?_
        refine v_iload C dX8_work_41 rfl 0 rfl ?_
        refine v_if_eq C (t := 93) dX8_work_43 rfl rfl (fun h => absurd h (by decide)) (fun _ => ?_)
        refine v_aload_n C dX8_work_46 rfl 2 rfl ?_
        refine v_iload_n C dX8_work_47 rfl 3 rfl ?_
        refine w_invVr C [.int (x)] 0 0 L_X8_155 (c_X8_isDead (s := s) (t := t)  hst hG hL x _ (in_nI (N := 12) (vp_cnt (by assumption) hm hm12 (by decide)) (by omega)) (in_lt (N := 12) (vp_cnt (by assumption) hm hm12 (by decide)))) (m0 (s := s) (t := t) (g := G.2.2.1) hL) rfl rfl rfl rfl dX8_work_48 rfl kx_no (fun h10 => ?_)
        refine v_ifB_ne C (t := 93) dX8_work_51 rfl rfl (fun h11 => ?_) (fun h11 => ?_)
        · skip
          refine v_iconst C (v := 0) dX8_work_93 rfl rfl ?_
          refine v_istore C (lv1 := [(6, .int (0)), (5, .int (1)), (4, .int (1)), (0, .ref (a 0 0)), (1, .int (x)), (2, .int (c)), (3, .int (m))]) dX8_work_94 rfl (by decide) rfl ?_
          refine v_aload_n C dX8_work_96 rfl 3 rfl ?_
          refine v_iload C dX8_work_97 rfl 2 rfl ?_
          refine v_if_ne C (t := 106) dX8_work_99 rfl rfl (fun _ => ?_) (fun h => absurd h (by decide))
          refine v_iload C dX8_work_106 rfl 1 rfl ?_
          refine v_if_ne C (t := 115) dX8_work_108 rfl rfl (fun _ => ?_) (fun h => absurd h (by decide))
          refine v_iload C dX8_work_115 rfl 0 rfl ?_
          refine v_if_eq C (t := 124) dX8_work_117 rfl rfl (fun _ => ?_) (fun h => absurd h (by decide))
          refine v_iconst C (v := 3) dX8_work_124 rfl rfl ?_
          refine w_invVr C [.int (3)] 0 0 L_X8_145 (c_X8_holdsTo (s := s) (t := t)  hst hG hL 3) (m0 (s := s) (t := t) (g := G.2.2.1) hL) rfl rfl rfl rfl dX8_work_125 rfl kx_no (fun h12 => ?_)
          refine v_ifB_ne C (t := 133) dX8_work_128 rfl rfl (fun h => absurd h (by decide)) (fun _ => ?_)
          refine v_iconst C (v := 0) dX8_work_131 rfl rfl ?_
          exact v_iret C (by decide) (by decide) dX8_work_132 ⟨congrArg (fun z => some (Value.int z)) (by first | rfl | (simp only [h2, h5, h8, eq_true h11, pM, pU, heldM_45, gvW_45, inW_45, livN_45, sum9_45, sum13_45, workE, workR, workU, wkE, digF, s45_9, s45_10, s45_0, s45_6, bI, pM, pU, n10, n20, n30, n0, if_true, if_false, ite_true, ite_false, not_true_eq_false, not_false_eq_true, and_true, true_and, and_false, false_and, or_true, true_or, or_false, false_or, reduceIte, and_self, or_self, ne_eq, eq_self_iff_true]; first | done | rfl) | (simp [bI, h2, h5, h8, eq_true h11, pM, pU, heldM_45, gvW_45, inW_45, livN_45, sum9_45, sum13_45, workE, workR, workU, wkE, digF, s45_9, s45_10, s45_0, s45_6]; done) | (simp only [pM, pU, heldM_45, gvW_45, inW_45, livN_45, sum9_45, sum13_45, workE, workR, workU, wkE, digF, s45_9, s45_10, s45_0, s45_6, bI, ← Int32.not_le] at *; simp [h2, h5, h8, eq_true h11]; done) | (simp_all [bI, h2, h5, h8, eq_true h11, pM, pU, heldM_45, gvW_45, inW_45, livN_45, sum9_45, sum13_45, workE, workR, workU, wkE, digF, s45_9, s45_10, s45_0, s45_6]; done) | (simp_all [bI, h2, h5, h8, eq_true h11, pM, pU, heldM_45, gvW_45, inW_45, livN_45, sum9_45, sum13_45, workE, workR, workU, wkE, digF, s45_9, s45_10, s45_0, s45_6]; rfl) | (exfalso; omega)), by first | rfl | (simp only [h2, h5, h8, eq_true h11, pM, pU, heldM_45, gvW_45, inW_45, livN_45, sum9_45, sum13_45, workE, workR, workU, wkE, digF, s45_9, s45_10, s45_0, s45_6, bI, pM, pU, n10, n20, n30, n0, if_true, if_false, ite_true, ite_false, not_true_eq_false, not_false_eq_true, and_true, true_and, and_false, false_and, or_true, true_or, or_false, false_or, reduceIte, and_self, or_self, ne_eq, eq_self_iff_true]; first | done | rfl) | (simp [bI, h2, h5, h8, eq_true h11, pM, pU, heldM_45, gvW_45, inW_45, livN_45, sum9_45, sum13_45, workE, workR, workU, wkE, digF, s45_9, s45_10, s45_0, s45_6]; done) | (simp only [pM, pU, heldM_45, gvW_45, inW_45, livN_45, sum9_45, sum13_45, workE, workR, workU, wkE, digF, s45_9, s45_10, s45_0, s45_6, bI, ← Int32.not_le] at *; simp [h2, h5, h8, eq_true h11]; done) | (simp_all [bI, h2, h5, h8, eq_true h11, pM, pU, heldM_45, gvW_45, inW_45, livN_45, sum9_45, sum13_45, workE, workR, workU, wkE, digF, s45_9, s45_10, s45_0, s45_6]; done) | (simp_all [bI, h2, h5, h8, eq_true h11, pM, pU, heldM_45, gvW_45, inW_45, livN_45, sum9_45, sum13_45, workE, workR, workU, wkE, digF, s45_9, s45_10, s45_0, s45_6]; rfl) | (exfalso; omega), by trivial⟩
        · skip
          refine v_aload_n C dX8_work_54 rfl 2 rfl ?_
          refine v_get C (v := .ref (a 1 19)) g_X8_53 (m0 (s := s) (t := t) (g := G.2.2.1) hL) (rg (by decide) rfl) dX8_work_55 rfl ?_
          refine v_iload_n C dX8_work_58 rfl 3 rfl ?_
          refine v_iald C (len := 12) (m1 (s := s) (t := t) (g := G.2.2.1) hL 19 rfl) (vp_cnt (by assumption) hm hm12 (by decide)) dX8_work_59 rfl ?_
          refine v_aload_n C dX8_work_60 rfl 2 rfl ?_
          refine v_get C (v := .int (t 0 0)) g_X8_138 (m0 (s := s) (t := t) (g := G.2.2.1) hL) (rg (by decide) rfl) dX8_work_61 rfl ?_
          refine v_icmp_eq C (t := 93) dX8_work_64 rfl rfl (fun h13 => ?_) (fun h13 => ?_)
          · skip
            refine v_iconst C (v := 0) dX8_work_93 rfl rfl ?_
            refine v_istore C (lv1 := [(6, .int (0)), (5, .int (1)), (4, .int (1)), (0, .ref (a 0 0)), (1, .int (x)), (2, .int (c)), (3, .int (m))]) dX8_work_94 rfl (by decide) rfl ?_
            refine v_aload_n C dX8_work_96 rfl 3 rfl ?_
            refine v_iload C dX8_work_97 rfl 2 rfl ?_
            refine v_if_ne C (t := 106) dX8_work_99 rfl rfl (fun _ => ?_) (fun h => absurd h (by decide))
            refine v_iload C dX8_work_106 rfl 1 rfl ?_
            refine v_if_ne C (t := 115) dX8_work_108 rfl rfl (fun _ => ?_) (fun h => absurd h (by decide))
            refine v_iload C dX8_work_115 rfl 0 rfl ?_
            refine v_if_eq C (t := 124) dX8_work_117 rfl rfl (fun _ => ?_) (fun h => absurd h (by decide))
            refine v_iconst C (v := 3) dX8_work_124 rfl rfl ?_
            refine w_invVr C [.int (3)] 0 0 L_X8_145 (c_X8_holdsTo (s := s) (t := t)  hst hG hL 3) (m0 (s := s) (t := t) (g := G.2.2.1) hL) rfl rfl rfl rfl dX8_work_125 rfl kx_no (fun h14 => ?_)
            refine v_ifB_ne C (t := 133) dX8_work_128 rfl rfl (fun h => absurd h (by decide)) (fun _ => ?_)
            refine v_iconst C (v := 0) dX8_work_131 rfl rfl ?_
            exact v_iret C (by decide) (by decide) dX8_work_132 ⟨congrArg (fun z => some (Value.int z)) (by first | rfl | (simp only [h2, h5, h8, h11, eq_true h13, pM, pU, heldM_45, gvW_45, inW_45, livN_45, sum9_45, sum13_45, workE, workR, workU, wkE, digF, s45_9, s45_10, s45_0, s45_6, bI, pM, pU, n10, n20, n30, n0, if_true, if_false, ite_true, ite_false, not_true_eq_false, not_false_eq_true, and_true, true_and, and_false, false_and, or_true, true_or, or_false, false_or, reduceIte, and_self, or_self, ne_eq, eq_self_iff_true]; first | done | rfl) | (simp [bI, h2, h5, h8, h11, eq_true h13, pM, pU, heldM_45, gvW_45, inW_45, livN_45, sum9_45, sum13_45, workE, workR, workU, wkE, digF, s45_9, s45_10, s45_0, s45_6]; done) | (simp only [pM, pU, heldM_45, gvW_45, inW_45, livN_45, sum9_45, sum13_45, workE, workR, workU, wkE, digF, s45_9, s45_10, s45_0, s45_6, bI, ← Int32.not_le] at *; simp [h2, h5, h8, h11, eq_true h13]; done) | (simp_all [bI, h2, h5, h8, h11, eq_true h13, pM, pU, heldM_45, gvW_45, inW_45, livN_45, sum9_45, sum13_45, workE, workR, workU, wkE, digF, s45_9, s45_10, s45_0, s45_6]; done) | (simp_all [bI, h2, h5, h8, h11, eq_true h13, pM, pU, heldM_45, gvW_45, inW_45, livN_45, sum9_45, sum13_45, workE, workR, workU, wkE, digF, s45_9, s45_10, s45_0, s45_6]; rfl) | (exfalso; omega)), by first | rfl | (simp only [h2, h5, h8, h11, eq_true h13, pM, pU, heldM_45, gvW_45, inW_45, livN_45, sum9_45, sum13_45, workE, workR, workU, wkE, digF, s45_9, s45_10, s45_0, s45_6, bI, pM, pU, n10, n20, n30, n0, if_true, if_false, ite_true, ite_false, not_true_eq_false, not_false_eq_true, and_true, true_and, and_false, false_and, or_true, true_or, or_false, false_or, reduceIte, and_self, or_self, ne_eq, eq_self_iff_true]; first | done | rfl) | (simp [bI, h2, h5, h8, h11, eq_true h13, pM, pU, heldM_45, gvW_45, inW_45, livN_45, sum9_45, sum13_45, workE, workR, workU, wkE, digF, s45_9, s45_10, s45_0, s45_6]; done) | (simp only [pM, pU, heldM_45, gvW_45, inW_45, livN_45, sum9_45, sum13_45, workE, workR, workU, wkE, digF, s45_9, s45_10, s45_0, s45_6, bI, ← Int32.not_le] at *; simp [h2, h5, h8, h11, eq_true h13]; done) | (simp_all [bI, h2, h5, h8, h11, eq_true h13, pM, pU, heldM_45, gvW_45, inW_45, livN_45, sum9_45, sum13_45, workE, workR, workU, wkE, digF, s45_9, s45_10, s45_0, s45_6]; done) | (simp_all [bI, h2, h5, h8, h11, eq_true h13, pM, pU, heldM_45, gvW_45, inW_45, livN_45, sum9_45, sum13_45, workE, workR, workU, wkE, digF, s45_9, s45_10, s45_0, s45_6]; rfl) | (exfalso; omega), by trivial⟩
          · skip
            refine v_aload_n C dX8_work_67 rfl 2 rfl ?_
            refine v_iload_n C dX8_work_68 rfl 3 rfl ?_
            refine v_iload_n C dX8_work_69 rfl 4 rfl ?_
            refine v_iload_n C dX8_work_70 rfl 5 rfl ?_
            refine w_invVr C [.int (x), .int (c), .int (m)] 0 0 L_X8_192 (c_X8_mayWork (s := s) (t := t) (nc := nc) hst hG hL x c m hc hc30) (m0 (s := s) (t := t) (g := G.2.2.1) hL) rfl rfl rfl rfl dX8_work_71 rfl kx_no (fun h15 => ?_)
            refine v_if_eq C (t := 93) dX8_work_74 rfl rfl (fun h16 => ?_) (fun h16 => ?_)
            · skip
              refine v_iconst C (v := 0) dX8_work_93 rfl rfl ?_
              refine v_istore C (lv1 := [(6, .int (0)), (5, .int (1)), (4, .int (1)), (0, .ref (a 0 0)), (1, .int (x)), (2, .int (c)), (3, .int (m))]) dX8_work_94 rfl (by decide) rfl ?_
              refine v_aload_n C dX8_work_96 rfl 3 rfl ?_
              refine v_iload C dX8_work_97 rfl 2 rfl ?_
              refine v_if_ne C (t := 106) dX8_work_99 rfl rfl (fun _ => ?_) (fun h => absurd h (by decide))
              refine v_iload C dX8_work_106 rfl 1 rfl ?_
              refine v_if_ne C (t := 115) dX8_work_108 rfl rfl (fun _ => ?_) (fun h => absurd h (by decide))
              refine v_iload C dX8_work_115 rfl 0 rfl ?_
              refine v_if_eq C (t := 124) dX8_work_117 rfl rfl (fun _ => ?_) (fun h => absurd h (by decide))
              refine v_iconst C (v := 3) dX8_work_124 rfl rfl ?_
              refine w_invVr C [.int (3)] 0 0 L_X8_145 (c_X8_holdsTo (s := s) (t := t)  hst hG hL 3) (m0 (s := s) (t := t) (g := G.2.2.1) hL) rfl rfl rfl rfl dX8_work_125 rfl kx_no (fun h17 => ?_)
              refine v_ifB_ne C (t := 133) dX8_work_128 rfl rfl (fun h => absurd h (by decide)) (fun _ => ?_)
              refine v_iconst C (v := 0) dX8_work_131 rfl rfl ?_
              exact v_iret C (by decide) (by decide) dX8_work_132 ⟨congrArg (fun z => some (Value.int z)) (by first | rfl | (simp only [h2, h5, h8, h11, h13, eq_true h16, pM, pU, heldM_45, gvW_45, inW_45, livN_45, sum9_45, sum13_45, workE, workR, workU, wkE, digF, s45_9, s45_10, s45_0, s45_6, bI, pM, pU, n10, n20, n30, n0, if_true, if_false, ite_true, ite_false, not_true_eq_false, not_false_eq_true, and_true, true_and, and_false, false_and, or_true, true_or, or_false, false_or, reduceIte, and_self, or_self, ne_eq, eq_self_iff_true]; first | done | rfl) | (simp [bI, h2, h5, h8, h11, h13, eq_true h16, pM, pU, heldM_45, gvW_45, inW_45, livN_45, sum9_45, sum13_45, workE, workR, workU, wkE, digF, s45_9, s45_10, s45_0, s45_6]; done) | (simp only [pM, pU, heldM_45, gvW_45, inW_45, livN_45, sum9_45, sum13_45, workE, workR, workU, wkE, digF, s45_9, s45_10, s45_0, s45_6, bI, ← Int32.not_le] at *; simp [h2, h5, h8, h11, h13, eq_true h16]; done) | (simp_all [bI, h2, h5, h8, h11, h13, eq_true h16, pM, pU, heldM_45, gvW_45, inW_45, livN_45, sum9_45, sum13_45, workE, workR, workU, wkE, digF, s45_9, s45_10, s45_0, s45_6]; done) | (simp_all [bI, h2, h5, h8, h11, h13, eq_true h16, pM, pU, heldM_45, gvW_45, inW_45, livN_45, sum9_45, sum13_45, workE, workR, workU, wkE, digF, s45_9, s45_10, s45_0, s45_6]; rfl) | (exfalso; omega)), by first | rfl | (simp only [h2, h5, h8, h11, h13, eq_true h16, pM, pU, heldM_45, gvW_45, inW_45, livN_45, sum9_45, sum13_45, workE, workR, workU, wkE, digF, s45_9, s45_10, s45_0, s45_6, bI, pM, pU, n10, n20, n30, n0, if_true, if_false, ite_true, ite_false, not_true_eq_false, not_false_eq_true, and_true, true_and, and_false, false_and, or_true, true_or, or_false, false_or, reduceIte, and_self, or_self, ne_eq, eq_self_iff_true]; first | done | rfl) | (simp [bI, h2, h5, h8, h11, h13, eq_true h16, pM, pU, heldM_45, gvW_45, inW_45, livN_45, sum9_45, sum13_45, workE, workR, workU, wkE, digF, s45_9, s45_10, s45_0, s45_6]; done) | (simp only [pM, pU, heldM_45, gvW_45, inW_45, livN_45, sum9_45, sum13_45, workE, workR, workU, wkE, digF, s45_9, s45_10, s45_0, s45_6, bI, ← Int32.not_le] at *; simp [h2, h5, h8, h11, h13, eq_true h16]; done) | (simp_all [bI, h2, h5, h8, h11, h13, eq_true h16, pM, pU, heldM_45, gvW_45, inW_45, livN_45, sum9_45, sum13_45, workE, workR, workU, wkE, digF, s45_9, s45_10, s45_0, s45_6]; done) | (simp_all [bI, h2, h5, h8, h11, h13, eq_true h16, pM, pU, heldM_45, gvW_45, inW_45, livN_45, sum9_45, sum13_45, workE, workR, workU, wkE, digF, s45_9, s45_10, s45_0, s45_6]; rfl) | (exfalso; omega), by trivial⟩
            · skip
              refine v_aload_n C dX8_work_77 rfl 2 rfl ?_
              refine v_iload_n C dX8_work_78 rfl 3 rfl ?_
              refine w_invVr C [.int (x)] 0 0 L_X8_195 (c_X8_inchesOf (s := s) (t := t) (nr := nr) hst hG hL x hr hr20 hro) (m0 (s := s) (t := t) (g := G.2.2.1) hL) rfl rfl rfl rfl dX8_work_79 rfl kx_no (fun h18 => ?_)
              refine v_iload_n C dX8_work_82 rfl 5 rfl ?_
              refine w_invSr C [.int (m)] 0 0 L_X8_198 (c_X8_needed (s := s) (t := t)  hst hG hL m) rfl rfl rfl dX8_work_83 rfl kx_no (fun h19 => ?_)
              refine v_icmp_lt C (t := 93) dX8_work_86 rfl rfl (fun h20 => ?_) (fun h20 => ?_)
              · skip
                refine v_iconst C (v := 0) dX8_work_93 rfl rfl ?_
                refine v_istore C (lv1 := [(6, .int (0)), (5, .int (1)), (4, .int (1)), (0, .ref (a 0 0)), (1, .int (x)), (2, .int (c)), (3, .int (m))]) dX8_work_94 rfl (by decide) rfl ?_
                refine v_aload_n C dX8_work_96 rfl 3 rfl ?_
                refine v_iload C dX8_work_97 rfl 2 rfl ?_
                refine v_if_ne C (t := 106) dX8_work_99 rfl rfl (fun _ => ?_) (fun h => absurd h (by decide))
                refine v_iload C dX8_work_106 rfl 1 rfl ?_
                refine v_if_ne C (t := 115) dX8_work_108 rfl rfl (fun _ => ?_) (fun h => absurd h (by decide))
                refine v_iload C dX8_work_115 rfl 0 rfl ?_
                refine v_if_eq C (t := 124) dX8_work_117 rfl rfl (fun _ => ?_) (fun h => absurd h (by decide))
                refine v_iconst C (v := 3) dX8_work_124 rfl rfl ?_
                refine w_invVr C [.int (3)] 0 0 L_X8_145 (c_X8_holdsTo (s := s) (t := t)  hst hG hL 3) (m0 (s := s) (t := t) (g := G.2.2.1) hL) rfl rfl rfl rfl dX8_work_125 rfl kx_no (fun h21 => ?_)
                refine v_ifB_ne C (t := 133) dX8_work_128 rfl rfl (fun h => absurd h (by decide)) (fun _ => ?_)
                refine v_iconst C (v := 0) dX8_work_131 rfl rfl ?_
                exact v_iret C (by decide) (by decide) dX8_work_132 ⟨congrArg (fun z => some (Value.int z)) (by first | rfl | (simp only [h2, h5, h8, h11, h13, h16, h20, Int32.not_le.mpr h20, pM, pU, heldM_45, gvW_45, inW_45, livN_45, sum9_45, sum13_45, workE, workR, workU, wkE, digF, s45_9, s45_10, s45_0, s45_6, bI, pM, pU, n10, n20, n30, n0, if_true, if_false, ite_true, ite_false, not_true_eq_false, not_false_eq_true, and_true, true_and, and_false, false_and, or_true, true_or, or_false, false_or, reduceIte, and_self, or_self, ne_eq, eq_self_iff_true]; first | done | rfl) | (simp [bI, h2, h5, h8, h11, h13, h16, h20, Int32.not_le.mpr h20, pM, pU, heldM_45, gvW_45, inW_45, livN_45, sum9_45, sum13_45, workE, workR, workU, wkE, digF, s45_9, s45_10, s45_0, s45_6]; done) | (simp only [pM, pU, heldM_45, gvW_45, inW_45, livN_45, sum9_45, sum13_45, workE, workR, workU, wkE, digF, s45_9, s45_10, s45_0, s45_6, bI, ← Int32.not_le] at *; simp [h2, h5, h8, h11, h13, h16, h20, Int32.not_le.mpr h20]; done) | (simp_all [bI, h2, h5, h8, h11, h13, h16, h20, Int32.not_le.mpr h20, pM, pU, heldM_45, gvW_45, inW_45, livN_45, sum9_45, sum13_45, workE, workR, workU, wkE, digF, s45_9, s45_10, s45_0, s45_6]; done) | (simp_all [bI, h2, h5, h8, h11, h13, h16, h20, Int32.not_le.mpr h20, pM, pU, heldM_45, gvW_45, inW_45, livN_45, sum9_45, sum13_45, workE, workR, workU, wkE, digF, s45_9, s45_10, s45_0, s45_6]; rfl) | (exfalso; omega)), by first | rfl | (simp only [h2, h5, h8, h11, h13, h16, h20, Int32.not_le.mpr h20, pM, pU, heldM_45, gvW_45, inW_45, livN_45, sum9_45, sum13_45, workE, workR, workU, wkE, digF, s45_9, s45_10, s45_0, s45_6, bI, pM, pU, n10, n20, n30, n0, if_true, if_false, ite_true, ite_false, not_true_eq_false, not_false_eq_true, and_true, true_and, and_false, false_and, or_true, true_or, or_false, false_or, reduceIte, and_self, or_self, ne_eq, eq_self_iff_true]; first | done | rfl) | (simp [bI, h2, h5, h8, h11, h13, h16, h20, Int32.not_le.mpr h20, pM, pU, heldM_45, gvW_45, inW_45, livN_45, sum9_45, sum13_45, workE, workR, workU, wkE, digF, s45_9, s45_10, s45_0, s45_6]; done) | (simp only [pM, pU, heldM_45, gvW_45, inW_45, livN_45, sum9_45, sum13_45, workE, workR, workU, wkE, digF, s45_9, s45_10, s45_0, s45_6, bI, ← Int32.not_le] at *; simp [h2, h5, h8, h11, h13, h16, h20, Int32.not_le.mpr h20]; done) | (simp_all [bI, h2, h5, h8, h11, h13, h16, h20, Int32.not_le.mpr h20, pM, pU, heldM_45, gvW_45, inW_45, livN_45, sum9_45, sum13_45, workE, workR, workU, wkE, digF, s45_9, s45_10, s45_0, s45_6]; done) | (simp_all [bI, h2, h5, h8, h11, h13, h16, h20, Int32.not_le.mpr h20, pM, pU, heldM_45, gvW_45, inW_45, livN_45, sum9_45, sum13_45, workE, workR, workU, wkE, digF, s45_9, s45_10, s45_0, s45_6]; rfl) | (exfalso; omega), by trivial⟩
              · skip
                refine v_iconst C (v := 1) dX8_work_89 rfl rfl ?_
                refine v_goto C (q := 94) dX8_work_90 rfl ?_
                refine v_istore C (lv1 := [(6, .int (1)), (5, .int (1)), (4, .int (1)), (0, .ref (a 0 0)), (1, .int (x)), (2, .int (c)), (3, .int (m))]) dX8_work_94 rfl (by decide) rfl ?_
                refine v_aload_n C dX8_work_96 rfl 3 rfl ?_
                refine v_iload C dX8_work_97 rfl 2 rfl ?_
                refine v_if_ne C (t := 106) dX8_work_99 rfl rfl (fun _ => ?_) (fun h => absurd h (by decide))
                refine v_iload C dX8_work_106 rfl 1 rfl ?_
                refine v_if_ne C (t := 115) dX8_work_108 rfl rfl (fun _ => ?_) (fun h => absurd h (by decide))
                refine v_iload C dX8_work_115 rfl 0 rfl ?_
                refine v_if_eq C (t := 124) dX8_work_117 rfl rfl (fun h => absurd h (by decide)) (fun _ => ?_)
                refine v_iconst C (v := 0) dX8_work_120 rfl rfl ?_
                refine v_goto C (q := 125) dX8_work_121 rfl ?_
                refine w_invVr C [.int (0)] 0 0 L_X8_145 (c_X8_holdsTo (s := s) (t := t)  hst hG hL 0) (m0 (s := s) (t := t) (g := G.2.2.1) hL) rfl rfl rfl rfl dX8_work_125 rfl kx_no (fun h22 => ?_)
                refine v_ifB_ne C (t := 133) dX8_work_128 rfl rfl (fun _ => ?_) (fun h => absurd (by decide) h)
                refine v_iload_n C dX8_work_133 rfl 6 rfl ?_
                refine v_aload_n C dX8_work_134 rfl 3 rfl ?_
                refine v_get C (v := .ref (a 1 9)) g_X8_25 (m0 (s := s) (t := ((su t 45 0 0))) (g := G.2.2.1) hL) (rg (by decide) rfl) dX8_work_135 rfl ?_
                refine v_iload_n C dX8_work_138 rfl 5 rfl ?_
                refine v_iald C (len := 40) (m1 (s := s) (t := ((su t 45 0 0))) (g := G.2.2.1) hL 9 rfl) (vp_rng (n := 39) rfl (by decide) (by assumption)) dX8_work_139 rfl ?_
                refine xx_top (y := t 9 (tn c)) rfl ?_
                refine w_invSr C [.int (m), .int (t 9 (tn c))] 0 0 L_X8_201 (c_X8_takes (s := s) (t := ((su t 45 0 0)))  hst hG hL m (t 9 (tn c))) rfl rfl rfl dX8_work_140 rfl kx_no (fun h23 => ?_)
                refine v_istore C (lv1 := [(7, .int (takF m (t 9 (tn c)))), (6, .int (1)), (5, .int (1)), (4, .int (1)), (0, .ref (a 0 0)), (1, .int (x)), (2, .int (c)), (3, .int (m))]) dX8_work_143 rfl (by decide) rfl ?_
                refine v_iload_n C dX8_work_145 rfl 7 rfl ?_
                refine v_aload_n C dX8_work_146 rfl 4 rfl ?_
                refine v_get C (v := .ref (a 1 9)) g_X8_25 (m0 (s := s) (t := ((su t 45 0 0))) (g := G.2.2.1) hL) (rg (by decide) rfl) dX8_work_147 rfl ?_
                refine v_iload_n C dX8_work_150 rfl 6 rfl ?_
                refine v_iald C (len := 40) (m1 (s := s) (t := ((su t 45 0 0))) (g := G.2.2.1) hL 9 rfl) (vp_rng (n := 39) rfl (by decide) (by assumption)) dX8_work_151 rfl ?_
                refine xx_top (y := t 9 (tn c)) rfl ?_
                refine v_aload_n C dX8_work_152 rfl 4 rfl ?_
                refine v_get C (v := .ref (a 1 10)) g_X8_29 (m0 (s := s) (t := ((su t 45 0 0))) (g := G.2.2.1) hL) (rg (by decide) rfl) dX8_work_153 rfl ?_
                refine v_iload_n C dX8_work_156 rfl 6 rfl ?_
                refine v_iald C (len := 40) (m1 (s := s) (t := ((su t 45 0 0))) (g := G.2.2.1) hL 10 rfl) (vp_rng (n := 39) rfl (by decide) (by assumption)) dX8_work_157 rfl ?_
                refine xx_top (y := t 10 (tn c)) rfl ?_
                refine w_invSr C [.int (m), .int (t 9 (tn c)), .int (t 10 (tn c))] 0 0 L_X8_204 (c_X8_recovers (s := s) (t := ((su t 45 0 0)))  hst hG hL m (t 9 (tn c)) (t 10 (tn c))) rfl rfl rfl dX8_work_158 rfl kx_no (fun h24 => ?_)
                refine v_istore C (lv1 := [(8, .int (recF m (t 9 (tn c)) (t 10 (tn c)))), (7, .int (takF m (t 9 (tn c)))), (6, .int (1)), (5, .int (1)), (4, .int (1)), (0, .ref (a 0 0)), (1, .int (x)), (2, .int (c)), (3, .int (m))]) dX8_work_161 rfl (by decide) rfl ?_
                refine v_aload_n C dX8_work_163 rfl 5 rfl ?_
                refine v_get C (v := .ref (a 1 9)) g_X8_25 (m0 (s := s) (t := ((su t 45 0 0))) (g := G.2.2.1) hL) (rg (by decide) rfl) dX8_work_164 rfl ?_
                refine v_iload_n C dX8_work_167 rfl 7 rfl ?_
                refine v_dup2 C dX8_work_168 rfl rfl rfl ?_
                refine v_iald C (len := 40) (m1 (s := s) (t := ((su t 45 0 0))) (g := G.2.2.1) hL 9 rfl) (vp_rng (n := 39) rfl (by decide) (by assumption)) dX8_work_169 rfl ?_
                refine xx_top (y := t 9 (tn c)) rfl ?_
                refine v_iload C dX8_work_170 rfl 1 rfl ?_
                refine v_isub C dX8_work_172 rfl ?_
                refine v_iastE C (len := 40) (tn c) (put_m1 (s := s) (t := ((su t 45 0 0))) (g := G.2.2.1) hL 9 rfl (tn c) ((t 9 (tn c)) - (takF m (t 9 (tn c))))) rfl (vp_rng (n := 39) rfl (by decide) (by assumption)) dX8_work_173 rfl ?_
                refine v_iload_n C dX8_work_174 rfl 7 rfl ?_
                refine v_bipush C (v := 39) dX8_work_175 rfl rfl ?_
                refine v_icmp_ne C (t := 197) dX8_work_177 rfl rfl (fun h25 => ?_) (fun h25 => ?_)
                · skip
                  refine v_aload_n C dX8_work_197 rfl 5 rfl ?_
                  refine v_get C (v := .ref (a 1 9)) g_X8_25 (m0 (s := s) (t := ((su (su t 45 0 0) 9 (tn c) ((t 9 (tn c)) - (takF m (t 9 (tn c))))))) (g := G.2.2.1) hL) (rg (by decide) rfl) dX8_work_198 rfl ?_
                  refine v_iload_n C dX8_work_201 rfl 7 rfl ?_
                  refine v_iconst C (v := 1) dX8_work_202 rfl rfl ?_
                  refine v_iadd C dX8_work_203 rfl ?_
                  refine v_dup2 C dX8_work_204 rfl rfl rfl ?_
                  refine v_ialdE C (len := 40) (tn c + 1) (m1 (s := s) (t := ((su (su t 45 0 0) 9 (tn c) ((t 9 (tn c)) - (takF m (t 9 (tn c))))))) (g := G.2.2.1) hL 9 rfl) (ix40 (by assumption) (by assumption)).2 (ix40 (by assumption) (by assumption)).1 dX8_work_205 rfl ?_
                  refine xx_top (y := (su (su t 45 0 0) 9 (tn c) ((t 9 (tn c)) - (takF m (t 9 (tn c))))) 9 (tn c + 1)) rfl ?_
                  refine v_iload C dX8_work_206 rfl 1 rfl ?_
                  refine v_iload C dX8_work_208 rfl 0 rfl ?_
                  refine v_isub C dX8_work_210 rfl ?_
                  refine v_iadd C dX8_work_211 rfl ?_
                  refine v_iastE C (len := 40) (tn c + 1) (put_m1 (s := s) (t := ((su (su t 45 0 0) 9 (tn c) ((t 9 (tn c)) - (takF m (t 9 (tn c))))))) (g := G.2.2.1) hL 9 rfl (tn c + 1) (((su (su t 45 0 0) 9 (tn c) ((t 9 (tn c)) - (takF m (t 9 (tn c))))) 9 (tn c + 1)) + ((takF m (t 9 (tn c))) - (recF m (t 9 (tn c)) (t 10 (tn c)))))) (ix40 (by assumption) (by assumption)).2 (ix40 (by assumption) (by assumption)).1 dX8_work_212 rfl ?_
                  refine v_aload_n C dX8_work_213 rfl 5 rfl ?_
                  refine v_iload_n C dX8_work_214 rfl 6 rfl ?_
                  refine v_iload C dX8_work_215 rfl 0 rfl ?_
                  refine w_invVv C [.int (x), .int (recF m (t 9 (tn c)) (t 10 (tn c)))] 0 0 L_X8_211 (c_X8_shares (s := s) (t := ((su (su (su t 45 0 0) 9 (tn c) ((t 9 (tn c)) - (takF m (t 9 (tn c))))) 9 (tn c + 1) (((su (su t 45 0 0) 9 (tn c) ((t 9 (tn c)) - (takF m (t 9 (tn c))))) 9 (tn c + 1)) + ((takF m (t 9 (tn c))) - (recF m (t 9 (tn c)) (t 10 (tn c)))))))) (nm := nm) hst hG hL x _ (in_nI (N := 12) (vp_cnt (by assumption) hm hm12 (by decide)) (by omega)) (in_lt (N := 12) (vp_cnt (by assumption) hm hm12 (by decide))) (recF m (t 9 (tn c)) (t 10 (tn c))) hm hm12) (m0 (s := s) (t := ((su (su (su t 45 0 0) 9 (tn c) ((t 9 (tn c)) - (takF m (t 9 (tn c))))) 9 (tn c + 1) (((su (su t 45 0 0) 9 (tn c) ((t 9 (tn c)) - (takF m (t 9 (tn c))))) 9 (tn c + 1)) + ((takF m (t 9 (tn c))) - (recF m (t 9 (tn c)) (t 10 (tn c)))))))) (g := G.2.2.1) hL) rfl rfl rfl rfl dX8_work_217 rfl kx_no (fun h26 => ?_)
                  refine v_aload_n C dX8_work_220 rfl 5 rfl ?_
                  refine v_get C (v := .ref (a 1 19)) g_X8_53 (m0 (s := s) (t := ((shaF ((su (su (su t 45 0 0) 9 (tn c) ((t 9 (tn c)) - (takF m (t 9 (tn c))))) 9 (tn c + 1) (((su (su t 45 0 0) 9 (tn c) ((t 9 (tn c)) - (takF m (t 9 (tn c))))) 9 (tn c + 1)) + ((takF m (t 9 (tn c))) - (recF m (t 9 (tn c)) (t 10 (tn c))))))) (tn x) ((recF m (t 9 (tn c)) (t 10 (tn c)))) nm))) (g := G.2.2.1) hL) (rg (by decide) rfl) dX8_work_221 rfl ?_
                  refine v_iload_n C dX8_work_224 rfl 6 rfl ?_
                  refine v_aload_n C dX8_work_225 rfl 5 rfl ?_
                  refine v_get C (v := .int ((shaF ((su (su (su t 45 0 0) 9 (tn c) ((t 9 (tn c)) - (takF m (t 9 (tn c))))) 9 (tn c + 1) (((su (su t 45 0 0) 9 (tn c) ((t 9 (tn c)) - (takF m (t 9 (tn c))))) 9 (tn c + 1)) + ((takF m (t 9 (tn c))) - (recF m (t 9 (tn c)) (t 10 (tn c))))))) (tn x) ((recF m (t 9 (tn c)) (t 10 (tn c)))) nm) 0 0)) g_X8_138 (m0 (s := s) (t := ((shaF ((su (su (su t 45 0 0) 9 (tn c) ((t 9 (tn c)) - (takF m (t 9 (tn c))))) 9 (tn c + 1) (((su (su t 45 0 0) 9 (tn c) ((t 9 (tn c)) - (takF m (t 9 (tn c))))) 9 (tn c + 1)) + ((takF m (t 9 (tn c))) - (recF m (t 9 (tn c)) (t 10 (tn c))))))) (tn x) ((recF m (t 9 (tn c)) (t 10 (tn c)))) nm))) (g := G.2.2.1) hL) (rg (by decide) rfl) dX8_work_226 rfl ?_
                  refine xx_top (y := t 0 0) (congrFun (shaF_o (k := 0) (by decide)) _) ?_
                  refine v_iastE C (len := 12) (tn x) (put_m1 (s := s) (t := ((shaF ((su (su (su t 45 0 0) 9 (tn c) ((t 9 (tn c)) - (takF m (t 9 (tn c))))) 9 (tn c + 1) (((su (su t 45 0 0) 9 (tn c) ((t 9 (tn c)) - (takF m (t 9 (tn c))))) 9 (tn c + 1)) + ((takF m (t 9 (tn c))) - (recF m (t 9 (tn c)) (t 10 (tn c))))))) (tn x) ((recF m (t 9 (tn c)) (t 10 (tn c)))) nm))) (g := G.2.2.1) hL 19 rfl (tn x) (t 0 0)) rfl (vp_cnt (by assumption) hm hm12 (by decide)) dX8_work_229 rfl ?_
                  refine v_aload_n C dX8_work_230 rfl 5 rfl ?_
                  refine v_iconst C (v := 1) dX8_work_231 rfl rfl ?_
                  refine v_put C f_X8_141 (put_m0 (s := s) (t := ((su (shaF ((su (su (su t 45 0 0) 9 (tn c) ((t 9 (tn c)) - (takF m (t 9 (tn c))))) 9 (tn c + 1) (((su (su t 45 0 0) 9 (tn c) ((t 9 (tn c)) - (takF m (t 9 (tn c))))) 9 (tn c + 1)) + ((takF m (t 9 (tn c))) - (recF m (t 9 (tn c)) (t 10 (tn c))))))) (tn x) ((recF m (t 9 (tn c)) (t 10 (tn c)))) nm) 19 (tn x) (t 0 0)))) (g := G.2.2.1) hL 8 rfl 1) rfl rfl (rg_len (by decide)) dX8_work_232 rfl ?_
                  refine v_aload_n C dX8_work_235 rfl 5 rfl ?_
                  refine v_iload_n C dX8_work_236 rfl 7 rfl ?_
                  refine w_invVr C [.int (c)] 0 0 L_X8_172 (c_X8_heldAt (s := s) (t := ((su (su (shaF ((su (su (su t 45 0 0) 9 (tn c) ((t 9 (tn c)) - (takF m (t 9 (tn c))))) 9 (tn c + 1) (((su (su t 45 0 0) 9 (tn c) ((t 9 (tn c)) - (takF m (t 9 (tn c))))) 9 (tn c + 1)) + ((takF m (t 9 (tn c))) - (recF m (t 9 (tn c)) (t 10 (tn c))))))) (tn x) ((recF m (t 9 (tn c)) (t 10 (tn c)))) nm) 19 (tn x) (t 0 0)) 8 0 1))) (nc := nc) hst hG hL c (by show shaF _ _ _ _ 21 0 = _; rw [shaF_o (by decide)]; exact hc) hc30) (m0 (s := s) (t := ((su (su (shaF ((su (su (su t 45 0 0) 9 (tn c) ((t 9 (tn c)) - (takF m (t 9 (tn c))))) 9 (tn c + 1) (((su (su t 45 0 0) 9 (tn c) ((t 9 (tn c)) - (takF m (t 9 (tn c))))) 9 (tn c + 1)) + ((takF m (t 9 (tn c))) - (recF m (t 9 (tn c)) (t 10 (tn c))))))) (tn x) ((recF m (t 9 (tn c)) (t 10 (tn c)))) nm) 19 (tn x) (t 0 0)) 8 0 1))) (g := G.2.2.1) hL) rfl rfl rfl rfl dX8_work_237 rfl kx_no (fun h27 => ?_)
                  refine xx_top (y := heldM t c nc) (heldM_c (z := t) (by show shaF _ _ _ _ 25 = _; rw [shaF_o (by decide)]; repeat (first | rfl | (show su _ _ _ _ _ = _; rw [su_o (by decide)]))) (by show shaF _ _ _ _ 23 = _; rw [shaF_o (by decide)]; repeat (first | rfl | (show su _ _ _ _ _ = _; rw [su_o (by decide)]))) (by show shaF _ _ _ _ 24 = _; rw [shaF_o (by decide)]; repeat (first | rfl | (show su _ _ _ _ _ = _; rw [su_o (by decide)]))) nc) ?_
                  refine v_iconst C (v := (-1)) dX8_work_240 rfl rfl ?_
                  refine v_icmp_eq C (t := 258) dX8_work_241 rfl rfl (fun h28 => ?_) (fun h28 => ?_)
                  · skip
                    refine v_iload C dX8_work_258 rfl 0 rfl ?_
                    exact v_iret C (by decide) (by decide) dX8_work_260 ⟨congrArg (fun z => some (Value.int z)) (by first | rfl | (simp only [h2, h5, h8, h11, h13, h16, h20, Int32.not_lt.mp h20, h25, eq_true h28, pM, pU, heldM_45, gvW_45, inW_45, livN_45, sum9_45, sum13_45, workE, workR, workU, wkE, digF, s45_9, s45_10, s45_0, s45_6, bI, pM, pU, n10, n20, n30, n0, if_true, if_false, ite_true, ite_false, not_true_eq_false, not_false_eq_true, and_true, true_and, and_false, false_and, or_true, true_or, or_false, false_or, reduceIte, and_self, or_self, ne_eq, eq_self_iff_true]; first | done | rfl) | (simp [bI, h2, h5, h8, h11, h13, h16, h20, Int32.not_lt.mp h20, h25, eq_true h28, pM, pU, heldM_45, gvW_45, inW_45, livN_45, sum9_45, sum13_45, workE, workR, workU, wkE, digF, s45_9, s45_10, s45_0, s45_6]; done) | (simp only [pM, pU, heldM_45, gvW_45, inW_45, livN_45, sum9_45, sum13_45, workE, workR, workU, wkE, digF, s45_9, s45_10, s45_0, s45_6, bI, ← Int32.not_le] at *; simp [h2, h5, h8, h11, h13, h16, h20, Int32.not_lt.mp h20, h25, eq_true h28]; done) | (simp_all [bI, h2, h5, h8, h11, h13, h16, h20, Int32.not_lt.mp h20, h25, eq_true h28, pM, pU, heldM_45, gvW_45, inW_45, livN_45, sum9_45, sum13_45, workE, workR, workU, wkE, digF, s45_9, s45_10, s45_0, s45_6]; done) | (simp_all [bI, h2, h5, h8, h11, h13, h16, h20, Int32.not_lt.mp h20, h25, eq_true h28, pM, pU, heldM_45, gvW_45, inW_45, livN_45, sum9_45, sum13_45, workE, workR, workU, wkE, digF, s45_9, s45_10, s45_0, s45_6]; rfl) | (exfalso; omega)), by first | rfl | (simp only [h2, h5, h8, h11, h13, h16, h20, Int32.not_lt.mp h20, h25, eq_true h28, pM, pU, heldM_45, gvW_45, inW_45, livN_45, sum9_45, sum13_45, workE, workR, workU, wkE, digF, s45_9, s45_10, s45_0, s45_6, bI, pM, pU, n10, n20, n30, n0, if_true, if_false, ite_true, ite_false, not_true_eq_false, not_false_eq_true, and_true, true_and, and_false, false_and, or_true, true_or, or_false, false_or, reduceIte, and_self, or_self, ne_eq, eq_self_iff_true]; first | done | rfl) | (simp [bI, h2, h5, h8, h11, h13, h16, h20, Int32.not_lt.mp h20, h25, eq_true h28, pM, pU, heldM_45, gvW_45, inW_45, livN_45, sum9_45, sum13_45, workE, workR, workU, wkE, digF, s45_9, s45_10, s45_0, s45_6]; done) | (simp only [pM, pU, heldM_45, gvW_45, inW_45, livN_45, sum9_45, sum13_45, workE, workR, workU, wkE, digF, s45_9, s45_10, s45_0, s45_6, bI, ← Int32.not_le] at *; simp [h2, h5, h8, h11, h13, h16, h20, Int32.not_lt.mp h20, h25, eq_true h28]; done) | (simp_all [bI, h2, h5, h8, h11, h13, h16, h20, Int32.not_lt.mp h20, h25, eq_true h28, pM, pU, heldM_45, gvW_45, inW_45, livN_45, sum9_45, sum13_45, workE, workR, workU, wkE, digF, s45_9, s45_10, s45_0, s45_6]; done) | (simp_all [bI, h2, h5, h8, h11, h13, h16, h20, Int32.not_lt.mp h20, h25, eq_true h28, pM, pU, heldM_45, gvW_45, inW_45, livN_45, sum9_45, sum13_45, workE, workR, workU, wkE, digF, s45_9, s45_10, s45_0, s45_6]; rfl) | (exfalso; omega), by trivial⟩
                  · skip
                    refine v_aload_n C dX8_work_244 rfl 5 rfl ?_
                    refine v_get C (v := .ref (a 1 26)) g_X8_72 (m0 (s := s) (t := ((su (su (shaF ((su (su (su t 45 0 0) 9 (tn c) ((t 9 (tn c)) - (takF m (t 9 (tn c))))) 9 (tn c + 1) (((su (su t 45 0 0) 9 (tn c) ((t 9 (tn c)) - (takF m (t 9 (tn c))))) 9 (tn c + 1)) + ((takF m (t 9 (tn c))) - (recF m (t 9 (tn c)) (t 10 (tn c))))))) (tn x) ((recF m (t 9 (tn c)) (t 10 (tn c)))) nm) 19 (tn x) (t 0 0)) 8 0 1))) (g := G.2.2.1) hL) (rg (by decide) rfl) dX8_work_245 rfl ?_
                    refine v_aload_n C dX8_work_248 rfl 5 rfl ?_
                    refine v_iload_n C dX8_work_249 rfl 7 rfl ?_
                    refine w_invVr C [.int (c)] 0 0 L_X8_172 (c_X8_heldAt (s := s) (t := ((su (su (shaF ((su (su (su t 45 0 0) 9 (tn c) ((t 9 (tn c)) - (takF m (t 9 (tn c))))) 9 (tn c + 1) (((su (su t 45 0 0) 9 (tn c) ((t 9 (tn c)) - (takF m (t 9 (tn c))))) 9 (tn c + 1)) + ((takF m (t 9 (tn c))) - (recF m (t 9 (tn c)) (t 10 (tn c))))))) (tn x) ((recF m (t 9 (tn c)) (t 10 (tn c)))) nm) 19 (tn x) (t 0 0)) 8 0 1))) (nc := nc) hst hG hL c (by show shaF _ _ _ _ 21 0 = _; rw [shaF_o (by decide)]; exact hc) hc30) (m0 (s := s) (t := ((su (su (shaF ((su (su (su t 45 0 0) 9 (tn c) ((t 9 (tn c)) - (takF m (t 9 (tn c))))) 9 (tn c + 1) (((su (su t 45 0 0) 9 (tn c) ((t 9 (tn c)) - (takF m (t 9 (tn c))))) 9 (tn c + 1)) + ((takF m (t 9 (tn c))) - (recF m (t 9 (tn c)) (t 10 (tn c))))))) (tn x) ((recF m (t 9 (tn c)) (t 10 (tn c)))) nm) 19 (tn x) (t 0 0)) 8 0 1))) (g := G.2.2.1) hL) rfl rfl rfl rfl dX8_work_250 rfl kx_no (fun h29 => ?_)
                    refine xx_top (y := heldM t c nc) (heldM_c (z := t) (by show shaF _ _ _ _ 25 = _; rw [shaF_o (by decide)]; repeat (first | rfl | (show su _ _ _ _ _ = _; rw [su_o (by decide)]))) (by show shaF _ _ _ _ 23 = _; rw [shaF_o (by decide)]; repeat (first | rfl | (show su _ _ _ _ _ = _; rw [su_o (by decide)]))) (by show shaF _ _ _ _ 24 = _; rw [shaF_o (by decide)]; repeat (first | rfl | (show su _ _ _ _ _ = _; rw [su_o (by decide)]))) nc) ?_
                    refine v_aload_n C dX8_work_253 rfl 5 rfl ?_
                    refine v_get C (v := .int ((shaF ((su (su (su t 45 0 0) 9 (tn c) ((t 9 (tn c)) - (takF m (t 9 (tn c))))) 9 (tn c + 1) (((su (su t 45 0 0) 9 (tn c) ((t 9 (tn c)) - (takF m (t 9 (tn c))))) 9 (tn c + 1)) + ((takF m (t 9 (tn c))) - (recF m (t 9 (tn c)) (t 10 (tn c))))))) (tn x) ((recF m (t 9 (tn c)) (t 10 (tn c)))) nm) 0 0)) g_X8_138 (m0 (s := s) (t := ((su (su (shaF ((su (su (su t 45 0 0) 9 (tn c) ((t 9 (tn c)) - (takF m (t 9 (tn c))))) 9 (tn c + 1) (((su (su t 45 0 0) 9 (tn c) ((t 9 (tn c)) - (takF m (t 9 (tn c))))) 9 (tn c + 1)) + ((takF m (t 9 (tn c))) - (recF m (t 9 (tn c)) (t 10 (tn c))))))) (tn x) ((recF m (t 9 (tn c)) (t 10 (tn c)))) nm) 19 (tn x) (t 0 0)) 8 0 1))) (g := G.2.2.1) hL) (rg (by decide) rfl) dX8_work_254 rfl ?_
                    refine xx_top (y := t 0 0) (congrFun (shaF_o (k := 0) (by decide)) _) ?_
                    refine v_iastE C (len := 30) (tn (heldM t c nc)) (put_m1 (s := s) (t := ((su (su (shaF ((su (su (su t 45 0 0) 9 (tn c) ((t 9 (tn c)) - (takF m (t 9 (tn c))))) 9 (tn c + 1) (((su (su t 45 0 0) 9 (tn c) ((t 9 (tn c)) - (takF m (t 9 (tn c))))) 9 (tn c + 1)) + ((takF m (t 9 (tn c))) - (recF m (t 9 (tn c)) (t 10 (tn c))))))) (tn x) ((recF m (t 9 (tn c)) (t 10 (tn c)))) nm) 19 (tn x) (t 0 0)) 8 0 1))) (g := G.2.2.1) hL 26 rfl (tn (heldM t c nc)) (t 0 0)) rfl (heldM_vp (by assumption) hc30) dX8_work_257 rfl ?_
                    refine v_iload C dX8_work_258 rfl 0 rfl ?_
                    exact v_iret C (by decide) (by decide) dX8_work_260 ⟨congrArg (fun z => some (Value.int z)) (by first | rfl | (simp only [h2, h5, h8, h11, h13, h16, h20, Int32.not_lt.mp h20, h25, h28, pM, pU, heldM_45, gvW_45, inW_45, livN_45, sum9_45, sum13_45, workE, workR, workU, wkE, digF, s45_9, s45_10, s45_0, s45_6, bI, pM, pU, n10, n20, n30, n0, if_true, if_false, ite_true, ite_false, not_true_eq_false, not_false_eq_true, and_true, true_and, and_false, false_and, or_true, true_or, or_false, false_or, reduceIte, and_self, or_self, ne_eq, eq_self_iff_true]; first | done | rfl) | (simp [bI, h2, h5, h8, h11, h13, h16, h20, Int32.not_lt.mp h20, h25, h28, pM, pU, heldM_45, gvW_45, inW_45, livN_45, sum9_45, sum13_45, workE, workR, workU, wkE, digF, s45_9, s45_10, s45_0, s45_6]; done) | (simp only [pM, pU, heldM_45, gvW_45, inW_45, livN_45, sum9_45, sum13_45, workE, workR, workU, wkE, digF, s45_9, s45_10, s45_0, s45_6, bI, ← Int32.not_le] at *; simp [h2, h5, h8, h11, h13, h16, h20, Int32.not_lt.mp h20, h25, h28]; done) | (simp_all [bI, h2, h5, h8, h11, h13, h16, h20, Int32.not_lt.mp h20, h25, h28, pM, pU, heldM_45, gvW_45, inW_45, livN_45, sum9_45, sum13_45, workE, workR, workU, wkE, digF, s45_9, s45_10, s45_0, s45_6]; done) | (simp_all [bI, h2, h5, h8, h11, h13, h16, h20, Int32.not_lt.mp h20, h25, h28, pM, pU, heldM_45, gvW_45, inW_45, livN_45, sum9_45, sum13_45, workE, workR, workU, wkE, digF, s45_9, s45_10, s45_0, s45_6]; rfl) | (exfalso; omega)), by first | rfl | (simp only [h2, h5, h8, h11, h13, h16, h20, Int32.not_lt.mp h20, h25, h28, pM, pU, heldM_45, gvW_45, inW_45, livN_45, sum9_45, sum13_45, workE, workR, workU, wkE, digF, s45_9, s45_10, s45_0, s45_6, bI, pM, pU, n10, n20, n30, n0, if_true, if_false, ite_true, ite_false, not_true_eq_false, not_false_eq_true, and_true, true_and, and_false, false_and, or_true, true_or, or_false, false_or, reduceIte, and_self, or_self, ne_eq, eq_self_iff_true]; first | done | rfl) | (simp [bI, h2, h5, h8, h11, h13, h16, h20, Int32.not_lt.mp h20, h25, h28, pM, pU, heldM_45, gvW_45, inW_45, livN_45, sum9_45, sum13_45, workE, workR, workU, wkE, digF, s45_9, s45_10, s45_0, s45_6]; done) | (simp only [pM, pU, heldM_45, gvW_45, inW_45, livN_45, sum9_45, sum13_45, workE, workR, workU, wkE, digF, s45_9, s45_10, s45_0, s45_6, bI, ← Int32.not_le] at *; simp [h2, h5, h8, h11, h13, h16, h20, Int32.not_lt.mp h20, h25, h28]; done) | (simp_all [bI, h2, h5, h8, h11, h13, h16, h20, Int32.not_lt.mp h20, h25, h28, pM, pU, heldM_45, gvW_45, inW_45, livN_45, sum9_45, sum13_45, workE, workR, workU, wkE, digF, s45_9, s45_10, s45_0, s45_6]; done) | (simp_all [bI, h2, h5, h8, h11, h13, h16, h20, Int32.not_lt.mp h20, h25, h28, pM, pU, heldM_45, gvW_45, inW_45, livN_45, sum9_45, sum13_45, workE, workR, workU, wkE, digF, s45_9, s45_10, s45_0, s45_6]; rfl) | (exfalso; omega), by trivial⟩
                · skip
                  refine v_aload_n C dX8_work_180 rfl 5 rfl ?_
                  refine v_dup C dX8_work_181 rfl rfl ?_
                  refine v_get C (v := .int (t 6 0)) g_X8_208 (m0 (s := s) (t := ((su (su t 45 0 0) 9 (tn c) ((t 9 (tn c)) - (takF m (t 9 (tn c))))))) (g := G.2.2.1) hL) (rg (by decide) rfl) dX8_work_182 rfl ?_
                  refine v_iload C dX8_work_185 rfl 1 rfl ?_
                  refine v_iload C dX8_work_187 rfl 0 rfl ?_
                  refine v_isub C dX8_work_189 rfl ?_
                  refine v_iadd C dX8_work_190 rfl ?_
                  refine v_put C f_X8_208 (put_m0 (s := s) (t := ((su (su t 45 0 0) 9 (tn c) ((t 9 (tn c)) - (takF m (t 9 (tn c))))))) (g := G.2.2.1) hL 6 rfl ((t 6 0) + ((takF m (t 9 (tn c))) - (recF m (t 9 (tn c)) (t 10 (tn c)))))) rfl rfl (rg_len (by decide)) dX8_work_191 rfl ?_
                  refine v_goto C (q := 213) dX8_work_194 rfl ?_
                  refine v_aload_n C dX8_work_213 rfl 5 rfl ?_
                  refine v_iload_n C dX8_work_214 rfl 6 rfl ?_
                  refine v_iload C dX8_work_215 rfl 0 rfl ?_
                  refine w_invVv C [.int (x), .int (recF m (t 9 (tn c)) (t 10 (tn c)))] 0 0 L_X8_211 (c_X8_shares (s := s) (t := ((su (su (su t 45 0 0) 9 (tn c) ((t 9 (tn c)) - (takF m (t 9 (tn c))))) 6 0 ((t 6 0) + ((takF m (t 9 (tn c))) - (recF m (t 9 (tn c)) (t 10 (tn c)))))))) (nm := nm) hst hG hL x _ (in_nI (N := 12) (vp_cnt (by assumption) hm hm12 (by decide)) (by omega)) (in_lt (N := 12) (vp_cnt (by assumption) hm hm12 (by decide))) (recF m (t 9 (tn c)) (t 10 (tn c))) hm hm12) (m0 (s := s) (t := ((su (su (su t 45 0 0) 9 (tn c) ((t 9 (tn c)) - (takF m (t 9 (tn c))))) 6 0 ((t 6 0) + ((takF m (t 9 (tn c))) - (recF m (t 9 (tn c)) (t 10 (tn c)))))))) (g := G.2.2.1) hL) rfl rfl rfl rfl dX8_work_217 rfl kx_no (fun h30 => ?_)
                  refine v_aload_n C dX8_work_220 rfl 5 rfl ?_
                  refine v_get C (v := .ref (a 1 19)) g_X8_53 (m0 (s := s) (t := ((shaF ((su (su (su t 45 0 0) 9 (tn c) ((t 9 (tn c)) - (takF m (t 9 (tn c))))) 6 0 ((t 6 0) + ((takF m (t 9 (tn c))) - (recF m (t 9 (tn c)) (t 10 (tn c))))))) (tn x) ((recF m (t 9 (tn c)) (t 10 (tn c)))) nm))) (g := G.2.2.1) hL) (rg (by decide) rfl) dX8_work_221 rfl ?_
                  refine v_iload_n C dX8_work_224 rfl 6 rfl ?_
                  refine v_aload_n C dX8_work_225 rfl 5 rfl ?_
                  refine v_get C (v := .int ((shaF ((su (su (su t 45 0 0) 9 (tn c) ((t 9 (tn c)) - (takF m (t 9 (tn c))))) 6 0 ((t 6 0) + ((takF m (t 9 (tn c))) - (recF m (t 9 (tn c)) (t 10 (tn c))))))) (tn x) ((recF m (t 9 (tn c)) (t 10 (tn c)))) nm) 0 0)) g_X8_138 (m0 (s := s) (t := ((shaF ((su (su (su t 45 0 0) 9 (tn c) ((t 9 (tn c)) - (takF m (t 9 (tn c))))) 6 0 ((t 6 0) + ((takF m (t 9 (tn c))) - (recF m (t 9 (tn c)) (t 10 (tn c))))))) (tn x) ((recF m (t 9 (tn c)) (t 10 (tn c)))) nm))) (g := G.2.2.1) hL) (rg (by decide) rfl) dX8_work_226 rfl ?_
                  refine xx_top (y := t 0 0) (congrFun (shaF_o (k := 0) (by decide)) _) ?_
                  refine v_iastE C (len := 12) (tn x) (put_m1 (s := s) (t := ((shaF ((su (su (su t 45 0 0) 9 (tn c) ((t 9 (tn c)) - (takF m (t 9 (tn c))))) 6 0 ((t 6 0) + ((takF m (t 9 (tn c))) - (recF m (t 9 (tn c)) (t 10 (tn c))))))) (tn x) ((recF m (t 9 (tn c)) (t 10 (tn c)))) nm))) (g := G.2.2.1) hL 19 rfl (tn x) (t 0 0)) rfl (vp_cnt (by assumption) hm hm12 (by decide)) dX8_work_229 rfl ?_
                  refine v_aload_n C dX8_work_230 rfl 5 rfl ?_
                  refine v_iconst C (v := 1) dX8_work_231 rfl rfl ?_
                  refine v_put C f_X8_141 (put_m0 (s := s) (t := ((su (shaF ((su (su (su t 45 0 0) 9 (tn c) ((t 9 (tn c)) - (takF m (t 9 (tn c))))) 6 0 ((t 6 0) + ((takF m (t 9 (tn c))) - (recF m (t 9 (tn c)) (t 10 (tn c))))))) (tn x) ((recF m (t 9 (tn c)) (t 10 (tn c)))) nm) 19 (tn x) (t 0 0)))) (g := G.2.2.1) hL 8 rfl 1) rfl rfl (rg_len (by decide)) dX8_work_232 rfl ?_
                  refine v_aload_n C dX8_work_235 rfl 5 rfl ?_
                  refine v_iload_n C dX8_work_236 rfl 7 rfl ?_
                  refine w_invVr C [.int (c)] 0 0 L_X8_172 (c_X8_heldAt (s := s) (t := ((su (su (shaF ((su (su (su t 45 0 0) 9 (tn c) ((t 9 (tn c)) - (takF m (t 9 (tn c))))) 6 0 ((t 6 0) + ((takF m (t 9 (tn c))) - (recF m (t 9 (tn c)) (t 10 (tn c))))))) (tn x) ((recF m (t 9 (tn c)) (t 10 (tn c)))) nm) 19 (tn x) (t 0 0)) 8 0 1))) (nc := nc) hst hG hL c (by show shaF _ _ _ _ 21 0 = _; rw [shaF_o (by decide)]; exact hc) hc30) (m0 (s := s) (t := ((su (su (shaF ((su (su (su t 45 0 0) 9 (tn c) ((t 9 (tn c)) - (takF m (t 9 (tn c))))) 6 0 ((t 6 0) + ((takF m (t 9 (tn c))) - (recF m (t 9 (tn c)) (t 10 (tn c))))))) (tn x) ((recF m (t 9 (tn c)) (t 10 (tn c)))) nm) 19 (tn x) (t 0 0)) 8 0 1))) (g := G.2.2.1) hL) rfl rfl rfl rfl dX8_work_237 rfl kx_no (fun h31 => ?_)
                  refine xx_top (y := heldM t c nc) (heldM_c (z := t) (by show shaF _ _ _ _ 25 = _; rw [shaF_o (by decide)]; repeat (first | rfl | (show su _ _ _ _ _ = _; rw [su_o (by decide)]))) (by show shaF _ _ _ _ 23 = _; rw [shaF_o (by decide)]; repeat (first | rfl | (show su _ _ _ _ _ = _; rw [su_o (by decide)]))) (by show shaF _ _ _ _ 24 = _; rw [shaF_o (by decide)]; repeat (first | rfl | (show su _ _ _ _ _ = _; rw [su_o (by decide)]))) nc) ?_
                  refine v_iconst C (v := (-1)) dX8_work_240 rfl rfl ?_
                  refine v_icmp_eq C (t := 258) dX8_work_241 rfl rfl (fun h32 => ?_) (fun h32 => ?_)
                  · skip
                    refine v_iload C dX8_work_258 rfl 0 rfl ?_
                    exact v_iret C (by decide) (by decide) dX8_work_260 ⟨congrArg (fun z => some (Value.int z)) (by first | rfl | (simp only [h2, h5, h8, h11, h13, h16, h20, Int32.not_lt.mp h20, eq_true h25, eq_true h32, pM, pU, heldM_45, gvW_45, inW_45, livN_45, sum9_45, sum13_45, workE, workR, workU, wkE, digF, s45_9, s45_10, s45_0, s45_6, bI, pM, pU, n10, n20, n30, n0, if_true, if_false, ite_true, ite_false, not_true_eq_false, not_false_eq_true, and_true, true_and, and_false, false_and, or_true, true_or, or_false, false_or, reduceIte, and_self, or_self, ne_eq, eq_self_iff_true]; first | done | rfl) | (simp [bI, h2, h5, h8, h11, h13, h16, h20, Int32.not_lt.mp h20, eq_true h25, eq_true h32, pM, pU, heldM_45, gvW_45, inW_45, livN_45, sum9_45, sum13_45, workE, workR, workU, wkE, digF, s45_9, s45_10, s45_0, s45_6]; done) | (simp only [pM, pU, heldM_45, gvW_45, inW_45, livN_45, sum9_45, sum13_45, workE, workR, workU, wkE, digF, s45_9, s45_10, s45_0, s45_6, bI, ← Int32.not_le] at *; simp [h2, h5, h8, h11, h13, h16, h20, Int32.not_lt.mp h20, eq_true h25, eq_true h32]; done) | (simp_all [bI, h2, h5, h8, h11, h13, h16, h20, Int32.not_lt.mp h20, eq_true h25, eq_true h32, pM, pU, heldM_45, gvW_45, inW_45, livN_45, sum9_45, sum13_45, workE, workR, workU, wkE, digF, s45_9, s45_10, s45_0, s45_6]; done) | (simp_all [bI, h2, h5, h8, h11, h13, h16, h20, Int32.not_lt.mp h20, eq_true h25, eq_true h32, pM, pU, heldM_45, gvW_45, inW_45, livN_45, sum9_45, sum13_45, workE, workR, workU, wkE, digF, s45_9, s45_10, s45_0, s45_6]; rfl) | (exfalso; omega)), by first | rfl | (simp only [h2, h5, h8, h11, h13, h16, h20, Int32.not_lt.mp h20, eq_true h25, eq_true h32, pM, pU, heldM_45, gvW_45, inW_45, livN_45, sum9_45, sum13_45, workE, workR, workU, wkE, digF, s45_9, s45_10, s45_0, s45_6, bI, pM, pU, n10, n20, n30, n0, if_true, if_false, ite_true, ite_false, not_true_eq_false, not_false_eq_true, and_true, true_and, and_false, false_and, or_true, true_or, or_false, false_or, reduceIte, and_self, or_self, ne_eq, eq_self_iff_true]; first | done | rfl) | (simp [bI, h2, h5, h8, h11, h13, h16, h20, Int32.not_lt.mp h20, eq_true h25, eq_true h32, pM, pU, heldM_45, gvW_45, inW_45, livN_45, sum9_45, sum13_45, workE, workR, workU, wkE, digF, s45_9, s45_10, s45_0, s45_6]; done) | (simp only [pM, pU, heldM_45, gvW_45, inW_45, livN_45, sum9_45, sum13_45, workE, workR, workU, wkE, digF, s45_9, s45_10, s45_0, s45_6, bI, ← Int32.not_le] at *; simp [h2, h5, h8, h11, h13, h16, h20, Int32.not_lt.mp h20, eq_true h25, eq_true h32]; done) | (simp_all [bI, h2, h5, h8, h11, h13, h16, h20, Int32.not_lt.mp h20, eq_true h25, eq_true h32, pM, pU, heldM_45, gvW_45, inW_45, livN_45, sum9_45, sum13_45, workE, workR, workU, wkE, digF, s45_9, s45_10, s45_0, s45_6]; done) | (simp_all [bI, h2, h5, h8, h11, h13, h16, h20, Int32.not_lt.mp h20, eq_true h25, eq_true h32, pM, pU, heldM_45, gvW_45, inW_45, livN_45, sum9_45, sum13_45, workE, workR, workU, wkE, digF, s45_9, s45_10, s45_0, s45_6]; rfl) | (exfalso; omega), by trivial⟩
                  · skip
                    refine v_aload_n C dX8_work_244 rfl 5 rfl ?_
                    refine v_get C (v := .ref (a 1 26)) g_X8_72 (m0 (s := s) (t := ((su (su (shaF ((su (su (su t 45 0 0) 9 (tn c) ((t 9 (tn c)) - (takF m (t 9 (tn c))))) 6 0 ((t 6 0) + ((takF m (t 9 (tn c))) - (recF m (t 9 (tn c)) (t 10 (tn c))))))) (tn x) ((recF m (t 9 (tn c)) (t 10 (tn c)))) nm) 19 (tn x) (t 0 0)) 8 0 1))) (g := G.2.2.1) hL) (rg (by decide) rfl) dX8_work_245 rfl ?_
                    refine v_aload_n C dX8_work_248 rfl 5 rfl ?_
                    refine v_iload_n C dX8_work_249 rfl 7 rfl ?_
                    refine w_invVr C [.int (c)] 0 0 L_X8_172 (c_X8_heldAt (s := s) (t := ((su (su (shaF ((su (su (su t 45 0 0) 9 (tn c) ((t 9 (tn c)) - (takF m (t 9 (tn c))))) 6 0 ((t 6 0) + ((takF m (t 9 (tn c))) - (recF m (t 9 (tn c)) (t 10 (tn c))))))) (tn x) ((recF m (t 9 (tn c)) (t 10 (tn c)))) nm) 19 (tn x) (t 0 0)) 8 0 1))) (nc := nc) hst hG hL c (by show shaF _ _ _ _ 21 0 = _; rw [shaF_o (by decide)]; exact hc) hc30) (m0 (s := s) (t := ((su (su (shaF ((su (su (su t 45 0 0) 9 (tn c) ((t 9 (tn c)) - (takF m (t 9 (tn c))))) 6 0 ((t 6 0) + ((takF m (t 9 (tn c))) - (recF m (t 9 (tn c)) (t 10 (tn c))))))) (tn x) ((recF m (t 9 (tn c)) (t 10 (tn c)))) nm) 19 (tn x) (t 0 0)) 8 0 1))) (g := G.2.2.1) hL) rfl rfl rfl rfl dX8_work_250 rfl kx_no (fun h33 => ?_)
                    refine xx_top (y := heldM t c nc) (heldM_c (z := t) (by show shaF _ _ _ _ 25 = _; rw [shaF_o (by decide)]; repeat (first | rfl | (show su _ _ _ _ _ = _; rw [su_o (by decide)]))) (by show shaF _ _ _ _ 23 = _; rw [shaF_o (by decide)]; repeat (first | rfl | (show su _ _ _ _ _ = _; rw [su_o (by decide)]))) (by show shaF _ _ _ _ 24 = _; rw [shaF_o (by decide)]; repeat (first | rfl | (show su _ _ _ _ _ = _; rw [su_o (by decide)]))) nc) ?_
                    refine v_aload_n C dX8_work_253 rfl 5 rfl ?_
                    refine v_get C (v := .int ((shaF ((su (su (su t 45 0 0) 9 (tn c) ((t 9 (tn c)) - (takF m (t 9 (tn c))))) 6 0 ((t 6 0) + ((takF m (t 9 (tn c))) - (recF m (t 9 (tn c)) (t 10 (tn c))))))) (tn x) ((recF m (t 9 (tn c)) (t 10 (tn c)))) nm) 0 0)) g_X8_138 (m0 (s := s) (t := ((su (su (shaF ((su (su (su t 45 0 0) 9 (tn c) ((t 9 (tn c)) - (takF m (t 9 (tn c))))) 6 0 ((t 6 0) + ((takF m (t 9 (tn c))) - (recF m (t 9 (tn c)) (t 10 (tn c))))))) (tn x) ((recF m (t 9 (tn c)) (t 10 (tn c)))) nm) 19 (tn x) (t 0 0)) 8 0 1))) (g := G.2.2.1) hL) (rg (by decide) rfl) dX8_work_254 rfl ?_
                    refine xx_top (y := t 0 0) (congrFun (shaF_o (k := 0) (by decide)) _) ?_
                    refine v_iastE C (len := 30) (tn (heldM t c nc)) (put_m1 (s := s) (t := ((su (su (shaF ((su (su (su t 45 0 0) 9 (tn c) ((t 9 (tn c)) - (takF m (t 9 (tn c))))) 6 0 ((t 6 0) + ((takF m (t 9 (tn c))) - (recF m (t 9 (tn c)) (t 10 (tn c))))))) (tn x) ((recF m (t 9 (tn c)) (t 10 (tn c)))) nm) 19 (tn x) (t 0 0)) 8 0 1))) (g := G.2.2.1) hL 26 rfl (tn (heldM t c nc)) (t 0 0)) rfl (heldM_vp (by assumption) hc30) dX8_work_257 rfl ?_
                    refine v_iload C dX8_work_258 rfl 0 rfl ?_
                    exact v_iret C (by decide) (by decide) dX8_work_260 ⟨congrArg (fun z => some (Value.int z)) (by first | rfl | (simp only [h2, h5, h8, h11, h13, h16, h20, Int32.not_lt.mp h20, eq_true h25, h32, pM, pU, heldM_45, gvW_45, inW_45, livN_45, sum9_45, sum13_45, workE, workR, workU, wkE, digF, s45_9, s45_10, s45_0, s45_6, bI, pM, pU, n10, n20, n30, n0, if_true, if_false, ite_true, ite_false, not_true_eq_false, not_false_eq_true, and_true, true_and, and_false, false_and, or_true, true_or, or_false, false_or, reduceIte, and_self, or_self, ne_eq, eq_self_iff_true]; first | done | rfl) | (simp [bI, h2, h5, h8, h11, h13, h16, h20, Int32.not_lt.mp h20, eq_true h25, h32, pM, pU, heldM_45, gvW_45, inW_45, livN_45, sum9_45, sum13_45, workE, workR, workU, wkE, digF, s45_9, s45_10, s45_0, s45_6]; done) | (simp only [pM, pU, heldM_45, gvW_45, inW_45, livN_45, sum9_45, sum13_45, workE, workR, workU, wkE, digF, s45_9, s45_10, s45_0, s45_6, bI, ← Int32.not_le] at *; simp [h2, h5, h8, h11, h13, h16, h20, Int32.not_lt.mp h20, eq_true h25, h32]; done) | (simp_all [bI, h2, h5, h8, h11, h13, h16, h20, Int32.not_lt.mp h20, eq_true h25, h32, pM, pU, heldM_45, gvW_45, inW_45, livN_45, sum9_45, sum13_45, workE, workR, workU, wkE, digF, s45_9, s45_10, s45_0, s45_6]; done) | (simp_all [bI, h2, h5, h8, h11, h13, h16, h20, Int32.not_lt.mp h20, eq_true h25, h32, pM, pU, heldM_45, gvW_45, inW_45, livN_45, sum9_45, sum13_45, workE, workR, workU, wkE, digF, s45_9, s45_10, s45_0, s45_6]; rfl) | (exfalso; omega)), by first | rfl | (simp only [h2, h5, h8, h11, h13, h16, h20, Int32.not_lt.mp h20, eq_true h25, h32, pM, pU, heldM_45, gvW_45, inW_45, livN_45, sum9_45, sum13_45, workE, workR, workU, wkE, digF, s45_9, s45_10, s45_0, s45_6, bI, pM, pU, n10, n20, n30, n0, if_true, if_false, ite_true, ite_false, not_true_eq_false, not_false_eq_true, and_true, true_and, and_false, false_and, or_true, true_or, or_false, false_or, reduceIte, and_self, or_self, ne_eq, eq_self_iff_true]; first | done | rfl) | (simp [bI, h2, h5, h8, h11, h13, h16, h20, Int32.not_lt.mp h20, eq_true h25, h32, pM, pU, heldM_45, gvW_45, inW_45, livN_45, sum9_45, sum13_45, workE, workR, workU, wkE, digF, s45_9, s45_10, s45_0, s45_6]; done) | (simp only [pM, pU, heldM_45, gvW_45, inW_45, livN_45, sum9_45, sum13_45, workE, workR, workU, wkE, digF, s45_9, s45_10, s45_0, s45_6, bI, ← Int32.not_le] at *; simp [h2, h5, h8, h11, h13, h16, h20, Int32.not_lt.mp h20, eq_true h25, h32]; done) | (simp_all [bI, h2, h5, h8, h11, h13, h16, h20, Int32.not_lt.mp h20, eq_true h25, h32, pM, pU, heldM_45, gvW_45, inW_45, livN_45, sum9_45, sum13_45, workE, workR, workU, wkE, digF, s45_9, s45_10, s45_0, s45_6]; done) | (simp_all [bI, h2, h5, h8, h11, h13, h16, h20, Int32.not_lt.mp h20, eq_true h25, h32, pM, pU, heldM_45, gvW_45, inW_45, livN_45, sum9_45, sum13_45, workE, workR, workU, wkE, digF, s45_9, s45_10, s45_0, s45_6]; rfl) | (exfalso; omega), by trivial⟩

abbrev r_X8_ofMiner : Room := { frames := 3, cells := 0, slots := 0, locals := 68 }
set_option maxRecDepth 4000 in
theorem c_X8_ofMiner {l : Launch} {G : GG} {a : AD} {s t s0 : SS} {L : List (Nat × Nat)} {nm : Nat} {nr : Nat} (hst : l.stackTraces = false) (hG : GOK G) (hL : Live L s0) (x : Int32) (w_ : Int32) (hm : t 12 0 = nI nm) (hm12 : nm ≤ 12) (hr : t 33 0 = nI nr) (hr20 : nr ≤ 20) (hro : ∀ i, i < nr → vp_in (t 34 i) 12) : Mth l yX8_ofMiner cX8_ofMiner 3 (Option.some Jvm.ClassFile.FieldType.int) r_X8_ofMiner G (wl a (E G.2.2.1 a s t) L) [.ref (a 0 0), .int x, .int w_] (RI (.int (pM (ofMinerE t nm nr x w_) (ofMinerR t nm nr x w_))) (wl a (E G.2.2.1 a s (pU (ofMinerE t nm nr x w_) (su t 45 0 0) t)) L) (True)) nX := by
  refine mth_of rfl (Nat.le_of_ble_eq_true rfl) hst hG (fun X hX C0 => ?_)
  subst hX
  have C : Cx X G cX8_ofMiner 3 RX8 (Option.some Jvm.ClassFile.FieldType.int) r_X8_ofMiner "ofMiner" [] := C0
  clear C0
  show V X G 3 _ 0 0 _ 0 [(0, .ref (a 0 0)), (1, .int (x)), (2, .int (w_))] []
  refine v_aload_n C dX8_ofMiner_0 rfl 0 rfl ?_
  refine v_aload_n C dX8_ofMiner_1 rfl 0 rfl ?_
  refine v_iload_n C dX8_ofMiner_2 rfl 1 rfl ?_
  refine w_invVr C [.int (x)] 0 0 L_X8_176 (c_X8_isMiner (s := s) (t := t)  hst hG hL x) (m0 (s := s) (t := t) (g := G.2.2.1) hL) rfl rfl rfl rfl dX8_ofMiner_3 rfl kx_no (fun h1 => ?_)
  refine v_ifB_ne C (t := 13) dX8_ofMiner_6 rfl rfl (fun h2 => ?_) (fun h2 => ?_)
  · skip
    refine v_iload_n C dX8_ofMiner_13 rfl 2 rfl ?_
    refine v_iconst C (v := 0) dX8_ofMiner_14 rfl rfl ?_
    refine v_bipush C (v := 7) dX8_ofMiner_15 rfl rfl ?_
    refine w_invSr C [.int (w_), .int (0), .int (7)] 0 0 L_X8_123 (c_X8_isIn (s := s) (t := t)  hst hG hL w_ 0 7) rfl rfl rfl dX8_ofMiner_17 rfl kx_no (fun h3 => ?_)
    refine v_ifB_eq C (t := 27) dX8_ofMiner_20 rfl rfl (fun h4 => ?_) (fun h4 => ?_)
    · skip
      refine v_iconst C (v := 2) dX8_ofMiner_27 rfl rfl ?_
      refine w_invVr C [.int (2)] 0 0 L_X8_145 (c_X8_holdsTo (s := s) (t := t)  hst hG hL 2) (m0 (s := s) (t := t) (g := G.2.2.1) hL) rfl rfl rfl rfl dX8_ofMiner_28 rfl kx_no (fun h5 => ?_)
      refine v_ifB_ne C (t := 36) dX8_ofMiner_31 rfl rfl (fun h => absurd h (by decide)) (fun _ => ?_)
      refine v_iconst C (v := 0) dX8_ofMiner_34 rfl rfl ?_
      exact v_iret C (by decide) (by decide) dX8_ofMiner_35 ⟨congrArg (fun z => some (Value.int z)) (by first | rfl | (simp only [h2, h4, pM, pU, heldM_45, gvW_45, inW_45, livN_45, sum9_45, sum13_45, ofMinerE, ofMinerR, bI, pM, pU, n10, n20, n30, n0, if_true, if_false, ite_true, ite_false, not_true_eq_false, not_false_eq_true, and_true, true_and, and_false, false_and, or_true, true_or, or_false, false_or, reduceIte, and_self, or_self, ne_eq, eq_self_iff_true]; first | done | rfl) | (simp [bI, h2, h4, pM, pU, heldM_45, gvW_45, inW_45, livN_45, sum9_45, sum13_45, ofMinerE, ofMinerR]; done) | (simp only [pM, pU, heldM_45, gvW_45, inW_45, livN_45, sum9_45, sum13_45, ofMinerE, ofMinerR, bI, ← Int32.not_le] at *; simp [h2, h4]; done) | (simp_all [bI, h2, h4, pM, pU, heldM_45, gvW_45, inW_45, livN_45, sum9_45, sum13_45, ofMinerE, ofMinerR]; done) | (simp_all [bI, h2, h4, pM, pU, heldM_45, gvW_45, inW_45, livN_45, sum9_45, sum13_45, ofMinerE, ofMinerR]; rfl) | (exfalso; omega)), by first | rfl | (simp only [h2, h4, pM, pU, heldM_45, gvW_45, inW_45, livN_45, sum9_45, sum13_45, ofMinerE, ofMinerR, bI, pM, pU, n10, n20, n30, n0, if_true, if_false, ite_true, ite_false, not_true_eq_false, not_false_eq_true, and_true, true_and, and_false, false_and, or_true, true_or, or_false, false_or, reduceIte, and_self, or_self, ne_eq, eq_self_iff_true]; first | done | rfl) | (simp [bI, h2, h4, pM, pU, heldM_45, gvW_45, inW_45, livN_45, sum9_45, sum13_45, ofMinerE, ofMinerR]; done) | (simp only [pM, pU, heldM_45, gvW_45, inW_45, livN_45, sum9_45, sum13_45, ofMinerE, ofMinerR, bI, ← Int32.not_le] at *; simp [h2, h4]; done) | (simp_all [bI, h2, h4, pM, pU, heldM_45, gvW_45, inW_45, livN_45, sum9_45, sum13_45, ofMinerE, ofMinerR]; done) | (simp_all [bI, h2, h4, pM, pU, heldM_45, gvW_45, inW_45, livN_45, sum9_45, sum13_45, ofMinerE, ofMinerR]; rfl) | (exfalso; omega), by trivial⟩
    · skip
      refine v_iconst C (v := 0) dX8_ofMiner_23 rfl rfl ?_
      refine v_goto C (q := 28) dX8_ofMiner_24 rfl ?_
      refine w_invVr C [.int (0)] 0 0 L_X8_145 (c_X8_holdsTo (s := s) (t := t)  hst hG hL 0) (m0 (s := s) (t := t) (g := G.2.2.1) hL) rfl rfl rfl rfl dX8_ofMiner_28 rfl kx_no (fun h6 => ?_)
      refine v_ifB_ne C (t := 36) dX8_ofMiner_31 rfl rfl (fun _ => ?_) (fun h => absurd (by decide) h)
      refine v_iload_n C dX8_ofMiner_36 rfl 2 rfl ?_
      by_cases h7 : w_ = 0
      · skip
        refine v_tabIn C (off := 43) (q := 80) dX8_ofMiner_37 (by rw [h7]; decide) (by rw [h7]; decide) (by rw [h7]; rfl) rfl ?_
        refine v_aload_n C dX8_ofMiner_80 rfl 0 rfl ?_
        refine v_get C (v := .ref (a 1 13)) g_X8_35 (m0 (s := s) (t := ((su t 45 0 0))) (g := G.2.2.1) hL) (rg (by decide) rfl) dX8_ofMiner_81 rfl ?_
        refine v_iload_n C dX8_ofMiner_84 rfl 1 rfl ?_
        refine v_iald C (len := 12) (m1 (s := s) (t := ((su t 45 0 0))) (g := G.2.2.1) hL 13 rfl) (vp_cnt (by assumption) hm hm12 (by decide)) dX8_ofMiner_85 rfl ?_
        refine xx_top (y := t 13 (tn x)) rfl ?_
        exact v_iret C (by decide) (by decide) dX8_ofMiner_86 ⟨congrArg (fun z => some (Value.int z)) (by first | rfl | (simp only [h2, h4, eq_true h7, pM, pU, heldM_45, gvW_45, inW_45, livN_45, sum9_45, sum13_45, ofMinerE, ofMinerR, bI, pM, pU, n10, n20, n30, n0, if_true, if_false, ite_true, ite_false, not_true_eq_false, not_false_eq_true, and_true, true_and, and_false, false_and, or_true, true_or, or_false, false_or, reduceIte, and_self, or_self, ne_eq, eq_self_iff_true]; first | done | rfl) | (simp [bI, h2, h4, eq_true h7, pM, pU, heldM_45, gvW_45, inW_45, livN_45, sum9_45, sum13_45, ofMinerE, ofMinerR]; done) | (simp only [pM, pU, heldM_45, gvW_45, inW_45, livN_45, sum9_45, sum13_45, ofMinerE, ofMinerR, bI, ← Int32.not_le] at *; simp [h2, h4, eq_true h7]; done) | (simp_all [bI, h2, h4, eq_true h7, pM, pU, heldM_45, gvW_45, inW_45, livN_45, sum9_45, sum13_45, ofMinerE, ofMinerR]; done) | (simp_all [bI, h2, h4, eq_true h7, pM, pU, heldM_45, gvW_45, inW_45, livN_45, sum9_45, sum13_45, ofMinerE, ofMinerR]; rfl) | (exfalso; omega)), by first | rfl | (simp only [h2, h4, eq_true h7, pM, pU, heldM_45, gvW_45, inW_45, livN_45, sum9_45, sum13_45, ofMinerE, ofMinerR, bI, pM, pU, n10, n20, n30, n0, if_true, if_false, ite_true, ite_false, not_true_eq_false, not_false_eq_true, and_true, true_and, and_false, false_and, or_true, true_or, or_false, false_or, reduceIte, and_self, or_self, ne_eq, eq_self_iff_true]; first | done | rfl) | (simp [bI, h2, h4, eq_true h7, pM, pU, heldM_45, gvW_45, inW_45, livN_45, sum9_45, sum13_45, ofMinerE, ofMinerR]; done) | (simp only [pM, pU, heldM_45, gvW_45, inW_45, livN_45, sum9_45, sum13_45, ofMinerE, ofMinerR, bI, ← Int32.not_le] at *; simp [h2, h4, eq_true h7]; done) | (simp_all [bI, h2, h4, eq_true h7, pM, pU, heldM_45, gvW_45, inW_45, livN_45, sum9_45, sum13_45, ofMinerE, ofMinerR]; done) | (simp_all [bI, h2, h4, eq_true h7, pM, pU, heldM_45, gvW_45, inW_45, livN_45, sum9_45, sum13_45, ofMinerE, ofMinerR]; rfl) | (exfalso; omega), by trivial⟩
      by_cases h8 : w_ = 1
      · skip
        refine v_tabIn C (off := 50) (q := 87) dX8_ofMiner_37 (by rw [h8]; decide) (by rw [h8]; decide) (by rw [h8]; rfl) rfl ?_
        refine v_aload_n C dX8_ofMiner_87 rfl 0 rfl ?_
        refine v_get C (v := .ref (a 1 14)) g_X8_38 (m0 (s := s) (t := ((su t 45 0 0))) (g := G.2.2.1) hL) (rg (by decide) rfl) dX8_ofMiner_88 rfl ?_
        refine v_iload_n C dX8_ofMiner_91 rfl 1 rfl ?_
        refine v_iald C (len := 12) (m1 (s := s) (t := ((su t 45 0 0))) (g := G.2.2.1) hL 14 rfl) (vp_cnt (by assumption) hm hm12 (by decide)) dX8_ofMiner_92 rfl ?_
        refine xx_top (y := t 14 (tn x)) rfl ?_
        exact v_iret C (by decide) (by decide) dX8_ofMiner_93 ⟨congrArg (fun z => some (Value.int z)) (by first | rfl | (simp only [h2, h4, h7, eq_true h8, pM, pU, heldM_45, gvW_45, inW_45, livN_45, sum9_45, sum13_45, ofMinerE, ofMinerR, bI, pM, pU, n10, n20, n30, n0, if_true, if_false, ite_true, ite_false, not_true_eq_false, not_false_eq_true, and_true, true_and, and_false, false_and, or_true, true_or, or_false, false_or, reduceIte, and_self, or_self, ne_eq, eq_self_iff_true]; first | done | rfl) | (simp [bI, h2, h4, h7, eq_true h8, pM, pU, heldM_45, gvW_45, inW_45, livN_45, sum9_45, sum13_45, ofMinerE, ofMinerR]; done) | (simp only [pM, pU, heldM_45, gvW_45, inW_45, livN_45, sum9_45, sum13_45, ofMinerE, ofMinerR, bI, ← Int32.not_le] at *; simp [h2, h4, h7, eq_true h8]; done) | (simp_all [bI, h2, h4, h7, eq_true h8, pM, pU, heldM_45, gvW_45, inW_45, livN_45, sum9_45, sum13_45, ofMinerE, ofMinerR]; done) | (simp_all [bI, h2, h4, h7, eq_true h8, pM, pU, heldM_45, gvW_45, inW_45, livN_45, sum9_45, sum13_45, ofMinerE, ofMinerR]; rfl) | (exfalso; omega)), by first | rfl | (simp only [h2, h4, h7, eq_true h8, pM, pU, heldM_45, gvW_45, inW_45, livN_45, sum9_45, sum13_45, ofMinerE, ofMinerR, bI, pM, pU, n10, n20, n30, n0, if_true, if_false, ite_true, ite_false, not_true_eq_false, not_false_eq_true, and_true, true_and, and_false, false_and, or_true, true_or, or_false, false_or, reduceIte, and_self, or_self, ne_eq, eq_self_iff_true]; first | done | rfl) | (simp [bI, h2, h4, h7, eq_true h8, pM, pU, heldM_45, gvW_45, inW_45, livN_45, sum9_45, sum13_45, ofMinerE, ofMinerR]; done) | (simp only [pM, pU, heldM_45, gvW_45, inW_45, livN_45, sum9_45, sum13_45, ofMinerE, ofMinerR, bI, ← Int32.not_le] at *; simp [h2, h4, h7, eq_true h8]; done) | (simp_all [bI, h2, h4, h7, eq_true h8, pM, pU, heldM_45, gvW_45, inW_45, livN_45, sum9_45, sum13_45, ofMinerE, ofMinerR]; done) | (simp_all [bI, h2, h4, h7, eq_true h8, pM, pU, heldM_45, gvW_45, inW_45, livN_45, sum9_45, sum13_45, ofMinerE, ofMinerR]; rfl) | (exfalso; omega), by trivial⟩
      by_cases h9 : w_ = 2
      · skip
        refine v_tabIn C (off := 57) (q := 94) dX8_ofMiner_37 (by rw [h9]; decide) (by rw [h9]; decide) (by rw [h9]; rfl) rfl ?_
        refine v_aload_n C dX8_ofMiner_94 rfl 0 rfl ?_
        refine v_get C (v := .ref (a 1 15)) g_X8_41 (m0 (s := s) (t := ((su t 45 0 0))) (g := G.2.2.1) hL) (rg (by decide) rfl) dX8_ofMiner_95 rfl ?_
        refine v_iload_n C dX8_ofMiner_98 rfl 1 rfl ?_
        refine v_iald C (len := 12) (m1 (s := s) (t := ((su t 45 0 0))) (g := G.2.2.1) hL 15 rfl) (vp_cnt (by assumption) hm hm12 (by decide)) dX8_ofMiner_99 rfl ?_
        refine xx_top (y := t 15 (tn x)) rfl ?_
        exact v_iret C (by decide) (by decide) dX8_ofMiner_100 ⟨congrArg (fun z => some (Value.int z)) (by first | rfl | (simp only [h2, h4, h7, h8, eq_true h9, pM, pU, heldM_45, gvW_45, inW_45, livN_45, sum9_45, sum13_45, ofMinerE, ofMinerR, bI, pM, pU, n10, n20, n30, n0, if_true, if_false, ite_true, ite_false, not_true_eq_false, not_false_eq_true, and_true, true_and, and_false, false_and, or_true, true_or, or_false, false_or, reduceIte, and_self, or_self, ne_eq, eq_self_iff_true]; first | done | rfl) | (simp [bI, h2, h4, h7, h8, eq_true h9, pM, pU, heldM_45, gvW_45, inW_45, livN_45, sum9_45, sum13_45, ofMinerE, ofMinerR]; done) | (simp only [pM, pU, heldM_45, gvW_45, inW_45, livN_45, sum9_45, sum13_45, ofMinerE, ofMinerR, bI, ← Int32.not_le] at *; simp [h2, h4, h7, h8, eq_true h9]; done) | (simp_all [bI, h2, h4, h7, h8, eq_true h9, pM, pU, heldM_45, gvW_45, inW_45, livN_45, sum9_45, sum13_45, ofMinerE, ofMinerR]; done) | (simp_all [bI, h2, h4, h7, h8, eq_true h9, pM, pU, heldM_45, gvW_45, inW_45, livN_45, sum9_45, sum13_45, ofMinerE, ofMinerR]; rfl) | (exfalso; omega)), by first | rfl | (simp only [h2, h4, h7, h8, eq_true h9, pM, pU, heldM_45, gvW_45, inW_45, livN_45, sum9_45, sum13_45, ofMinerE, ofMinerR, bI, pM, pU, n10, n20, n30, n0, if_true, if_false, ite_true, ite_false, not_true_eq_false, not_false_eq_true, and_true, true_and, and_false, false_and, or_true, true_or, or_false, false_or, reduceIte, and_self, or_self, ne_eq, eq_self_iff_true]; first | done | rfl) | (simp [bI, h2, h4, h7, h8, eq_true h9, pM, pU, heldM_45, gvW_45, inW_45, livN_45, sum9_45, sum13_45, ofMinerE, ofMinerR]; done) | (simp only [pM, pU, heldM_45, gvW_45, inW_45, livN_45, sum9_45, sum13_45, ofMinerE, ofMinerR, bI, ← Int32.not_le] at *; simp [h2, h4, h7, h8, eq_true h9]; done) | (simp_all [bI, h2, h4, h7, h8, eq_true h9, pM, pU, heldM_45, gvW_45, inW_45, livN_45, sum9_45, sum13_45, ofMinerE, ofMinerR]; done) | (simp_all [bI, h2, h4, h7, h8, eq_true h9, pM, pU, heldM_45, gvW_45, inW_45, livN_45, sum9_45, sum13_45, ofMinerE, ofMinerR]; rfl) | (exfalso; omega), by trivial⟩
      by_cases h10 : w_ = 3
      · skip
        refine v_tabIn C (off := 64) (q := 101) dX8_ofMiner_37 (by rw [h10]; decide) (by rw [h10]; decide) (by rw [h10]; rfl) rfl ?_
        refine v_aload_n C dX8_ofMiner_101 rfl 0 rfl ?_
        refine v_get C (v := .ref (a 1 16)) g_X8_44 (m0 (s := s) (t := ((su t 45 0 0))) (g := G.2.2.1) hL) (rg (by decide) rfl) dX8_ofMiner_102 rfl ?_
        refine v_iload_n C dX8_ofMiner_105 rfl 1 rfl ?_
        refine v_iald C (len := 12) (m1 (s := s) (t := ((su t 45 0 0))) (g := G.2.2.1) hL 16 rfl) (vp_cnt (by assumption) hm hm12 (by decide)) dX8_ofMiner_106 rfl ?_
        refine xx_top (y := t 16 (tn x)) rfl ?_
        exact v_iret C (by decide) (by decide) dX8_ofMiner_107 ⟨congrArg (fun z => some (Value.int z)) (by first | rfl | (simp only [h2, h4, h7, h8, h9, eq_true h10, pM, pU, heldM_45, gvW_45, inW_45, livN_45, sum9_45, sum13_45, ofMinerE, ofMinerR, bI, pM, pU, n10, n20, n30, n0, if_true, if_false, ite_true, ite_false, not_true_eq_false, not_false_eq_true, and_true, true_and, and_false, false_and, or_true, true_or, or_false, false_or, reduceIte, and_self, or_self, ne_eq, eq_self_iff_true]; first | done | rfl) | (simp [bI, h2, h4, h7, h8, h9, eq_true h10, pM, pU, heldM_45, gvW_45, inW_45, livN_45, sum9_45, sum13_45, ofMinerE, ofMinerR]; done) | (simp only [pM, pU, heldM_45, gvW_45, inW_45, livN_45, sum9_45, sum13_45, ofMinerE, ofMinerR, bI, ← Int32.not_le] at *; simp [h2, h4, h7, h8, h9, eq_true h10]; done) | (simp_all [bI, h2, h4, h7, h8, h9, eq_true h10, pM, pU, heldM_45, gvW_45, inW_45, livN_45, sum9_45, sum13_45, ofMinerE, ofMinerR]; done) | (simp_all [bI, h2, h4, h7, h8, h9, eq_true h10, pM, pU, heldM_45, gvW_45, inW_45, livN_45, sum9_45, sum13_45, ofMinerE, ofMinerR]; rfl) | (exfalso; omega)), by first | rfl | (simp only [h2, h4, h7, h8, h9, eq_true h10, pM, pU, heldM_45, gvW_45, inW_45, livN_45, sum9_45, sum13_45, ofMinerE, ofMinerR, bI, pM, pU, n10, n20, n30, n0, if_true, if_false, ite_true, ite_false, not_true_eq_false, not_false_eq_true, and_true, true_and, and_false, false_and, or_true, true_or, or_false, false_or, reduceIte, and_self, or_self, ne_eq, eq_self_iff_true]; first | done | rfl) | (simp [bI, h2, h4, h7, h8, h9, eq_true h10, pM, pU, heldM_45, gvW_45, inW_45, livN_45, sum9_45, sum13_45, ofMinerE, ofMinerR]; done) | (simp only [pM, pU, heldM_45, gvW_45, inW_45, livN_45, sum9_45, sum13_45, ofMinerE, ofMinerR, bI, ← Int32.not_le] at *; simp [h2, h4, h7, h8, h9, eq_true h10]; done) | (simp_all [bI, h2, h4, h7, h8, h9, eq_true h10, pM, pU, heldM_45, gvW_45, inW_45, livN_45, sum9_45, sum13_45, ofMinerE, ofMinerR]; done) | (simp_all [bI, h2, h4, h7, h8, h9, eq_true h10, pM, pU, heldM_45, gvW_45, inW_45, livN_45, sum9_45, sum13_45, ofMinerE, ofMinerR]; rfl) | (exfalso; omega), by trivial⟩
      by_cases h11 : w_ = 4
      · skip
        refine v_tabIn C (off := 71) (q := 108) dX8_ofMiner_37 (by rw [h11]; decide) (by rw [h11]; decide) (by rw [h11]; rfl) rfl ?_
        refine v_aload_n C dX8_ofMiner_108 rfl 0 rfl ?_
        refine v_get C (v := .ref (a 1 17)) g_X8_47 (m0 (s := s) (t := ((su t 45 0 0))) (g := G.2.2.1) hL) (rg (by decide) rfl) dX8_ofMiner_109 rfl ?_
        refine v_iload_n C dX8_ofMiner_112 rfl 1 rfl ?_
        refine v_iald C (len := 12) (m1 (s := s) (t := ((su t 45 0 0))) (g := G.2.2.1) hL 17 rfl) (vp_cnt (by assumption) hm hm12 (by decide)) dX8_ofMiner_113 rfl ?_
        refine xx_top (y := t 17 (tn x)) rfl ?_
        exact v_iret C (by decide) (by decide) dX8_ofMiner_114 ⟨congrArg (fun z => some (Value.int z)) (by first | rfl | (simp only [h2, h4, h7, h8, h9, h10, eq_true h11, pM, pU, heldM_45, gvW_45, inW_45, livN_45, sum9_45, sum13_45, ofMinerE, ofMinerR, bI, pM, pU, n10, n20, n30, n0, if_true, if_false, ite_true, ite_false, not_true_eq_false, not_false_eq_true, and_true, true_and, and_false, false_and, or_true, true_or, or_false, false_or, reduceIte, and_self, or_self, ne_eq, eq_self_iff_true]; first | done | rfl) | (simp [bI, h2, h4, h7, h8, h9, h10, eq_true h11, pM, pU, heldM_45, gvW_45, inW_45, livN_45, sum9_45, sum13_45, ofMinerE, ofMinerR]; done) | (simp only [pM, pU, heldM_45, gvW_45, inW_45, livN_45, sum9_45, sum13_45, ofMinerE, ofMinerR, bI, ← Int32.not_le] at *; simp [h2, h4, h7, h8, h9, h10, eq_true h11]; done) | (simp_all [bI, h2, h4, h7, h8, h9, h10, eq_true h11, pM, pU, heldM_45, gvW_45, inW_45, livN_45, sum9_45, sum13_45, ofMinerE, ofMinerR]; done) | (simp_all [bI, h2, h4, h7, h8, h9, h10, eq_true h11, pM, pU, heldM_45, gvW_45, inW_45, livN_45, sum9_45, sum13_45, ofMinerE, ofMinerR]; rfl) | (exfalso; omega)), by first | rfl | (simp only [h2, h4, h7, h8, h9, h10, eq_true h11, pM, pU, heldM_45, gvW_45, inW_45, livN_45, sum9_45, sum13_45, ofMinerE, ofMinerR, bI, pM, pU, n10, n20, n30, n0, if_true, if_false, ite_true, ite_false, not_true_eq_false, not_false_eq_true, and_true, true_and, and_false, false_and, or_true, true_or, or_false, false_or, reduceIte, and_self, or_self, ne_eq, eq_self_iff_true]; first | done | rfl) | (simp [bI, h2, h4, h7, h8, h9, h10, eq_true h11, pM, pU, heldM_45, gvW_45, inW_45, livN_45, sum9_45, sum13_45, ofMinerE, ofMinerR]; done) | (simp only [pM, pU, heldM_45, gvW_45, inW_45, livN_45, sum9_45, sum13_45, ofMinerE, ofMinerR, bI, ← Int32.not_le] at *; simp [h2, h4, h7, h8, h9, h10, eq_true h11]; done) | (simp_all [bI, h2, h4, h7, h8, h9, h10, eq_true h11, pM, pU, heldM_45, gvW_45, inW_45, livN_45, sum9_45, sum13_45, ofMinerE, ofMinerR]; done) | (simp_all [bI, h2, h4, h7, h8, h9, h10, eq_true h11, pM, pU, heldM_45, gvW_45, inW_45, livN_45, sum9_45, sum13_45, ofMinerE, ofMinerR]; rfl) | (exfalso; omega), by trivial⟩
      by_cases h12 : w_ = 5
      · skip
        refine v_tabIn C (off := 78) (q := 115) dX8_ofMiner_37 (by rw [h12]; decide) (by rw [h12]; decide) (by rw [h12]; rfl) rfl ?_
        refine v_aload_n C dX8_ofMiner_115 rfl 0 rfl ?_
        refine v_iload_n C dX8_ofMiner_116 rfl 1 rfl ?_
        refine w_invVr C [.int (x)] 0 0 L_X8_195 (c_X8_inchesOf (s := s) (t := ((su t 45 0 0))) (nr := nr) hst hG hL x hr hr20 hro) (m0 (s := s) (t := ((su t 45 0 0))) (g := G.2.2.1) hL) rfl rfl rfl rfl dX8_ofMiner_117 rfl kx_no (fun h13 => ?_)
        exact v_iret C (by decide) (by decide) dX8_ofMiner_120 ⟨congrArg (fun z => some (Value.int z)) (by first | rfl | (simp only [h2, h4, h7, h8, h9, h10, h11, eq_true h12, pM, pU, heldM_45, gvW_45, inW_45, livN_45, sum9_45, sum13_45, ofMinerE, ofMinerR, bI, pM, pU, n10, n20, n30, n0, if_true, if_false, ite_true, ite_false, not_true_eq_false, not_false_eq_true, and_true, true_and, and_false, false_and, or_true, true_or, or_false, false_or, reduceIte, and_self, or_self, ne_eq, eq_self_iff_true]; first | done | rfl) | (simp [bI, h2, h4, h7, h8, h9, h10, h11, eq_true h12, pM, pU, heldM_45, gvW_45, inW_45, livN_45, sum9_45, sum13_45, ofMinerE, ofMinerR]; done) | (simp only [pM, pU, heldM_45, gvW_45, inW_45, livN_45, sum9_45, sum13_45, ofMinerE, ofMinerR, bI, ← Int32.not_le] at *; simp [h2, h4, h7, h8, h9, h10, h11, eq_true h12]; done) | (simp_all [bI, h2, h4, h7, h8, h9, h10, h11, eq_true h12, pM, pU, heldM_45, gvW_45, inW_45, livN_45, sum9_45, sum13_45, ofMinerE, ofMinerR]; done) | (simp_all [bI, h2, h4, h7, h8, h9, h10, h11, eq_true h12, pM, pU, heldM_45, gvW_45, inW_45, livN_45, sum9_45, sum13_45, ofMinerE, ofMinerR]; rfl) | (exfalso; omega)), by first | rfl | (simp only [h2, h4, h7, h8, h9, h10, h11, eq_true h12, pM, pU, heldM_45, gvW_45, inW_45, livN_45, sum9_45, sum13_45, ofMinerE, ofMinerR, bI, pM, pU, n10, n20, n30, n0, if_true, if_false, ite_true, ite_false, not_true_eq_false, not_false_eq_true, and_true, true_and, and_false, false_and, or_true, true_or, or_false, false_or, reduceIte, and_self, or_self, ne_eq, eq_self_iff_true]; first | done | rfl) | (simp [bI, h2, h4, h7, h8, h9, h10, h11, eq_true h12, pM, pU, heldM_45, gvW_45, inW_45, livN_45, sum9_45, sum13_45, ofMinerE, ofMinerR]; done) | (simp only [pM, pU, heldM_45, gvW_45, inW_45, livN_45, sum9_45, sum13_45, ofMinerE, ofMinerR, bI, ← Int32.not_le] at *; simp [h2, h4, h7, h8, h9, h10, h11, eq_true h12]; done) | (simp_all [bI, h2, h4, h7, h8, h9, h10, h11, eq_true h12, pM, pU, heldM_45, gvW_45, inW_45, livN_45, sum9_45, sum13_45, ofMinerE, ofMinerR]; done) | (simp_all [bI, h2, h4, h7, h8, h9, h10, h11, eq_true h12, pM, pU, heldM_45, gvW_45, inW_45, livN_45, sum9_45, sum13_45, ofMinerE, ofMinerR]; rfl) | (exfalso; omega), by trivial⟩
      by_cases h14 : w_ = 6
      · skip
        refine v_tabIn C (off := 84) (q := 121) dX8_ofMiner_37 (by rw [h14]; decide) (by rw [h14]; decide) (by rw [h14]; rfl) rfl ?_
        refine v_aload_n C dX8_ofMiner_121 rfl 0 rfl ?_
        refine v_get C (v := .ref (a 1 18)) g_X8_50 (m0 (s := s) (t := ((su t 45 0 0))) (g := G.2.2.1) hL) (rg (by decide) rfl) dX8_ofMiner_122 rfl ?_
        refine v_iload_n C dX8_ofMiner_125 rfl 1 rfl ?_
        refine v_iald C (len := 12) (m1 (s := s) (t := ((su t 45 0 0))) (g := G.2.2.1) hL 18 rfl) (vp_cnt (by assumption) hm hm12 (by decide)) dX8_ofMiner_126 rfl ?_
        refine xx_top (y := t 18 (tn x)) rfl ?_
        exact v_iret C (by decide) (by decide) dX8_ofMiner_127 ⟨congrArg (fun z => some (Value.int z)) (by first | rfl | (simp only [h2, h4, h7, h8, h9, h10, h11, h12, eq_true h14, pM, pU, heldM_45, gvW_45, inW_45, livN_45, sum9_45, sum13_45, ofMinerE, ofMinerR, bI, pM, pU, n10, n20, n30, n0, if_true, if_false, ite_true, ite_false, not_true_eq_false, not_false_eq_true, and_true, true_and, and_false, false_and, or_true, true_or, or_false, false_or, reduceIte, and_self, or_self, ne_eq, eq_self_iff_true]; first | done | rfl) | (simp [bI, h2, h4, h7, h8, h9, h10, h11, h12, eq_true h14, pM, pU, heldM_45, gvW_45, inW_45, livN_45, sum9_45, sum13_45, ofMinerE, ofMinerR]; done) | (simp only [pM, pU, heldM_45, gvW_45, inW_45, livN_45, sum9_45, sum13_45, ofMinerE, ofMinerR, bI, ← Int32.not_le] at *; simp [h2, h4, h7, h8, h9, h10, h11, h12, eq_true h14]; done) | (simp_all [bI, h2, h4, h7, h8, h9, h10, h11, h12, eq_true h14, pM, pU, heldM_45, gvW_45, inW_45, livN_45, sum9_45, sum13_45, ofMinerE, ofMinerR]; done) | (simp_all [bI, h2, h4, h7, h8, h9, h10, h11, h12, eq_true h14, pM, pU, heldM_45, gvW_45, inW_45, livN_45, sum9_45, sum13_45, ofMinerE, ofMinerR]; rfl) | (exfalso; omega)), by first | rfl | (simp only [h2, h4, h7, h8, h9, h10, h11, h12, eq_true h14, pM, pU, heldM_45, gvW_45, inW_45, livN_45, sum9_45, sum13_45, ofMinerE, ofMinerR, bI, pM, pU, n10, n20, n30, n0, if_true, if_false, ite_true, ite_false, not_true_eq_false, not_false_eq_true, and_true, true_and, and_false, false_and, or_true, true_or, or_false, false_or, reduceIte, and_self, or_self, ne_eq, eq_self_iff_true]; first | done | rfl) | (simp [bI, h2, h4, h7, h8, h9, h10, h11, h12, eq_true h14, pM, pU, heldM_45, gvW_45, inW_45, livN_45, sum9_45, sum13_45, ofMinerE, ofMinerR]; done) | (simp only [pM, pU, heldM_45, gvW_45, inW_45, livN_45, sum9_45, sum13_45, ofMinerE, ofMinerR, bI, ← Int32.not_le] at *; simp [h2, h4, h7, h8, h9, h10, h11, h12, eq_true h14]; done) | (simp_all [bI, h2, h4, h7, h8, h9, h10, h11, h12, eq_true h14, pM, pU, heldM_45, gvW_45, inW_45, livN_45, sum9_45, sum13_45, ofMinerE, ofMinerR]; done) | (simp_all [bI, h2, h4, h7, h8, h9, h10, h11, h12, eq_true h14, pM, pU, heldM_45, gvW_45, inW_45, livN_45, sum9_45, sum13_45, ofMinerE, ofMinerR]; rfl) | (exfalso; omega), by trivial⟩
      have fh7 : (w_).toInt ≠ 0 := fun h => h7 (Int32.toInt_inj.mp (h.trans (by decide)))
      have fh8 : (w_).toInt ≠ 1 := fun h => h8 (Int32.toInt_inj.mp (h.trans (by decide)))
      have fh9 : (w_).toInt ≠ 2 := fun h => h9 (Int32.toInt_inj.mp (h.trans (by decide)))
      have fh10 : (w_).toInt ≠ 3 := fun h => h10 (Int32.toInt_inj.mp (h.trans (by decide)))
      have fh11 : (w_).toInt ≠ 4 := fun h => h11 (Int32.toInt_inj.mp (h.trans (by decide)))
      have fh12 : (w_).toInt ≠ 5 := fun h => h12 (Int32.toInt_inj.mp (h.trans (by decide)))
      have fh14 : (w_).toInt ≠ 6 := fun h => h14 (Int32.toInt_inj.mp (h.trans (by decide)))
      refine v_tabOut C (q := 128) dX8_ofMiner_37 (by omega) rfl ?_
      refine v_aload_n C dX8_ofMiner_128 rfl 0 rfl ?_
      refine v_iload_n C dX8_ofMiner_129 rfl 1 rfl ?_
      refine w_invVr C [.int (x)] 0 0 L_X8_227 (c_X8_backed (s := s) (t := ((su t 45 0 0))) (nm := nm) hst hG hL x _ (in_nI (N := 12) (vp_cnt (by assumption) hm hm12 (by decide)) (by omega)) (in_lt (N := 12) (vp_cnt (by assumption) hm hm12 (by decide))) hm hm12) (m0 (s := s) (t := ((su t 45 0 0))) (g := G.2.2.1) hL) rfl rfl rfl rfl dX8_ofMiner_130 rfl kx_no (fun h15 => ?_)
      exact v_iret C (by decide) (by decide) dX8_ofMiner_133 ⟨congrArg (fun z => some (Value.int z)) (by first | rfl | (simp only [h2, h4, h7, h8, h9, h10, h11, h12, h14, pM, pU, heldM_45, gvW_45, inW_45, livN_45, sum9_45, sum13_45, ofMinerE, ofMinerR, bI, pM, pU, n10, n20, n30, n0, if_true, if_false, ite_true, ite_false, not_true_eq_false, not_false_eq_true, and_true, true_and, and_false, false_and, or_true, true_or, or_false, false_or, reduceIte, and_self, or_self, ne_eq, eq_self_iff_true]; first | done | rfl) | (simp [bI, h2, h4, h7, h8, h9, h10, h11, h12, h14, pM, pU, heldM_45, gvW_45, inW_45, livN_45, sum9_45, sum13_45, ofMinerE, ofMinerR]; done) | (simp only [pM, pU, heldM_45, gvW_45, inW_45, livN_45, sum9_45, sum13_45, ofMinerE, ofMinerR, bI, ← Int32.not_le] at *; simp [h2, h4, h7, h8, h9, h10, h11, h12, h14]; done) | (simp_all [bI, h2, h4, h7, h8, h9, h10, h11, h12, h14, pM, pU, heldM_45, gvW_45, inW_45, livN_45, sum9_45, sum13_45, ofMinerE, ofMinerR]; done) | (simp_all [bI, h2, h4, h7, h8, h9, h10, h11, h12, h14, pM, pU, heldM_45, gvW_45, inW_45, livN_45, sum9_45, sum13_45, ofMinerE, ofMinerR]; rfl) | (exfalso; omega)), by first | rfl | (simp only [h2, h4, h7, h8, h9, h10, h11, h12, h14, pM, pU, heldM_45, gvW_45, inW_45, livN_45, sum9_45, sum13_45, ofMinerE, ofMinerR, bI, pM, pU, n10, n20, n30, n0, if_true, if_false, ite_true, ite_false, not_true_eq_false, not_false_eq_true, and_true, true_and, and_false, false_and, or_true, true_or, or_false, false_or, reduceIte, and_self, or_self, ne_eq, eq_self_iff_true]; first | done | rfl) | (simp [bI, h2, h4, h7, h8, h9, h10, h11, h12, h14, pM, pU, heldM_45, gvW_45, inW_45, livN_45, sum9_45, sum13_45, ofMinerE, ofMinerR]; done) | (simp only [pM, pU, heldM_45, gvW_45, inW_45, livN_45, sum9_45, sum13_45, ofMinerE, ofMinerR, bI, ← Int32.not_le] at *; simp [h2, h4, h7, h8, h9, h10, h11, h12, h14]; done) | (simp_all [bI, h2, h4, h7, h8, h9, h10, h11, h12, h14, pM, pU, heldM_45, gvW_45, inW_45, livN_45, sum9_45, sum13_45, ofMinerE, ofMinerR]; done) | (simp_all [bI, h2, h4, h7, h8, h9, h10, h11, h12, h14, pM, pU, heldM_45, gvW_45, inW_45, livN_45, sum9_45, sum13_45, ofMinerE, ofMinerR]; rfl) | (exfalso; omega), by trivial⟩
  · skip
    refine v_iconst C (v := 1) dX8_ofMiner_9 rfl rfl ?_
    refine v_goto C (q := 28) dX8_ofMiner_10 rfl ?_
    refine w_invVr C [.int (1)] 0 0 L_X8_145 (c_X8_holdsTo (s := s) (t := t)  hst hG hL 1) (m0 (s := s) (t := t) (g := G.2.2.1) hL) rfl rfl rfl rfl dX8_ofMiner_28 rfl kx_no (fun h16 => ?_)
    refine v_ifB_ne C (t := 36) dX8_ofMiner_31 rfl rfl (fun h => absurd h (by decide)) (fun _ => ?_)
    refine v_iconst C (v := 0) dX8_ofMiner_34 rfl rfl ?_
    exact v_iret C (by decide) (by decide) dX8_ofMiner_35 ⟨congrArg (fun z => some (Value.int z)) (by first | rfl | (simp only [h2, pM, pU, heldM_45, gvW_45, inW_45, livN_45, sum9_45, sum13_45, ofMinerE, ofMinerR, bI, pM, pU, n10, n20, n30, n0, if_true, if_false, ite_true, ite_false, not_true_eq_false, not_false_eq_true, and_true, true_and, and_false, false_and, or_true, true_or, or_false, false_or, reduceIte, and_self, or_self, ne_eq, eq_self_iff_true]; first | done | rfl) | (simp [bI, h2, pM, pU, heldM_45, gvW_45, inW_45, livN_45, sum9_45, sum13_45, ofMinerE, ofMinerR]; done) | (simp only [pM, pU, heldM_45, gvW_45, inW_45, livN_45, sum9_45, sum13_45, ofMinerE, ofMinerR, bI, ← Int32.not_le] at *; simp [h2]; done) | (simp_all [bI, h2, pM, pU, heldM_45, gvW_45, inW_45, livN_45, sum9_45, sum13_45, ofMinerE, ofMinerR]; done) | (simp_all [bI, h2, pM, pU, heldM_45, gvW_45, inW_45, livN_45, sum9_45, sum13_45, ofMinerE, ofMinerR]; rfl) | (exfalso; omega)), by first | rfl | (simp only [h2, pM, pU, heldM_45, gvW_45, inW_45, livN_45, sum9_45, sum13_45, ofMinerE, ofMinerR, bI, pM, pU, n10, n20, n30, n0, if_true, if_false, ite_true, ite_false, not_true_eq_false, not_false_eq_true, and_true, true_and, and_false, false_and, or_true, true_or, or_false, false_or, reduceIte, and_self, or_self, ne_eq, eq_self_iff_true]; first | done | rfl) | (simp [bI, h2, pM, pU, heldM_45, gvW_45, inW_45, livN_45, sum9_45, sum13_45, ofMinerE, ofMinerR]; done) | (simp only [pM, pU, heldM_45, gvW_45, inW_45, livN_45, sum9_45, sum13_45, ofMinerE, ofMinerR, bI, ← Int32.not_le] at *; simp [h2]; done) | (simp_all [bI, h2, pM, pU, heldM_45, gvW_45, inW_45, livN_45, sum9_45, sum13_45, ofMinerE, ofMinerR]; done) | (simp_all [bI, h2, pM, pU, heldM_45, gvW_45, inW_45, livN_45, sum9_45, sum13_45, ofMinerE, ofMinerR]; rfl) | (exfalso; omega), by trivial⟩

abbrev r_X8_arrives : Room := { frames := 0, cells := 0, slots := 0, locals := 0 }
set_option maxRecDepth 4000 in
theorem c_X8_arrives {l : Launch} {G : GG} {a : AD} {s t s0 : SS} {L : List (Nat × Nat)} {nf : Nat} (hst : l.stackTraces = false) (hG : GOK G) (hL : Live L s0)  (hf : t 36 0 = nI nf) (hf20 : nf ≤ 20) : Mth l yX8_arrives cX8_arrives 3 (Option.none : Option Jvm.ClassFile.FieldType) r_X8_arrives G (wl a (E G.2.2.1 a s t) L) [.ref (a 0 0)] (RV (wl a (E G.2.2.1 a s (arF t nf)) L) (True)) nX := by
  refine mth_of rfl (Nat.le_of_ble_eq_true rfl) hst hG (fun X hX C0 => ?_)
  subst hX
  have C : Cx X G cX8_arrives 3 RX8 (Option.none : Option Jvm.ClassFile.FieldType) r_X8_arrives "arrives" [] := C0
  clear C0
  show V X G 3 _ 0 0 _ 0 [(0, .ref (a 0 0))] []
  refine v_iconst C (v := 0) dX8_arrives_0 rfl rfl ?_
  refine v_istore_n C (lv1 := [(1, .int (0)), (0, .ref (a 0 0))]) dX8_arrives_1 rfl (by decide) rfl ?_
  refine v_iconst C (v := 0) dX8_arrives_2 rfl rfl ?_
  refine v_istore_n C (lv1 := [(2, .int (0)), (1, .int (0)), (0, .ref (a 0 0))]) dX8_arrives_3 rfl (by decide) rfl ?_
  refine xx_lv [2, 1, 0] (lv' := [(0, .ref (a 0 0)), (1, .int (0)), (2, .int (0))]) rfl ?_
  refine xx_wc (w2 := wl a (E G.2.2.1 a s (arS t 0).1) L) (lv' := [(0, .ref (a 0 0)), (1, .int (nI ((arS t 0).2))), (2, .int (nI (0)))]) (by rfl) (by first | rfl | (simp [bI, arS, arF]; done)) ?_
  refine xx_loop (nf) 0 (fun i => wl a (E G.2.2.1 a s (arS t i).1) L) (fun i => [(0, .ref (a 0 0)), (1, .int (nI ((arS t i).2))), (2, .int (nI (i)))]) (by omega) ?_
  intro i hi0 hiN ih_i
  have hle := arS_le (z := t) i
  refine v_iload_n C dX8_arrives_4 rfl 2 rfl ?_
  refine v_aload_n C dX8_arrives_5 rfl 0 rfl ?_
  refine v_get C (v := .int ((arS t i).1 36 0)) g_X8_152 (m0 (s := s) (t := ((arS t i).1)) (g := G.2.2.1) hL) (rg (by decide) rfl) dX8_arrives_6 rfl ?_
  refine xx_top (y := t 36 0) (congrFun (arS_o (k := 36) (by decide) (by decide) (by decide) _) _) ?_
  refine xx_top (y := nI nf) hf ?_
  refine v_icN_ge C (t := 76) i nf rfl rfl (by omega) (by omega) dX8_arrives_9 rfl rfl (fun h1 => ?_) (fun h1 => ?_)
  · skip
    refine v_aload_n C dX8_arrives_76 rfl 0 rfl ?_
    refine v_iload_n C dX8_arrives_77 rfl 1 rfl ?_
    refine v_put C f_X8_152 (put_m0 (s := s) (t := ((arS t i).1)) (g := G.2.2.1) hL 36 rfl (nI ((arS t i).2))) rfl rfl (rg_len (by decide)) dX8_arrives_78 rfl ?_
    exact v_vret C (by decide) (by decide) dX8_arrives_81 ⟨rfl, by (have : i = nf := by omega); subst this; rfl, by trivial⟩
  · skip
    refine v_aload_n C dX8_arrives_12 rfl 0 rfl ?_
    refine v_get C (v := .ref (a 1 38)) g_X8_102 (m0 (s := s) (t := ((arS t i).1)) (g := G.2.2.1) hL) (rg (by decide) rfl) dX8_arrives_13 rfl ?_
    refine v_iload_n C dX8_arrives_16 rfl 2 rfl ?_
    refine v_ialdE C (len := 20) i (m1 (s := s) (t := ((arS t i).1)) (g := G.2.2.1) hL 38 rfl) (nI_clamp (by omega)) (pk_in i 20 (by omega)) dX8_arrives_17 rfl ?_
    refine v_aload_n C dX8_arrives_18 rfl 0 rfl ?_
    refine v_get C (v := .int ((arS t i).1 0 0)) g_X8_138 (m0 (s := s) (t := ((arS t i).1)) (g := G.2.2.1) hL) (rg (by decide) rfl) dX8_arrives_19 rfl ?_
    refine xx_top (y := t 0 0) (congrFun (arS_o (k := 0) (by decide) (by decide) (by decide) _) _) ?_
    refine v_icmp_ne C (t := 43) dX8_arrives_22 rfl rfl (fun h2 => ?_) (fun h2 => ?_)
    · skip
      refine v_aload_n C dX8_arrives_43 rfl 0 rfl ?_
      refine v_get C (v := .ref (a 1 37)) g_X8_99 (m0 (s := s) (t := ((arS t i).1)) (g := G.2.2.1) hL) (rg (by decide) rfl) dX8_arrives_44 rfl ?_
      refine v_iload_n C dX8_arrives_47 rfl 1 rfl ?_
      refine v_aload_n C dX8_arrives_48 rfl 0 rfl ?_
      refine v_get C (v := .ref (a 1 37)) g_X8_99 (m0 (s := s) (t := ((arS t i).1)) (g := G.2.2.1) hL) (rg (by decide) rfl) dX8_arrives_49 rfl ?_
      refine v_iload_n C dX8_arrives_52 rfl 2 rfl ?_
      refine v_ialdE C (len := 20) i (m1 (s := s) (t := ((arS t i).1)) (g := G.2.2.1) hL 37 rfl) (nI_clamp (by omega)) (pk_in i 20 (by omega)) dX8_arrives_53 rfl ?_
      refine v_iastE C (len := 20) ((arS t i).2) (put_m1 (s := s) (t := ((arS t i).1)) (g := G.2.2.1) hL 37 rfl ((arS t i).2) ((arS t i).1 37 i)) (nI_clamp (by omega)) (pk_in ((arS t i).2) 20 (by omega)) dX8_arrives_54 rfl ?_
      refine v_aload_n C dX8_arrives_55 rfl 0 rfl ?_
      refine v_get C (v := .ref (a 1 38)) g_X8_102 (m0 (s := s) (t := ((su (arS t i).1 37 ((arS t i).2) ((arS t i).1 37 i)))) (g := G.2.2.1) hL) (rg (by decide) rfl) dX8_arrives_56 rfl ?_
      refine v_iload_n C dX8_arrives_59 rfl 1 rfl ?_
      refine v_aload_n C dX8_arrives_60 rfl 0 rfl ?_
      refine v_get C (v := .ref (a 1 38)) g_X8_102 (m0 (s := s) (t := ((su (arS t i).1 37 ((arS t i).2) ((arS t i).1 37 i)))) (g := G.2.2.1) hL) (rg (by decide) rfl) dX8_arrives_61 rfl ?_
      refine v_iload_n C dX8_arrives_64 rfl 2 rfl ?_
      refine v_ialdE C (len := 20) i (m1 (s := s) (t := ((su (arS t i).1 37 ((arS t i).2) ((arS t i).1 37 i)))) (g := G.2.2.1) hL 38 rfl) (nI_clamp (by omega)) (pk_in i 20 (by omega)) dX8_arrives_65 rfl ?_
      refine xx_top (y := (arS t i).1 38 i) rfl ?_
      refine v_iastE C (len := 20) ((arS t i).2) (put_m1 (s := s) (t := ((su (arS t i).1 37 ((arS t i).2) ((arS t i).1 37 i)))) (g := G.2.2.1) hL 38 rfl ((arS t i).2) ((arS t i).1 38 i)) (nI_clamp (by omega)) (pk_in ((arS t i).2) 20 (by omega)) dX8_arrives_66 rfl ?_
      refine v_iincN C (lv1 := [(1, .int (nI ((arS t i).2 + 1))), (0, .ref (a 0 0)), (2, .int (nI (i)))]) ((arS t i).2) rfl dX8_arrives_67 rfl 1 rfl (by decide) rfl ?_
      refine v_iincN C (lv1 := [(2, .int (nI (i + 1))), (1, .int (nI ((arS t i).2 + 1))), (0, .ref (a 0 0))]) i rfl dX8_arrives_70 rfl 2 rfl (by decide) rfl ?_
      refine v_goto C (q := 4) dX8_arrives_73 rfl ?_
      refine xx_lv [2, 1, 0] (lv' := [(0, .ref (a 0 0)), (1, .int (nI ((arS t i).2 + 1))), (2, .int (nI (i + 1)))]) rfl ?_
      refine xx_wc (w2 := wl a (E G.2.2.1 a s (arS t (i + 1)).1) L) (lv' := [(0, .ref (a 0 0)), (1, .int (nI ((arS t (i + 1)).2))), (2, .int (nI (i + 1)))]) (by first | rfl | (simp only [h1, Nat.not_le.mpr h1, h2, arS, if_true, if_false]; done) | (simp [h1, Nat.not_le.mpr h1, h2, arS]; done)) (by first | rfl | (simp [h1, Nat.not_le.mpr h1, h2, arS, arF, Nat.add_assoc])) ?_
      exact ih_i (by omega)
    · skip
      refine v_aload_n C dX8_arrives_25 rfl 0 rfl ?_
      refine v_dup C dX8_arrives_26 rfl rfl ?_
      refine v_get C (v := .int ((arS t i).1 5 0)) g_X8_22 (m0 (s := s) (t := ((arS t i).1)) (g := G.2.2.1) hL) (rg (by decide) rfl) dX8_arrives_27 rfl ?_
      refine v_aload_n C dX8_arrives_30 rfl 0 rfl ?_
      refine v_get C (v := .ref (a 1 37)) g_X8_99 (m0 (s := s) (t := ((arS t i).1)) (g := G.2.2.1) hL) (rg (by decide) rfl) dX8_arrives_31 rfl ?_
      refine v_iload_n C dX8_arrives_34 rfl 2 rfl ?_
      refine v_ialdE C (len := 20) i (m1 (s := s) (t := ((arS t i).1)) (g := G.2.2.1) hL 37 rfl) (nI_clamp (by omega)) (pk_in i 20 (by omega)) dX8_arrives_35 rfl ?_
      refine v_iadd C dX8_arrives_36 rfl ?_
      refine v_put C f_X8_22 (put_m0 (s := s) (t := ((arS t i).1)) (g := G.2.2.1) hL 5 rfl (((arS t i).1 5 0) + ((arS t i).1 37 i))) rfl rfl (rg_len (by decide)) dX8_arrives_37 rfl ?_
      refine v_goto C (q := 70) dX8_arrives_40 rfl ?_
      refine v_iincN C (lv1 := [(2, .int (nI (i + 1))), (0, .ref (a 0 0)), (1, .int (nI ((arS t i).2)))]) i rfl dX8_arrives_70 rfl 2 rfl (by decide) rfl ?_
      refine v_goto C (q := 4) dX8_arrives_73 rfl ?_
      refine xx_lv [1, 2, 0] (lv' := [(0, .ref (a 0 0)), (1, .int (nI ((arS t i).2))), (2, .int (nI (i + 1)))]) rfl ?_
      refine xx_wc (w2 := wl a (E G.2.2.1 a s (arS t (i + 1)).1) L) (lv' := [(0, .ref (a 0 0)), (1, .int (nI ((arS t (i + 1)).2))), (2, .int (nI (i + 1)))]) (by first | rfl | (simp only [h1, Nat.not_le.mpr h1, eq_true h2, arS, if_true, if_false]; done) | (simp [h1, Nat.not_le.mpr h1, eq_true h2, arS]; done)) (by first | rfl | (simp [h1, Nat.not_le.mpr h1, eq_true h2, arS, arF, Nat.add_assoc])) ?_
      exact ih_i (by omega)

