theorem eatF_o {z : SS} {j k : Nat} (h15 : k ≠ 15) (h17 : k ≠ 17) : eatF z j k = z k := by
  unfold eatF
  split
  · rw [su_o h17, su_o h15]
  · rw [su_o h17]
def eaW (z : SS) : Nat → SS
  | 0 => z
  | i + 1 => if eaW z i 17 i = 0 then eaW z i else eatF (eaW z i) i
theorem eaW_o {z : SS} {k : Nat} (h15 : k ≠ 15) (h17 : k ≠ 17) : ∀ n, eaW z n k = z k
  | 0 => rfl
  | n + 1 => by
    unfold eaW
    split
    · exact eaW_o h15 h17 n
    · rw [eatF_o h15 h17, eaW_o h15 h17 n]
def fadeF (b : Int32) : Int32 := if b < b / 10 + 1 then 0 else b - (b / 10 + 1)
def fdW (z : SS) : Nat → SS
  | 0 => z
  | i + 1 => su (fdW z i) 11 i (fadeF (fdW z i 11 i))
theorem fdW_o {z : SS} {k : Nat} (h : k ≠ 11) : ∀ n, fdW z n k = z k
  | 0 => rfl
  | n + 1 => by
    unfold fdW
    rw [su_o h, fdW_o h n]
def clW (z : SS) : Nat → SS
  | 0 => z
  | i + 1 => su (clW z i) 25 i (if ¬ clW z i 25 i = 0 ∧ ¬ clW z i 17 (tn (z 22 i)) = 0 ∧ z 0 0 - z 26 i ≤ z 27 i then 1 else 0)
theorem clW_o {z : SS} {k : Nat} (h : k ≠ 25) : ∀ n, clW z n k = z k
  | 0 => rfl
  | n + 1 => by
    unfold clW
    rw [su_o h, clW_o h n]
/-- a day -/
def dayF (z : SS) (nm nc nf : Nat) : SS := clW (fdW (arF (eaW (su z 0 0 (z 0 0 + 1)) nm) nf) 40) nc
theorem dayF_o {z : SS} {nm nc nf k : Nat} (h0 : k ≠ 0) (h5 : k ≠ 5) (h11 : k ≠ 11) (h15 : k ≠ 15) (h17 : k ≠ 17) (h25 : k ≠ 25) (h36 : k ≠ 36) (h37 : k ≠ 37) (h38 : k ≠ 38) : dayF z nm nc nf k = z k := by
  unfold dayF
  rw [clW_o h25, fdW_o h11, arF_o h5 h36 h37 h38, eaW_o h15 h17, su_o h0]
def dayN (z : SS) (nm nf : Nat) : Nat := (arS (eaW (su z 0 0 (z 0 0 + 1)) nm) nf).2
theorem dayF_36 {z : SS} {nm nc nf : Nat} : dayF z nm nc nf 36 0 = nI (dayN z nm nf) := by
  unfold dayF
  rw [clW_o (by decide), fdW_o (by decide)]
  unfold arF
  exact su_a
theorem dayF_0 {z : SS} {nm nc nf : Nat} : dayF z nm nc nf 0 0 = z 0 0 + 1 := by
  unfold dayF
  rw [clW_o (by decide), fdW_o (by decide), arF_o (by decide) (by decide) (by decide) (by decide), eaW_o (by decide) (by decide)]
  exact su_a
def psS (z : SS) (nm nc nf : Nat) : Nat → SS × Nat
  | 0 => (z, nf)
  | i + 1 => (dayF (psS z nm nc nf i).1 nm nc (psS z nm nc nf i).2, dayN (psS z nm nc nf i).1 nm (psS z nm nc nf i).2)
theorem psS_o {z : SS} {nm nc nf k : Nat} (h0 : k ≠ 0) (h5 : k ≠ 5) (h11 : k ≠ 11) (h15 : k ≠ 15) (h17 : k ≠ 17) (h25 : k ≠ 25) (h36 : k ≠ 36) (h37 : k ≠ 37) (h38 : k ≠ 38) : ∀ n, (psS z nm nc nf n).1 k = z k
  | 0 => rfl
  | n + 1 => by
    show dayF _ _ _ _ k = _
    rw [dayF_o h0 h5 h11 h15 h17 h25 h36 h37 h38, psS_o h0 h5 h11 h15 h17 h25 h36 h37 h38 n]
theorem psS_le {z : SS} {nm nc nf : Nat} : ∀ n, (psS z nm nc nf n).2 ≤ nf
  | 0 => Nat.le_refl _
  | n + 1 => Nat.le_trans (arS_le _) (psS_le n)
theorem psS_36 {z : SS} {nm nc nf : Nat} (h : z 36 0 = nI nf) : ∀ n, (psS z nm nc nf n).1 36 0 = nI (psS z nm nc nf n).2
  | 0 => h
  | n + 1 => dayF_36
theorem psS_0 {z : SS} {nm nc nf : Nat} : ∀ n, (psS z nm nc nf n).1 0 0 = z 0 0 + nI n
  | 0 => by show z 0 0 = z 0 0 + 0; rw [Int32.add_zero]
  | n + 1 => by
    show dayF _ _ _ _ 0 0 = _
    rw [dayF_0, psS_0 n, nI_succ, Int32.add_assoc]
def passE (z : SS) (nm : Nat) (nc : Nat) (nf : Nat) (x : Int32) : Int32 := if ¬ (1 ≤ x ∧ x ≤ 200) then 1 else if 5000 < z 0 0 + x then 2 else 0
def passR (z : SS) (nm : Nat) (nc : Nat) (nf : Nat) (x : Int32) : Int32 := z 0 0 + x
def passU (z : SS) (nm : Nat) (nc : Nat) (nf : Nat) (x : Int32) : SS := (psS z nm nc nf (tn x)).1

abbrev r_X8_goesBy : Room := { frames := 2, cells := 0, slots := 0, locals := 42 }
set_option maxRecDepth 4000 in
theorem c_X8_goesBy {l : Launch} {G : GG} {a : AD} {s t s0 : SS} {L : List (Nat × Nat)} {nm : Nat} {nc : Nat} {nf : Nat} (hst : l.stackTraces = false) (hG : GOK G) (hL : Live L s0)  (hm : t 12 0 = nI nm) (hm12 : nm ≤ 12) (hc : t 21 0 = nI nc) (hc30 : nc ≤ 30) (hf : t 36 0 = nI nf) (hf20 : nf ≤ 20) (hco : ∀ i, i < nc → vp_in (t 22 i) 12) : Mth l yX8_goesBy cX8_goesBy 3 (Option.none : Option Jvm.ClassFile.FieldType) r_X8_goesBy G (wl a (E G.2.2.1 a s t) L) [.ref (a 0 0)] (RV (wl a (E G.2.2.1 a s (dayF t nm nc nf)) L) (True)) nX := by
  refine mth_of rfl (Nat.le_of_ble_eq_true rfl) hst hG (fun X hX C0 => ?_)
  subst hX
  have C : Cx X G cX8_goesBy 3 RX8 (Option.none : Option Jvm.ClassFile.FieldType) r_X8_goesBy "goesBy" [] := C0
  clear C0
  show V X G 3 _ 0 0 _ 0 [(0, .ref (a 0 0))] []
  refine v_aload_n C dX8_goesBy_0 rfl 0 rfl ?_
  refine v_dup C dX8_goesBy_1 rfl rfl ?_
  refine v_get C (v := .int (t 0 0)) g_X8_138 (m0 (s := s) (t := t) (g := G.2.2.1) hL) (rg (by decide) rfl) dX8_goesBy_2 rfl ?_
  refine v_iconst C (v := 1) dX8_goesBy_5 rfl rfl ?_
  refine v_iadd C dX8_goesBy_6 rfl ?_
  refine v_put C f_X8_138 (put_m0 (s := s) (t := t) (g := G.2.2.1) hL 0 rfl ((t 0 0) + 1)) rfl rfl (rg_len (by decide)) dX8_goesBy_7 rfl ?_
  refine v_iconst C (v := 0) dX8_goesBy_10 rfl rfl ?_
  refine v_istore_n C (lv1 := [(1, .int (0)), (0, .ref (a 0 0))]) dX8_goesBy_11 rfl (by decide) rfl ?_
  refine xx_lv [1, 0] (lv' := [(0, .ref (a 0 0)), (1, .int (0))]) rfl ?_
  refine xx_wc (w2 := wl a (E G.2.2.1 a s (eaW (su t 0 0 ((t 0 0) + 1)) 0)) L) (lv' := [(0, .ref (a 0 0)), (1, .int (nI (0)))]) (by rfl) (by first | rfl | (simp [bI, eaW, fdW, clW, fadeF]; done)) ?_
  refine xx_loop (nm) 0 (fun i => wl a (E G.2.2.1 a s (eaW (su t 0 0 ((t 0 0) + 1)) i)) L) (fun i => [(0, .ref (a 0 0)), (1, .int (nI (i)))]) (by omega) ?_
  intro i hi0 hiN ih_i
  refine v_iload_n C dX8_goesBy_12 rfl 1 rfl ?_
  refine v_aload_n C dX8_goesBy_13 rfl 0 rfl ?_
  refine v_get C (v := .int ((eaW (su t 0 0 ((t 0 0) + 1)) i) 12 0)) g_X8_127 (m0 (s := s) (t := ((eaW (su t 0 0 ((t 0 0) + 1)) i))) (g := G.2.2.1) hL) (rg (by decide) rfl) dX8_goesBy_14 rfl ?_
  refine xx_top (y := t 12 0) (congrFun (eaW_o (k := 12) (by decide) (by decide) _) _) ?_
  refine xx_top (y := nI nm) hm ?_
  refine v_icN_ge C (t := 39) i nm rfl rfl (by omega) (by omega) dX8_goesBy_17 rfl rfl (fun h1 => ?_) (fun h1 => ?_)
  · skip
    refine v_aload_n C dX8_goesBy_39 rfl 0 rfl ?_
    refine w_invVv C [] 0 0 L_X8_162 (c_X8_arrives (s := s) (t := ((eaW (su t 0 0 ((t 0 0) + 1)) i))) (nf := nf) hst hG hL (by show eaW _ _ 36 0 = _; rw [eaW_o (by decide) (by decide)]; exact hf) hf20) (m0 (s := s) (t := ((eaW (su t 0 0 ((t 0 0) + 1)) i))) (g := G.2.2.1) hL) rfl rfl rfl rfl dX8_goesBy_40 rfl kx_no (fun h2 => ?_)
    refine v_iconst C (v := 0) dX8_goesBy_43 rfl rfl ?_
    refine v_istore_n C (lv1 := [(1, .int (0)), (0, .ref (a 0 0))]) dX8_goesBy_44 rfl (by decide) rfl ?_
    refine xx_lv [1, 0] (lv' := [(0, .ref (a 0 0)), (1, .int (0))]) rfl ?_
    refine xx_wc (w2 := wl a (E G.2.2.1 a s (fdW (arF ((eaW (su t 0 0 ((t 0 0) + 1)) i)) nf) 0)) L) (lv' := [(0, .ref (a 0 0)), (1, .int (nI (0)))]) (by rfl) (by first | rfl | (simp [bI, h1, Nat.not_lt.mpr h1, eaW, fdW, clW, fadeF]; done)) ?_
    refine xx_loop (40) 0 (fun i2 => wl a (E G.2.2.1 a s (fdW (arF ((eaW (su t 0 0 ((t 0 0) + 1)) i)) nf) i2)) L) (fun i2 => [(0, .ref (a 0 0)), (1, .int (nI (i2)))]) (by omega) ?_
    intro i2 hi0 hiN ih_i2
    refine v_iload_n C dX8_goesBy_45 rfl 1 rfl ?_
    refine v_bipush C (v := 40) dX8_goesBy_46 rfl rfl ?_
    refine v_icN_ge C (t := 97) i2 40 rfl rfl (by omega) (by omega) dX8_goesBy_48 rfl rfl (fun h3 => ?_) (fun h3 => ?_)
    · skip
      refine v_iconst C (v := 0) dX8_goesBy_97 rfl rfl ?_
      refine v_istore_n C (lv1 := [(1, .int (0)), (0, .ref (a 0 0))]) dX8_goesBy_98 rfl (by decide) rfl ?_
      refine xx_lv [1, 0] (lv' := [(0, .ref (a 0 0)), (1, .int (0))]) rfl ?_
      refine xx_wc (w2 := wl a (E G.2.2.1 a s (clW (fdW (arF ((eaW (su t 0 0 ((t 0 0) + 1)) i)) nf) i2) 0)) L) (lv' := [(0, .ref (a 0 0)), (1, .int (nI (0)))]) (by rfl) (by first | rfl | (simp [bI, h1, Nat.not_lt.mpr h1, h3, Nat.not_lt.mpr h3, eaW, fdW, clW, fadeF]; done)) ?_
      refine xx_loop (nc) 0 (fun i3 => wl a (E G.2.2.1 a s (clW (fdW (arF ((eaW (su t 0 0 ((t 0 0) + 1)) i)) nf) i2) i3)) L) (fun i3 => [(0, .ref (a 0 0)), (1, .int (nI (i3)))]) (by omega) ?_
      intro i3 hi0 hiN ih_i3
      have g22 : (fdW (arF (eaW (su t 0 0 ((t 0 0) + 1)) i) nf) i2) 22 = t 22 := by rw [fdW_o (by decide), arF_o (by decide) (by decide) (by decide) (by decide), eaW_o (by decide) (by decide)]; exact su_o (by decide)
      have g26 : (fdW (arF (eaW (su t 0 0 ((t 0 0) + 1)) i) nf) i2) 26 = t 26 := by rw [fdW_o (by decide), arF_o (by decide) (by decide) (by decide) (by decide), eaW_o (by decide) (by decide)]; exact su_o (by decide)
      have g27 : (fdW (arF (eaW (su t 0 0 ((t 0 0) + 1)) i) nf) i2) 27 = t 27 := by rw [fdW_o (by decide), arF_o (by decide) (by decide) (by decide) (by decide), eaW_o (by decide) (by decide)]; exact su_o (by decide)
      have g0 : (fdW (arF (eaW (su t 0 0 ((t 0 0) + 1)) i) nf) i2) 0 0 = (t 0 0) + 1 := by rw [fdW_o (by decide), arF_o (by decide) (by decide) (by decide) (by decide), eaW_o (by decide) (by decide)]; exact su_a
      refine v_iload_n C dX8_goesBy_99 rfl 1 rfl ?_
      refine v_aload_n C dX8_goesBy_100 rfl 0 rfl ?_
      refine v_get C (v := .int ((clW (fdW (arF ((eaW (su t 0 0 ((t 0 0) + 1)) i)) nf) i2) i3) 21 0)) g_X8_130 (m0 (s := s) (t := ((clW (fdW (arF ((eaW (su t 0 0 ((t 0 0) + 1)) i)) nf) i2) i3))) (g := G.2.2.1) hL) (rg (by decide) rfl) dX8_goesBy_101 rfl ?_
      refine xx_top (y := (fdW (arF ((eaW (su t 0 0 ((t 0 0) + 1)) i)) nf) i2) 21 0) (congrFun (clW_o (k := 21) (by decide) _) _) ?_
      refine xx_top (y := (arF ((eaW (su t 0 0 ((t 0 0) + 1)) i)) nf) 21 0) (congrFun (fdW_o (k := 21) (by decide) _) _) ?_
      refine xx_top (y := (eaW (su t 0 0 ((t 0 0) + 1)) i) 21 0) (congrFun (arF_o (k := 21) (by decide) (by decide) (by decide) (by decide)) _) ?_
      refine xx_top (y := t 21 0) (congrFun (eaW_o (k := 21) (by decide) (by decide) _) _) ?_
      refine xx_top (y := nI nc) hc ?_
      refine v_icN_ge C (t := 166) i3 nc rfl rfl (by omega) (by omega) dX8_goesBy_104 rfl rfl (fun h4 => ?_) (fun h4 => ?_)
      · skip
        exact v_vret C (by decide) (by decide) dX8_goesBy_166 ⟨rfl, by (have e1 : i = nm := by omega); (have e2 : i2 = 40 := by omega); (have e3 : i3 = nc := by omega); subst e1 e2 e3; rfl, by trivial⟩
      · skip
        refine v_aload_n C dX8_goesBy_107 rfl 0 rfl ?_
        refine v_get C (v := .ref (a 1 25)) g_X8_68 (m0 (s := s) (t := ((clW (fdW (arF ((eaW (su t 0 0 ((t 0 0) + 1)) i)) nf) i2) i3))) (g := G.2.2.1) hL) (rg (by decide) rfl) dX8_goesBy_108 rfl ?_
        refine v_iload_n C dX8_goesBy_111 rfl 1 rfl ?_
        refine v_aload_n C dX8_goesBy_112 rfl 0 rfl ?_
        refine v_get C (v := .ref (a 1 25)) g_X8_68 (m0 (s := s) (t := ((clW (fdW (arF ((eaW (su t 0 0 ((t 0 0) + 1)) i)) nf) i2) i3))) (g := G.2.2.1) hL) (rg (by decide) rfl) dX8_goesBy_113 rfl ?_
        refine v_iload_n C dX8_goesBy_116 rfl 1 rfl ?_
        refine v_zaldE C (len := 30) i3 (m1 (s := s) (t := ((clW (fdW (arF ((eaW (su t 0 0 ((t 0 0) + 1)) i)) nf) i2) i3))) (g := G.2.2.1) hL 25 rfl) (nI_clamp (by omega)) (pk_in i3 30 (by omega)) dX8_goesBy_117 rfl ?_
        refine v_if_eq C (t := 158) dX8_goesBy_118 rfl rfl (fun h5 => ?_) (fun h5 => ?_)
        · skip
          refine v_iconst C (v := 0) dX8_goesBy_158 rfl rfl ?_
          refine v_zastE C (len := 30) i3 (put_m1 (s := s) (t := ((clW (fdW (arF ((eaW (su t 0 0 ((t 0 0) + 1)) i)) nf) i2) i3))) (g := G.2.2.1) hL 25 rfl i3 0) rfl (nI_clamp (by omega)) (pk_in i3 30 (by omega)) dX8_goesBy_159 rfl ?_
          refine v_iincN C (lv1 := [(1, .int (nI (i3 + 1))), (0, .ref (a 0 0))]) i3 rfl dX8_goesBy_160 rfl 1 rfl (by decide) rfl ?_
          refine v_goto C (q := 99) dX8_goesBy_163 rfl ?_
          refine xx_lv [1, 0] (lv' := [(0, .ref (a 0 0)), (1, .int (nI (i3 + 1)))]) rfl ?_
          refine xx_wc (w2 := wl a (E G.2.2.1 a s (clW (fdW (arF ((eaW (su t 0 0 ((t 0 0) + 1)) i)) nf) i2) (i3 + 1))) L) (lv' := [(0, .ref (a 0 0)), (1, .int (nI (i3 + 1)))]) (by simp only [h1, Nat.not_lt.mpr h1, h3, Nat.not_lt.mpr h3, h4, Nat.not_le.mpr h4, eq_true h5, clW, g22, g26, g27, g0, if_true, if_false, not_true_eq_false, not_false_eq_true, true_and, and_true, false_and, and_false]) (by first | rfl | (simp [h1, Nat.not_lt.mpr h1, h3, Nat.not_lt.mpr h3, h4, Nat.not_le.mpr h4, eq_true h5, eaW, fdW, clW, fadeF, Nat.add_assoc])) ?_
          exact ih_i3 (by omega)
        · skip
          refine v_aload_n C dX8_goesBy_121 rfl 0 rfl ?_
          refine v_aload_n C dX8_goesBy_122 rfl 0 rfl ?_
          refine v_get C (v := .ref (a 1 22)) g_X8_59 (m0 (s := s) (t := ((clW (fdW (arF ((eaW (su t 0 0 ((t 0 0) + 1)) i)) nf) i2) i3))) (g := G.2.2.1) hL) (rg (by decide) rfl) dX8_goesBy_123 rfl ?_
          refine v_iload_n C dX8_goesBy_126 rfl 1 rfl ?_
          refine v_ialdE C (len := 30) i3 (m1 (s := s) (t := ((clW (fdW (arF ((eaW (su t 0 0 ((t 0 0) + 1)) i)) nf) i2) i3))) (g := G.2.2.1) hL 22 rfl) (nI_clamp (by omega)) (pk_in i3 30 (by omega)) dX8_goesBy_127 rfl ?_
          refine xx_top (y := (fdW (arF ((eaW (su t 0 0 ((t 0 0) + 1)) i)) nf) i2) 22 i3) (congrFun (clW_o (k := 22) (by decide) _) _) ?_
          refine xx_top (y := (arF ((eaW (su t 0 0 ((t 0 0) + 1)) i)) nf) 22 i3) (congrFun (fdW_o (k := 22) (by decide) _) _) ?_
          refine xx_top (y := (eaW (su t 0 0 ((t 0 0) + 1)) i) 22 i3) (congrFun (arF_o (k := 22) (by decide) (by decide) (by decide) (by decide)) _) ?_
          refine xx_top (y := t 22 i3) (congrFun (eaW_o (k := 22) (by decide) (by decide) _) _) ?_
          refine w_invVr C [.int (t 22 i3)] 0 0 L_X8_155 (c_X8_isDead (s := s) (t := ((clW (fdW (arF ((eaW (su t 0 0 ((t 0 0) + 1)) i)) nf) i2) i3)))  hst hG hL (t 22 i3) _ (in_nI (N := 12) (hco i3 (by omega)) (by omega)) (in_lt (N := 12) (hco i3 (by omega)))) (m0 (s := s) (t := ((clW (fdW (arF ((eaW (su t 0 0 ((t 0 0) + 1)) i)) nf) i2) i3))) (g := G.2.2.1) hL) rfl rfl rfl rfl dX8_goesBy_128 rfl kx_no (fun h6 => ?_)
          refine v_ifB_ne C (t := 158) dX8_goesBy_131 rfl rfl (fun h7 => ?_) (fun h7 => ?_)
          · skip
            refine v_iconst C (v := 0) dX8_goesBy_158 rfl rfl ?_
            refine v_zastE C (len := 30) i3 (put_m1 (s := s) (t := ((clW (fdW (arF ((eaW (su t 0 0 ((t 0 0) + 1)) i)) nf) i2) i3))) (g := G.2.2.1) hL 25 rfl i3 0) rfl (nI_clamp (by omega)) (pk_in i3 30 (by omega)) dX8_goesBy_159 rfl ?_
            refine v_iincN C (lv1 := [(1, .int (nI (i3 + 1))), (0, .ref (a 0 0))]) i3 rfl dX8_goesBy_160 rfl 1 rfl (by decide) rfl ?_
            refine v_goto C (q := 99) dX8_goesBy_163 rfl ?_
            refine xx_lv [1, 0] (lv' := [(0, .ref (a 0 0)), (1, .int (nI (i3 + 1)))]) rfl ?_
            refine xx_wc (w2 := wl a (E G.2.2.1 a s (clW (fdW (arF ((eaW (su t 0 0 ((t 0 0) + 1)) i)) nf) i2) (i3 + 1))) L) (lv' := [(0, .ref (a 0 0)), (1, .int (nI (i3 + 1)))]) (by simp only [h1, Nat.not_lt.mpr h1, h3, Nat.not_lt.mpr h3, h4, Nat.not_le.mpr h4, h5, eq_true h7, clW, g22, g26, g27, g0, if_true, if_false, not_true_eq_false, not_false_eq_true, true_and, and_true, false_and, and_false]) (by first | rfl | (simp [h1, Nat.not_lt.mpr h1, h3, Nat.not_lt.mpr h3, h4, Nat.not_le.mpr h4, h5, eq_true h7, eaW, fdW, clW, fadeF, Nat.add_assoc])) ?_
            exact ih_i3 (by omega)
          · skip
            refine v_aload_n C dX8_goesBy_134 rfl 0 rfl ?_
            refine v_get C (v := .int ((clW (fdW (arF ((eaW (su t 0 0 ((t 0 0) + 1)) i)) nf) i2) i3) 0 0)) g_X8_138 (m0 (s := s) (t := ((clW (fdW (arF ((eaW (su t 0 0 ((t 0 0) + 1)) i)) nf) i2) i3))) (g := G.2.2.1) hL) (rg (by decide) rfl) dX8_goesBy_135 rfl ?_
            refine xx_top (y := (fdW (arF ((eaW (su t 0 0 ((t 0 0) + 1)) i)) nf) i2) 0 0) (congrFun (clW_o (k := 0) (by decide) _) _) ?_
            refine xx_top (y := (arF ((eaW (su t 0 0 ((t 0 0) + 1)) i)) nf) 0 0) (congrFun (fdW_o (k := 0) (by decide) _) _) ?_
            refine xx_top (y := (eaW (su t 0 0 ((t 0 0) + 1)) i) 0 0) (congrFun (arF_o (k := 0) (by decide) (by decide) (by decide) (by decide)) _) ?_
            refine xx_top (y := (t 0 0) + 1) (congrFun (eaW_o (k := 0) (by decide) (by decide) _) _) ?_
            refine v_aload_n C dX8_goesBy_138 rfl 0 rfl ?_
            refine v_get C (v := .ref (a 1 26)) g_X8_72 (m0 (s := s) (t := ((clW (fdW (arF ((eaW (su t 0 0 ((t 0 0) + 1)) i)) nf) i2) i3))) (g := G.2.2.1) hL) (rg (by decide) rfl) dX8_goesBy_139 rfl ?_
            refine v_iload_n C dX8_goesBy_142 rfl 1 rfl ?_
            refine v_ialdE C (len := 30) i3 (m1 (s := s) (t := ((clW (fdW (arF ((eaW (su t 0 0 ((t 0 0) + 1)) i)) nf) i2) i3))) (g := G.2.2.1) hL 26 rfl) (nI_clamp (by omega)) (pk_in i3 30 (by omega)) dX8_goesBy_143 rfl ?_
            refine xx_top (y := (fdW (arF ((eaW (su t 0 0 ((t 0 0) + 1)) i)) nf) i2) 26 i3) (congrFun (clW_o (k := 26) (by decide) _) _) ?_
            refine xx_top (y := (arF ((eaW (su t 0 0 ((t 0 0) + 1)) i)) nf) 26 i3) (congrFun (fdW_o (k := 26) (by decide) _) _) ?_
            refine xx_top (y := (eaW (su t 0 0 ((t 0 0) + 1)) i) 26 i3) (congrFun (arF_o (k := 26) (by decide) (by decide) (by decide) (by decide)) _) ?_
            refine xx_top (y := t 26 i3) (congrFun (eaW_o (k := 26) (by decide) (by decide) _) _) ?_
            refine v_isub C dX8_goesBy_144 rfl ?_
            refine v_aload_n C dX8_goesBy_145 rfl 0 rfl ?_
            refine v_get C (v := .ref (a 1 27)) g_X8_75 (m0 (s := s) (t := ((clW (fdW (arF ((eaW (su t 0 0 ((t 0 0) + 1)) i)) nf) i2) i3))) (g := G.2.2.1) hL) (rg (by decide) rfl) dX8_goesBy_146 rfl ?_
            refine v_iload_n C dX8_goesBy_149 rfl 1 rfl ?_
            refine v_ialdE C (len := 30) i3 (m1 (s := s) (t := ((clW (fdW (arF ((eaW (su t 0 0 ((t 0 0) + 1)) i)) nf) i2) i3))) (g := G.2.2.1) hL 27 rfl) (nI_clamp (by omega)) (pk_in i3 30 (by omega)) dX8_goesBy_150 rfl ?_
            refine xx_top (y := (fdW (arF ((eaW (su t 0 0 ((t 0 0) + 1)) i)) nf) i2) 27 i3) (congrFun (clW_o (k := 27) (by decide) _) _) ?_
            refine xx_top (y := (arF ((eaW (su t 0 0 ((t 0 0) + 1)) i)) nf) 27 i3) (congrFun (fdW_o (k := 27) (by decide) _) _) ?_
            refine xx_top (y := (eaW (su t 0 0 ((t 0 0) + 1)) i) 27 i3) (congrFun (arF_o (k := 27) (by decide) (by decide) (by decide) (by decide)) _) ?_
            refine xx_top (y := t 27 i3) (congrFun (eaW_o (k := 27) (by decide) (by decide) _) _) ?_
            refine v_icmp_gt C (t := 158) dX8_goesBy_151 rfl rfl (fun h8 => ?_) (fun h8 => ?_)
            · skip
              refine v_iconst C (v := 0) dX8_goesBy_158 rfl rfl ?_
              refine v_zastE C (len := 30) i3 (put_m1 (s := s) (t := ((clW (fdW (arF ((eaW (su t 0 0 ((t 0 0) + 1)) i)) nf) i2) i3))) (g := G.2.2.1) hL 25 rfl i3 0) rfl (nI_clamp (by omega)) (pk_in i3 30 (by omega)) dX8_goesBy_159 rfl ?_
              refine v_iincN C (lv1 := [(1, .int (nI (i3 + 1))), (0, .ref (a 0 0))]) i3 rfl dX8_goesBy_160 rfl 1 rfl (by decide) rfl ?_
              refine v_goto C (q := 99) dX8_goesBy_163 rfl ?_
              refine xx_lv [1, 0] (lv' := [(0, .ref (a 0 0)), (1, .int (nI (i3 + 1)))]) rfl ?_
              refine xx_wc (w2 := wl a (E G.2.2.1 a s (clW (fdW (arF ((eaW (su t 0 0 ((t 0 0) + 1)) i)) nf) i2) (i3 + 1))) L) (lv' := [(0, .ref (a 0 0)), (1, .int (nI (i3 + 1)))]) (by simp only [h1, Nat.not_lt.mpr h1, h3, Nat.not_lt.mpr h3, h4, Nat.not_le.mpr h4, h5, h7, h8, Int32.not_le.mpr h8, clW, g22, g26, g27, g0, if_true, if_false, not_true_eq_false, not_false_eq_true, true_and, and_true, false_and, and_false]) (by first | rfl | (simp [h1, Nat.not_lt.mpr h1, h3, Nat.not_lt.mpr h3, h4, Nat.not_le.mpr h4, h5, h7, h8, Int32.not_le.mpr h8, eaW, fdW, clW, fadeF, Nat.add_assoc])) ?_
              exact ih_i3 (by omega)
            · skip
              refine v_iconst C (v := 1) dX8_goesBy_154 rfl rfl ?_
              refine v_goto C (q := 159) dX8_goesBy_155 rfl ?_
              refine v_zastE C (len := 30) i3 (put_m1 (s := s) (t := ((clW (fdW (arF ((eaW (su t 0 0 ((t 0 0) + 1)) i)) nf) i2) i3))) (g := G.2.2.1) hL 25 rfl i3 1) rfl (nI_clamp (by omega)) (pk_in i3 30 (by omega)) dX8_goesBy_159 rfl ?_
              refine v_iincN C (lv1 := [(1, .int (nI (i3 + 1))), (0, .ref (a 0 0))]) i3 rfl dX8_goesBy_160 rfl 1 rfl (by decide) rfl ?_
              refine v_goto C (q := 99) dX8_goesBy_163 rfl ?_
              refine xx_lv [1, 0] (lv' := [(0, .ref (a 0 0)), (1, .int (nI (i3 + 1)))]) rfl ?_
              refine xx_wc (w2 := wl a (E G.2.2.1 a s (clW (fdW (arF ((eaW (su t 0 0 ((t 0 0) + 1)) i)) nf) i2) (i3 + 1))) L) (lv' := [(0, .ref (a 0 0)), (1, .int (nI (i3 + 1)))]) (by simp only [h1, Nat.not_lt.mpr h1, h3, Nat.not_lt.mpr h3, h4, Nat.not_le.mpr h4, h5, h7, h8, Int32.not_lt.mp h8, clW, g22, g26, g27, g0, if_true, if_false, not_true_eq_false, not_false_eq_true, true_and, and_true, false_and, and_false]) (by first | rfl | (simp [h1, Nat.not_lt.mpr h1, h3, Nat.not_lt.mpr h3, h4, Nat.not_le.mpr h4, h5, h7, h8, Int32.not_lt.mp h8, eaW, fdW, clW, fadeF, Nat.add_assoc])) ?_
              exact ih_i3 (by omega)
    · skip
      refine v_aload_n C dX8_goesBy_51 rfl 0 rfl ?_
      refine v_get C (v := .ref (a 1 11)) g_X8_32 (m0 (s := s) (t := ((fdW (arF ((eaW (su t 0 0 ((t 0 0) + 1)) i)) nf) i2))) (g := G.2.2.1) hL) (rg (by decide) rfl) dX8_goesBy_52 rfl ?_
      refine v_iload_n C dX8_goesBy_55 rfl 1 rfl ?_
      refine v_ialdE C (len := 40) i2 (m1 (s := s) (t := ((fdW (arF ((eaW (su t 0 0 ((t 0 0) + 1)) i)) nf) i2))) (g := G.2.2.1) hL 11 rfl) (nI_clamp (by omega)) (pk_in i2 40 (by omega)) dX8_goesBy_56 rfl ?_
      refine v_bipush C (v := 10) dX8_goesBy_57 rfl rfl ?_
      refine v_idiv C dX8_goesBy_59 rfl (by decide) ?_
      refine v_iconst C (v := 1) dX8_goesBy_60 rfl rfl ?_
      refine v_iadd C dX8_goesBy_61 rfl ?_
      refine v_istore_n C (lv1 := [(2, .int ((((fdW (arF ((eaW (su t 0 0 ((t 0 0) + 1)) i)) nf) i2) 11 i2) / 10) + 1)), (0, .ref (a 0 0)), (1, .int (nI (i2)))]) dX8_goesBy_62 rfl (by decide) rfl ?_
      refine v_aload_n C dX8_goesBy_63 rfl 1 rfl ?_
      refine v_get C (v := .ref (a 1 11)) g_X8_32 (m0 (s := s) (t := ((fdW (arF ((eaW (su t 0 0 ((t 0 0) + 1)) i)) nf) i2))) (g := G.2.2.1) hL) (rg (by decide) rfl) dX8_goesBy_64 rfl ?_
      refine v_iload_n C dX8_goesBy_67 rfl 2 rfl ?_
      refine v_aload_n C dX8_goesBy_68 rfl 1 rfl ?_
      refine v_get C (v := .ref (a 1 11)) g_X8_32 (m0 (s := s) (t := ((fdW (arF ((eaW (su t 0 0 ((t 0 0) + 1)) i)) nf) i2))) (g := G.2.2.1) hL) (rg (by decide) rfl) dX8_goesBy_69 rfl ?_
      refine v_iload_n C dX8_goesBy_72 rfl 2 rfl ?_
      refine v_ialdE C (len := 40) i2 (m1 (s := s) (t := ((fdW (arF ((eaW (su t 0 0 ((t 0 0) + 1)) i)) nf) i2))) (g := G.2.2.1) hL 11 rfl) (nI_clamp (by omega)) (pk_in i2 40 (by omega)) dX8_goesBy_73 rfl ?_
      refine v_iload_n C dX8_goesBy_74 rfl 0 rfl ?_
      refine v_icmp_ge C (t := 82) dX8_goesBy_75 rfl rfl (fun h9 => ?_) (fun h9 => ?_)
      · skip
        refine v_aload_n C dX8_goesBy_82 rfl 1 rfl ?_
        refine v_get C (v := .ref (a 1 11)) g_X8_32 (m0 (s := s) (t := ((fdW (arF ((eaW (su t 0 0 ((t 0 0) + 1)) i)) nf) i2))) (g := G.2.2.1) hL) (rg (by decide) rfl) dX8_goesBy_83 rfl ?_
        refine v_iload_n C dX8_goesBy_86 rfl 2 rfl ?_
        refine v_ialdE C (len := 40) i2 (m1 (s := s) (t := ((fdW (arF ((eaW (su t 0 0 ((t 0 0) + 1)) i)) nf) i2))) (g := G.2.2.1) hL 11 rfl) (nI_clamp (by omega)) (pk_in i2 40 (by omega)) dX8_goesBy_87 rfl ?_
        refine v_iload_n C dX8_goesBy_88 rfl 0 rfl ?_
        refine v_isub C dX8_goesBy_89 rfl ?_
        refine v_iastE C (len := 40) i2 (put_m1 (s := s) (t := ((fdW (arF ((eaW (su t 0 0 ((t 0 0) + 1)) i)) nf) i2))) (g := G.2.2.1) hL 11 rfl i2 (((fdW (arF ((eaW (su t 0 0 ((t 0 0) + 1)) i)) nf) i2) 11 i2) - ((((fdW (arF ((eaW (su t 0 0 ((t 0 0) + 1)) i)) nf) i2) 11 i2) / 10) + 1))) (nI_clamp (by omega)) (pk_in i2 40 (by omega)) dX8_goesBy_90 rfl ?_
        refine v_iincN C (lv1 := [(1, .int (nI (i2 + 1))), (2, .int ((((fdW (arF ((eaW (su t 0 0 ((t 0 0) + 1)) i)) nf) i2) 11 i2) / 10) + 1)), (0, .ref (a 0 0))]) i2 rfl dX8_goesBy_91 rfl 2 rfl (by decide) rfl ?_
        refine v_goto C (q := 45) dX8_goesBy_94 rfl ?_
        refine xx_lv [2, 0] (lv' := [(0, .ref (a 0 0)), (1, .int (nI (i2 + 1)))]) rfl ?_
        refine xx_wc (w2 := wl a (E G.2.2.1 a s (fdW (arF ((eaW (su t 0 0 ((t 0 0) + 1)) i)) nf) (i2 + 1))) L) (lv' := [(0, .ref (a 0 0)), (1, .int (nI (i2 + 1)))]) (by first | rfl | (simp only [h1, Nat.not_lt.mpr h1, h3, Nat.not_le.mpr h3, h9, Int32.not_lt.mpr h9, fdW, fadeF, if_true, if_false]; done) | (simp [h1, Nat.not_lt.mpr h1, h3, Nat.not_le.mpr h3, h9, Int32.not_lt.mpr h9, fdW, fadeF]; done)) (by first | rfl | (simp [h1, Nat.not_lt.mpr h1, h3, Nat.not_le.mpr h3, h9, Int32.not_lt.mpr h9, eaW, fdW, clW, fadeF, Nat.add_assoc])) ?_
        exact ih_i2 (by omega)
      · skip
        refine v_iconst C (v := 0) dX8_goesBy_78 rfl rfl ?_
        refine v_goto C (q := 90) dX8_goesBy_79 rfl ?_
        refine v_iastE C (len := 40) i2 (put_m1 (s := s) (t := ((fdW (arF ((eaW (su t 0 0 ((t 0 0) + 1)) i)) nf) i2))) (g := G.2.2.1) hL 11 rfl i2 0) (nI_clamp (by omega)) (pk_in i2 40 (by omega)) dX8_goesBy_90 rfl ?_
        refine v_iincN C (lv1 := [(1, .int (nI (i2 + 1))), (2, .int ((((fdW (arF ((eaW (su t 0 0 ((t 0 0) + 1)) i)) nf) i2) 11 i2) / 10) + 1)), (0, .ref (a 0 0))]) i2 rfl dX8_goesBy_91 rfl 2 rfl (by decide) rfl ?_
        refine v_goto C (q := 45) dX8_goesBy_94 rfl ?_
        refine xx_lv [2, 0] (lv' := [(0, .ref (a 0 0)), (1, .int (nI (i2 + 1)))]) rfl ?_
        refine xx_wc (w2 := wl a (E G.2.2.1 a s (fdW (arF ((eaW (su t 0 0 ((t 0 0) + 1)) i)) nf) (i2 + 1))) L) (lv' := [(0, .ref (a 0 0)), (1, .int (nI (i2 + 1)))]) (by first | rfl | (simp only [h1, Nat.not_lt.mpr h1, h3, Nat.not_le.mpr h3, h9, Int32.not_le.mp h9, fdW, fadeF, if_true, if_false]; done) | (simp [h1, Nat.not_lt.mpr h1, h3, Nat.not_le.mpr h3, h9, Int32.not_le.mp h9, fdW, fadeF]; done)) (by first | rfl | (simp [h1, Nat.not_lt.mpr h1, h3, Nat.not_le.mpr h3, h9, Int32.not_le.mp h9, eaW, fdW, clW, fadeF, Nat.add_assoc])) ?_
        exact ih_i2 (by omega)
  · skip
    refine v_aload_n C dX8_goesBy_20 rfl 0 rfl ?_
    refine v_iload_n C dX8_goesBy_21 rfl 1 rfl ?_
    refine w_invVr C [.int (nI (i))] 0 0 L_X8_155 (c_X8_isDead (s := s) (t := ((eaW (su t 0 0 ((t 0 0) + 1)) i)))  hst hG hL (nI (i)) i rfl (by omega)) (m0 (s := s) (t := ((eaW (su t 0 0 ((t 0 0) + 1)) i))) (g := G.2.2.1) hL) rfl rfl rfl rfl dX8_goesBy_22 rfl kx_no (fun h10 => ?_)
    refine v_ifB_ne C (t := 33) dX8_goesBy_25 rfl rfl (fun h11 => ?_) (fun h11 => ?_)
    · skip
      refine v_iincN C (lv1 := [(1, .int (nI (i + 1))), (0, .ref (a 0 0))]) i rfl dX8_goesBy_33 rfl 1 rfl (by decide) rfl ?_
      refine v_goto C (q := 12) dX8_goesBy_36 rfl ?_
      refine xx_lv [1, 0] (lv' := [(0, .ref (a 0 0)), (1, .int (nI (i + 1)))]) rfl ?_
      refine xx_wc (w2 := wl a (E G.2.2.1 a s (eaW (su t 0 0 ((t 0 0) + 1)) (i + 1))) L) (lv' := [(0, .ref (a 0 0)), (1, .int (nI (i + 1)))]) (by first | rfl | (simp only [h1, Nat.not_le.mpr h1, eq_true h11, eaW, if_true, if_false]; done) | (simp [h1, Nat.not_le.mpr h1, eq_true h11, eaW]; done)) (by first | rfl | (simp [h1, Nat.not_le.mpr h1, eq_true h11, eaW, fdW, clW, fadeF, Nat.add_assoc])) ?_
      exact ih_i (by omega)
    · skip
      refine v_aload_n C dX8_goesBy_28 rfl 0 rfl ?_
      refine v_iload_n C dX8_goesBy_29 rfl 1 rfl ?_
      refine w_invVv C [.int (nI (i))] 0 0 L_X8_158 (c_X8_eats (s := s) (t := ((eaW (su t 0 0 ((t 0 0) + 1)) i)))  hst hG hL (nI (i)) i rfl (by omega)) (m0 (s := s) (t := ((eaW (su t 0 0 ((t 0 0) + 1)) i))) (g := G.2.2.1) hL) rfl rfl rfl rfl dX8_goesBy_30 rfl kx_no (fun h12 => ?_)
      refine v_iincN C (lv1 := [(1, .int (nI (i + 1))), (0, .ref (a 0 0))]) i rfl dX8_goesBy_33 rfl 1 rfl (by decide) rfl ?_
      refine v_goto C (q := 12) dX8_goesBy_36 rfl ?_
      refine xx_lv [1, 0] (lv' := [(0, .ref (a 0 0)), (1, .int (nI (i + 1)))]) rfl ?_
      refine xx_wc (w2 := wl a (E G.2.2.1 a s (eaW (su t 0 0 ((t 0 0) + 1)) (i + 1))) L) (lv' := [(0, .ref (a 0 0)), (1, .int (nI (i + 1)))]) (by first | rfl | (simp only [h1, Nat.not_le.mpr h1, h11, eaW, if_true, if_false]; done) | (simp [h1, Nat.not_le.mpr h1, h11, eaW]; done)) (by first | rfl | (simp [h1, Nat.not_le.mpr h1, h11, eaW, fdW, clW, fadeF, Nat.add_assoc])) ?_
      exact ih_i (by omega)

abbrev r_X8_pass : Room := { frames := 3, cells := 0, slots := 0, locals := 64 }
set_option maxRecDepth 4000 in
theorem c_X8_pass {l : Launch} {G : GG} {a : AD} {s t s0 : SS} {L : List (Nat × Nat)} {nm : Nat} {nc : Nat} {nf : Nat} (hst : l.stackTraces = false) (hG : GOK G) (hL : Live L s0) (x : Int32) (hm : t 12 0 = nI nm) (hm12 : nm ≤ 12) (hc : t 21 0 = nI nc) (hc30 : nc ≤ 30) (hf : t 36 0 = nI nf) (hf20 : nf ≤ 20) (hco : ∀ i, i < nc → vp_in (t 22 i) 12) : Mth l yX8_pass cX8_pass 4 (Option.some Jvm.ClassFile.FieldType.int) r_X8_pass G (wl a (E G.2.2.1 a s t) L) [.ref (a 0 0), .int x] (RI (.int (pM (passE t nm nc nf x) (passR t nm nc nf x))) (wl a (E G.2.2.1 a s (pU (passE t nm nc nf x) (passU (su t 45 0 0) nm nc nf x) t)) L) (True)) nX := by
  refine mth_of rfl (Nat.le_of_ble_eq_true rfl) hst hG (fun X hX C0 => ?_)
  subst hX
  have C : Cx X G cX8_pass 4 RX8 (Option.some Jvm.ClassFile.FieldType.int) r_X8_pass "pass" [] := C0
  clear C0
  show V X G 4 _ 0 0 _ 0 [(0, .ref (a 0 0)), (1, .int (x))] []
  refine v_iload_n C dX8_pass_0 rfl 1 rfl ?_
  refine v_iconst C (v := 1) dX8_pass_1 rfl rfl ?_
  refine v_sipush C (v := 200) dX8_pass_2 rfl rfl ?_
  refine w_invSr C [.int (x), .int (1), .int (200)] 0 0 L_X8_123 (c_X8_isIn (s := s) (t := t)  hst hG hL x 1 200) rfl rfl rfl dX8_pass_5 rfl kx_no (fun h1 => ?_)
  refine v_istore_n C (lv1 := [(2, .int (bI (1 ≤ x ∧ x ≤ 200))), (0, .ref (a 0 0)), (1, .int (x))]) dX8_pass_8 rfl (by decide) rfl ?_
  refine v_aload_n C dX8_pass_9 rfl 1 rfl ?_
  refine v_iload_n C dX8_pass_10 rfl 0 rfl ?_
  refine v_ifB_ne C (t := 18) dX8_pass_11 rfl rfl (fun h2 => ?_) (fun h2 => ?_)
  · skip
    refine v_aload_n C dX8_pass_18 rfl 1 rfl ?_
    refine v_get C (v := .int (t 0 0)) g_X8_138 (m0 (s := s) (t := t) (g := G.2.2.1) hL) (rg (by decide) rfl) dX8_pass_19 rfl ?_
    refine v_iload_n C dX8_pass_22 rfl 2 rfl ?_
    refine v_iadd C dX8_pass_23 rfl ?_
    refine v_sipush C (v := 5000) dX8_pass_24 rfl rfl ?_
    refine v_icmp_le C (t := 34) dX8_pass_27 rfl rfl (fun h3 => ?_) (fun h3 => ?_)
    · skip
      refine v_iconst C (v := 0) dX8_pass_34 rfl rfl ?_
      refine w_invVr C [.int (0)] 0 0 L_X8_145 (c_X8_holdsTo (s := s) (t := t)  hst hG hL 0) (m0 (s := s) (t := t) (g := G.2.2.1) hL) rfl rfl rfl rfl dX8_pass_35 rfl kx_no (fun h4 => ?_)
      refine v_ifB_ne C (t := 43) dX8_pass_38 rfl rfl (fun _ => ?_) (fun h => absurd (by decide) h)
      refine v_iconst C (v := 0) dX8_pass_43 rfl rfl ?_
      refine v_istore_n C (lv1 := [(3, .int (0)), (2, .int (bI (1 ≤ x ∧ x ≤ 200))), (0, .ref (a 0 0)), (1, .int (x))]) dX8_pass_44 rfl (by decide) rfl ?_
      refine xx_lv [2, 3, 0] (lv' := [(0, .ref (a 0 0)), (1, .int (x)), (3, .int (0))]) rfl ?_
      refine xx_wc (w2 := wl a (E G.2.2.1 a s (psS (su t 45 0 0) nm nc nf 0).1) L) (lv' := [(0, .ref (a 0 0)), (1, .int (nI (tn x))), (3, .int (nI (0)))]) (by rfl) (by rw [← in_nI (N := 201) (vp_rng1 (x := x) (n := 200) rfl (by decide) (by assumption)) (by decide)]; rfl) ?_
      refine xx_loop (tn x) 0 (fun i => wl a (E G.2.2.1 a s (psS (su t 45 0 0) nm nc nf i).1) L) (fun i => [(0, .ref (a 0 0)), (1, .int (nI (tn x))), (3, .int (nI (i)))]) (by omega) ?_
      intro i hi0 hiN ih_i
      have hx201 : tn x < 201 := in_lt (vp_rng1 (x := x) (n := 200) rfl (by decide) (by assumption))
      refine v_iload_n C dX8_pass_45 rfl 2 rfl ?_
      refine v_iload_n C dX8_pass_46 rfl 1 rfl ?_
      refine v_icN_ge C (t := 60) i (tn x) rfl rfl (by omega) (by omega) dX8_pass_47 rfl rfl (fun h5 => ?_) (fun h5 => ?_)
      · skip
        refine v_aload_n C dX8_pass_60 rfl 0 rfl ?_
        refine v_get C (v := .int ((psS (su t 45 0 0) nm nc nf i).1 0 0)) g_X8_138 (m0 (s := s) (t := ((psS (su t 45 0 0) nm nc nf i).1)) (g := G.2.2.1) hL) (rg (by decide) rfl) dX8_pass_61 rfl ?_
        exact v_iret C (by decide) (by decide) dX8_pass_64 ⟨congrArg (fun z => some (Value.int z)) (by first | ((have e : i = tn x := by omega); subst e; simp only [h2, h3, Int32.not_lt.mpr h3, h5, Nat.not_lt.mpr h5, pM, pU, heldM_45, gvW_45, inW_45, livN_45, sum9_45, sum13_45, passE, passR, passU, bI, pM, pU, n10, n20, n30, n0, if_true, if_false, ite_true, ite_false, not_true_eq_false, not_false_eq_true, and_true, true_and, and_false, false_and, or_true, true_or, or_false, false_or, reduceIte, and_self, or_self, ne_eq, eq_self_iff_true, psS_0, s45_0, ← in_nI (N := 201) (vp_rng1 (x := x) (n := 200) rfl (by decide) (by assumption)) (by decide)]; done) | ((have e : i = tn x := by omega); subst e; simp only [h2, h3, Int32.not_lt.mpr h3, h5, Nat.not_lt.mpr h5, pM, pU, heldM_45, gvW_45, inW_45, livN_45, sum9_45, sum13_45, passE, passR, passU, bI, pM, pU, n10, n20, n30, n0, if_true, if_false, ite_true, ite_false, not_true_eq_false, not_false_eq_true, and_true, true_and, and_false, false_and, or_true, true_or, or_false, false_or, reduceIte, and_self, or_self, ne_eq, eq_self_iff_true]; done) | first | rfl | (simp only [h2, h3, Int32.not_lt.mpr h3, h5, Nat.not_lt.mpr h5, pM, pU, heldM_45, gvW_45, inW_45, livN_45, sum9_45, sum13_45, passE, passR, passU, bI, pM, pU, n10, n20, n30, n0, if_true, if_false, ite_true, ite_false, not_true_eq_false, not_false_eq_true, and_true, true_and, and_false, false_and, or_true, true_or, or_false, false_or, reduceIte, and_self, or_self, ne_eq, eq_self_iff_true]; first | done | rfl) | (simp [bI, h2, h3, Int32.not_lt.mpr h3, h5, Nat.not_lt.mpr h5, pM, pU, heldM_45, gvW_45, inW_45, livN_45, sum9_45, sum13_45, passE, passR, passU]; done) | (simp only [pM, pU, heldM_45, gvW_45, inW_45, livN_45, sum9_45, sum13_45, passE, passR, passU, bI, ← Int32.not_le] at *; simp [h2, h3, Int32.not_lt.mpr h3, h5, Nat.not_lt.mpr h5]; done) | (simp_all [bI, h2, h3, Int32.not_lt.mpr h3, h5, Nat.not_lt.mpr h5, pM, pU, heldM_45, gvW_45, inW_45, livN_45, sum9_45, sum13_45, passE, passR, passU]; done) | (simp_all [bI, h2, h3, Int32.not_lt.mpr h3, h5, Nat.not_lt.mpr h5, pM, pU, heldM_45, gvW_45, inW_45, livN_45, sum9_45, sum13_45, passE, passR, passU]; rfl) | (exfalso; omega)), by first | ((have e : i = tn x := by omega); subst e; simp only [h2, h3, Int32.not_lt.mpr h3, h5, Nat.not_lt.mpr h5, pM, pU, heldM_45, gvW_45, inW_45, livN_45, sum9_45, sum13_45, passE, passR, passU, bI, pM, pU, n10, n20, n30, n0, if_true, if_false, ite_true, ite_false, not_true_eq_false, not_false_eq_true, and_true, true_and, and_false, false_and, or_true, true_or, or_false, false_or, reduceIte, and_self, or_self, ne_eq, eq_self_iff_true, psS_0, s45_0, ← in_nI (N := 201) (vp_rng1 (x := x) (n := 200) rfl (by decide) (by assumption)) (by decide)]; done) | ((have e : i = tn x := by omega); subst e; simp only [h2, h3, Int32.not_lt.mpr h3, h5, Nat.not_lt.mpr h5, pM, pU, heldM_45, gvW_45, inW_45, livN_45, sum9_45, sum13_45, passE, passR, passU, bI, pM, pU, n10, n20, n30, n0, if_true, if_false, ite_true, ite_false, not_true_eq_false, not_false_eq_true, and_true, true_and, and_false, false_and, or_true, true_or, or_false, false_or, reduceIte, and_self, or_self, ne_eq, eq_self_iff_true]; done) | first | rfl | (simp only [h2, h3, Int32.not_lt.mpr h3, h5, Nat.not_lt.mpr h5, pM, pU, heldM_45, gvW_45, inW_45, livN_45, sum9_45, sum13_45, passE, passR, passU, bI, pM, pU, n10, n20, n30, n0, if_true, if_false, ite_true, ite_false, not_true_eq_false, not_false_eq_true, and_true, true_and, and_false, false_and, or_true, true_or, or_false, false_or, reduceIte, and_self, or_self, ne_eq, eq_self_iff_true]; first | done | rfl) | (simp [bI, h2, h3, Int32.not_lt.mpr h3, h5, Nat.not_lt.mpr h5, pM, pU, heldM_45, gvW_45, inW_45, livN_45, sum9_45, sum13_45, passE, passR, passU]; done) | (simp only [pM, pU, heldM_45, gvW_45, inW_45, livN_45, sum9_45, sum13_45, passE, passR, passU, bI, ← Int32.not_le] at *; simp [h2, h3, Int32.not_lt.mpr h3, h5, Nat.not_lt.mpr h5]; done) | (simp_all [bI, h2, h3, Int32.not_lt.mpr h3, h5, Nat.not_lt.mpr h5, pM, pU, heldM_45, gvW_45, inW_45, livN_45, sum9_45, sum13_45, passE, passR, passU]; done) | (simp_all [bI, h2, h3, Int32.not_lt.mpr h3, h5, Nat.not_lt.mpr h5, pM, pU, heldM_45, gvW_45, inW_45, livN_45, sum9_45, sum13_45, passE, passR, passU]; rfl) | (exfalso; omega), by trivial⟩
      · skip
        refine v_aload_n C dX8_pass_50 rfl 0 rfl ?_
        refine w_invVv C [] 0 0 L_X8_165 (c_X8_goesBy (s := s) (t := ((psS (su t 45 0 0) nm nc nf i).1)) (nm := nm) (nc := nc) (nf := ((psS (su t 45 0 0) nm nc nf i).2)) hst hG hL (by show (psS (su t 45 0 0) nm nc nf i).1 12 0 = _; rw [psS_o (by decide) (by decide) (by decide) (by decide) (by decide) (by decide) (by decide) (by decide) (by decide)]; exact hm) hm12 (by show (psS (su t 45 0 0) nm nc nf i).1 21 0 = _; rw [psS_o (by decide) (by decide) (by decide) (by decide) (by decide) (by decide) (by decide) (by decide) (by decide)]; exact hc) hc30 (psS_36 (z := su t 45 0 0) hf i) (Nat.le_trans (psS_le i) hf20) (fun j hj => by show vp_in ((psS (su t 45 0 0) nm nc nf i).1 22 j) 12; rw [psS_o (by decide) (by decide) (by decide) (by decide) (by decide) (by decide) (by decide) (by decide) (by decide)]; exact hco j hj)) (m0 (s := s) (t := ((psS (su t 45 0 0) nm nc nf i).1)) (g := G.2.2.1) hL) rfl rfl rfl rfl dX8_pass_51 rfl kx_no (fun h6 => ?_)
        refine v_iincN C (lv1 := [(3, .int (nI (i + 1))), (0, .ref (a 0 0)), (1, .int (nI (tn x)))]) i rfl dX8_pass_54 rfl 2 rfl (by decide) rfl ?_
        refine v_goto C (q := 45) dX8_pass_57 rfl ?_
        refine xx_lv [1, 2, 0] (lv' := [(0, .ref (a 0 0)), (1, .int (nI (tn x))), (3, .int (nI (i + 1)))]) rfl ?_
        refine xx_wc (w2 := wl a (E G.2.2.1 a s (psS (su t 45 0 0) nm nc nf (i + 1)).1) L) (lv' := [(0, .ref (a 0 0)), (1, .int (nI (tn x))), (3, .int (nI (i + 1)))]) (by rfl) (by first | rfl | (simp [h2, h3, Int32.not_lt.mpr h3, h5, Nat.not_le.mpr h5, pM, pU, heldM_45, gvW_45, inW_45, livN_45, sum9_45, sum13_45, passE, passR, passU, Nat.add_assoc])) ?_
        exact ih_i (by omega)
    · skip
      refine v_iconst C (v := 2) dX8_pass_30 rfl rfl ?_
      refine v_goto C (q := 35) dX8_pass_31 rfl ?_
      refine w_invVr C [.int (2)] 0 0 L_X8_145 (c_X8_holdsTo (s := s) (t := t)  hst hG hL 2) (m0 (s := s) (t := t) (g := G.2.2.1) hL) rfl rfl rfl rfl dX8_pass_35 rfl kx_no (fun h7 => ?_)
      refine v_ifB_ne C (t := 43) dX8_pass_38 rfl rfl (fun h => absurd h (by decide)) (fun _ => ?_)
      refine v_iconst C (v := 0) dX8_pass_41 rfl rfl ?_
      exact v_iret C (by decide) (by decide) dX8_pass_42 ⟨congrArg (fun z => some (Value.int z)) (by first | ((have e : i = tn x := by omega); subst e; simp only [h2, h3, Int32.not_le.mp h3, pM, pU, heldM_45, gvW_45, inW_45, livN_45, sum9_45, sum13_45, passE, passR, passU, bI, pM, pU, n10, n20, n30, n0, if_true, if_false, ite_true, ite_false, not_true_eq_false, not_false_eq_true, and_true, true_and, and_false, false_and, or_true, true_or, or_false, false_or, reduceIte, and_self, or_self, ne_eq, eq_self_iff_true, psS_0, s45_0, ← in_nI (N := 201) (vp_rng1 (x := x) (n := 200) rfl (by decide) (by assumption)) (by decide)]; done) | ((have e : i = tn x := by omega); subst e; simp only [h2, h3, Int32.not_le.mp h3, pM, pU, heldM_45, gvW_45, inW_45, livN_45, sum9_45, sum13_45, passE, passR, passU, bI, pM, pU, n10, n20, n30, n0, if_true, if_false, ite_true, ite_false, not_true_eq_false, not_false_eq_true, and_true, true_and, and_false, false_and, or_true, true_or, or_false, false_or, reduceIte, and_self, or_self, ne_eq, eq_self_iff_true]; done) | first | rfl | (simp only [h2, h3, Int32.not_le.mp h3, pM, pU, heldM_45, gvW_45, inW_45, livN_45, sum9_45, sum13_45, passE, passR, passU, bI, pM, pU, n10, n20, n30, n0, if_true, if_false, ite_true, ite_false, not_true_eq_false, not_false_eq_true, and_true, true_and, and_false, false_and, or_true, true_or, or_false, false_or, reduceIte, and_self, or_self, ne_eq, eq_self_iff_true]; first | done | rfl) | (simp [bI, h2, h3, Int32.not_le.mp h3, pM, pU, heldM_45, gvW_45, inW_45, livN_45, sum9_45, sum13_45, passE, passR, passU]; done) | (simp only [pM, pU, heldM_45, gvW_45, inW_45, livN_45, sum9_45, sum13_45, passE, passR, passU, bI, ← Int32.not_le] at *; simp [h2, h3, Int32.not_le.mp h3]; done) | (simp_all [bI, h2, h3, Int32.not_le.mp h3, pM, pU, heldM_45, gvW_45, inW_45, livN_45, sum9_45, sum13_45, passE, passR, passU]; done) | (simp_all [bI, h2, h3, Int32.not_le.mp h3, pM, pU, heldM_45, gvW_45, inW_45, livN_45, sum9_45, sum13_45, passE, passR, passU]; rfl) | (exfalso; omega)), by first | ((have e : i = tn x := by omega); subst e; simp only [h2, h3, Int32.not_le.mp h3, pM, pU, heldM_45, gvW_45, inW_45, livN_45, sum9_45, sum13_45, passE, passR, passU, bI, pM, pU, n10, n20, n30, n0, if_true, if_false, ite_true, ite_false, not_true_eq_false, not_false_eq_true, and_true, true_and, and_false, false_and, or_true, true_or, or_false, false_or, reduceIte, and_self, or_self, ne_eq, eq_self_iff_true, psS_0, s45_0, ← in_nI (N := 201) (vp_rng1 (x := x) (n := 200) rfl (by decide) (by assumption)) (by decide)]; done) | ((have e : i = tn x := by omega); subst e; simp only [h2, h3, Int32.not_le.mp h3, pM, pU, heldM_45, gvW_45, inW_45, livN_45, sum9_45, sum13_45, passE, passR, passU, bI, pM, pU, n10, n20, n30, n0, if_true, if_false, ite_true, ite_false, not_true_eq_false, not_false_eq_true, and_true, true_and, and_false, false_and, or_true, true_or, or_false, false_or, reduceIte, and_self, or_self, ne_eq, eq_self_iff_true]; done) | first | rfl | (simp only [h2, h3, Int32.not_le.mp h3, pM, pU, heldM_45, gvW_45, inW_45, livN_45, sum9_45, sum13_45, passE, passR, passU, bI, pM, pU, n10, n20, n30, n0, if_true, if_false, ite_true, ite_false, not_true_eq_false, not_false_eq_true, and_true, true_and, and_false, false_and, or_true, true_or, or_false, false_or, reduceIte, and_self, or_self, ne_eq, eq_self_iff_true]; first | done | rfl) | (simp [bI, h2, h3, Int32.not_le.mp h3, pM, pU, heldM_45, gvW_45, inW_45, livN_45, sum9_45, sum13_45, passE, passR, passU]; done) | (simp only [pM, pU, heldM_45, gvW_45, inW_45, livN_45, sum9_45, sum13_45, passE, passR, passU, bI, ← Int32.not_le] at *; simp [h2, h3, Int32.not_le.mp h3]; done) | (simp_all [bI, h2, h3, Int32.not_le.mp h3, pM, pU, heldM_45, gvW_45, inW_45, livN_45, sum9_45, sum13_45, passE, passR, passU]; done) | (simp_all [bI, h2, h3, Int32.not_le.mp h3, pM, pU, heldM_45, gvW_45, inW_45, livN_45, sum9_45, sum13_45, passE, passR, passU]; rfl) | (exfalso; omega), by trivial⟩
  · skip
    refine v_iconst C (v := 1) dX8_pass_14 rfl rfl ?_
    refine v_goto C (q := 35) dX8_pass_15 rfl ?_
    refine w_invVr C [.int (1)] 0 0 L_X8_145 (c_X8_holdsTo (s := s) (t := t)  hst hG hL 1) (m0 (s := s) (t := t) (g := G.2.2.1) hL) rfl rfl rfl rfl dX8_pass_35 rfl kx_no (fun h8 => ?_)
    refine v_ifB_ne C (t := 43) dX8_pass_38 rfl rfl (fun h => absurd h (by decide)) (fun _ => ?_)
    refine v_iconst C (v := 0) dX8_pass_41 rfl rfl ?_
    exact v_iret C (by decide) (by decide) dX8_pass_42 ⟨congrArg (fun z => some (Value.int z)) (by first | ((have e : i = tn x := by omega); subst e; simp only [h2, pM, pU, heldM_45, gvW_45, inW_45, livN_45, sum9_45, sum13_45, passE, passR, passU, bI, pM, pU, n10, n20, n30, n0, if_true, if_false, ite_true, ite_false, not_true_eq_false, not_false_eq_true, and_true, true_and, and_false, false_and, or_true, true_or, or_false, false_or, reduceIte, and_self, or_self, ne_eq, eq_self_iff_true, psS_0, s45_0, ← in_nI (N := 201) (vp_rng1 (x := x) (n := 200) rfl (by decide) (by assumption)) (by decide)]; done) | ((have e : i = tn x := by omega); subst e; simp only [h2, pM, pU, heldM_45, gvW_45, inW_45, livN_45, sum9_45, sum13_45, passE, passR, passU, bI, pM, pU, n10, n20, n30, n0, if_true, if_false, ite_true, ite_false, not_true_eq_false, not_false_eq_true, and_true, true_and, and_false, false_and, or_true, true_or, or_false, false_or, reduceIte, and_self, or_self, ne_eq, eq_self_iff_true]; done) | first | rfl | (simp only [h2, pM, pU, heldM_45, gvW_45, inW_45, livN_45, sum9_45, sum13_45, passE, passR, passU, bI, pM, pU, n10, n20, n30, n0, if_true, if_false, ite_true, ite_false, not_true_eq_false, not_false_eq_true, and_true, true_and, and_false, false_and, or_true, true_or, or_false, false_or, reduceIte, and_self, or_self, ne_eq, eq_self_iff_true]; first | done | rfl) | (simp [bI, h2, pM, pU, heldM_45, gvW_45, inW_45, livN_45, sum9_45, sum13_45, passE, passR, passU]; done) | (simp only [pM, pU, heldM_45, gvW_45, inW_45, livN_45, sum9_45, sum13_45, passE, passR, passU, bI, ← Int32.not_le] at *; simp [h2]; done) | (simp_all [bI, h2, pM, pU, heldM_45, gvW_45, inW_45, livN_45, sum9_45, sum13_45, passE, passR, passU]; done) | (simp_all [bI, h2, pM, pU, heldM_45, gvW_45, inW_45, livN_45, sum9_45, sum13_45, passE, passR, passU]; rfl) | (exfalso; omega)), by first | ((have e : i = tn x := by omega); subst e; simp only [h2, pM, pU, heldM_45, gvW_45, inW_45, livN_45, sum9_45, sum13_45, passE, passR, passU, bI, pM, pU, n10, n20, n30, n0, if_true, if_false, ite_true, ite_false, not_true_eq_false, not_false_eq_true, and_true, true_and, and_false, false_and, or_true, true_or, or_false, false_or, reduceIte, and_self, or_self, ne_eq, eq_self_iff_true, psS_0, s45_0, ← in_nI (N := 201) (vp_rng1 (x := x) (n := 200) rfl (by decide) (by assumption)) (by decide)]; done) | ((have e : i = tn x := by omega); subst e; simp only [h2, pM, pU, heldM_45, gvW_45, inW_45, livN_45, sum9_45, sum13_45, passE, passR, passU, bI, pM, pU, n10, n20, n30, n0, if_true, if_false, ite_true, ite_false, not_true_eq_false, not_false_eq_true, and_true, true_and, and_false, false_and, or_true, true_or, or_false, false_or, reduceIte, and_self, or_self, ne_eq, eq_self_iff_true]; done) | first | rfl | (simp only [h2, pM, pU, heldM_45, gvW_45, inW_45, livN_45, sum9_45, sum13_45, passE, passR, passU, bI, pM, pU, n10, n20, n30, n0, if_true, if_false, ite_true, ite_false, not_true_eq_false, not_false_eq_true, and_true, true_and, and_false, false_and, or_true, true_or, or_false, false_or, reduceIte, and_self, or_self, ne_eq, eq_self_iff_true]; first | done | rfl) | (simp [bI, h2, pM, pU, heldM_45, gvW_45, inW_45, livN_45, sum9_45, sum13_45, passE, passR, passU]; done) | (simp only [pM, pU, heldM_45, gvW_45, inW_45, livN_45, sum9_45, sum13_45, passE, passR, passU, bI, ← Int32.not_le] at *; simp [h2]; done) | (simp_all [bI, h2, pM, pU, heldM_45, gvW_45, inW_45, livN_45, sum9_45, sum13_45, passE, passR, passU]; done) | (simp_all [bI, h2, pM, pU, heldM_45, gvW_45, inW_45, livN_45, sum9_45, sum13_45, passE, passR, passU]; rfl) | (exfalso; omega), by trivial⟩

