theorem boW_b {z : SS} {f M : Nat} {m : Int32} : ∀ n, (boW z f M m n).2.1 ≤ n - 1
  | 0 => Nat.le_refl _
  | n + 1 => by
    have h := boW_b (z := z) (f := f) (M := M) (m := m) n
    show (if _ then n else (boW z f M m n).2.1) ≤ n + 1 - 1
    split <;> omega
def plnB (z : SS) (f M : Nat) (m : Int32) : Nat := (boW z f M m (ordL (M + 1))).2.1
def plnL (z : SS) (f M : Nat) (m : Int32) : SS := lyW (boW z f M m (ordL (M + 1))).1 M (plnB z f M m) M
def plnW (z : SS) (f M : Nat) (m : Int32) : SS × Int32 := dgW (dgI (plnL z f M m) f M) f M m (lyC M (plnB z f M m)) M
def prF (p : Int32) : Int32 := if p < 0 then 0 else 1
theorem vp_lt {p : Int32} {M N : Nat} (h0 : ¬ p < 0) (h : p < nI M) (hM : M ≤ N) (hN : N < 1000) : vp_in p N := by
  obtain ⟨j, hj, rfl⟩ := nI_of h0
  rw [nI_ltI hj (by omega)] at h
  exact vp_in_nI (by omega) (by omega)
theorem sz6 {z : Int32} {M : Nat} (hz : z = nI M) (hM : M ≤ 10) (h : ¬ 5 < z) : M < 6 := by
  rw [hz, show (5 : Int32) = nI 5 from rfl, nI_ltI (by omega) (by omega)] at h
  omega

abbrev r_X8_plan : Room := { frames := 4, cells := 0, slots := 0, locals := 99 }
set_option maxRecDepth 4000 in
theorem c_X8_plan {l : Launch} {G : GG} {a : AD} {s t s0 : SS} {L : List (Nat × Nat)} {nc : Nat} (hst : l.stackTraces = false) (hG : GOK G) (hL : Live L s0) (x : Int32) (m : Int32) (hc : t 21 0 = nI nc) (hc30 : nc ≤ 30) (hcz : ∀ i, i < nc → 1 ≤ tn (t 24 i) ∧ tn (t 24 i) ≤ 10 ∧ t 24 i = nI (tn (t 24 i)) ∧ t 23 i = nI (tn (t 23 i)) ∧ tn (t 23 i) + tn (t 24 i) ≤ 40) : Mth l yX8_plan cX8_plan 3 (Option.some Jvm.ClassFile.FieldType.int) r_X8_plan G (wl a (E G.2.2.1 a s t) L) [.ref (a 0 0), .int x, .int m] (RI (.int (pM (apE t x m 1) (plnW (su t 45 0 (apE t x m 1)) (tn (t 23 (tn x))) (tn (t 24 (tn x))) m).2)) (wl a (E G.2.2.1 a s (if apE t x m 1 = 0 then (plnW (su t 45 0 (apE t x m 1)) (tn (t 23 (tn x))) (tn (t 24 (tn x))) m).1 else (su t 45 0 (apE t x m 1)))) L) (True)) nX := by
  refine mth_of rfl (Nat.le_of_ble_eq_true rfl) hst hG (fun X hX C0 => ?_)
  subst hX
  have C : Cx X G cX8_plan 3 RX8 (Option.some Jvm.ClassFile.FieldType.int) r_X8_plan "plan" [] := C0
  clear C0
  show V X G 3 _ 0 0 _ 0 [(0, .ref (a 0 0)), (1, .int (x)), (2, .int (m))] []
  refine v_aload_n C dX8_plan_0 rfl 0 rfl ?_
  refine v_iload_n C dX8_plan_1 rfl 1 rfl ?_
  refine v_iload_n C dX8_plan_2 rfl 2 rfl ?_
  refine v_iconst C (v := 1) dX8_plan_3 rfl rfl ?_
  refine w_invVr C [.int (x), .int (m), .int (1)] 0 0 L_X8_251 (c_X8_asksPlan (s := s) (t := t) (nc := nc) hst hG hL x m 1 hc hc30) (m0 (s := s) (t := t) (g := G.2.2.1) hL) rfl rfl rfl rfl dX8_plan_4 rfl kx_no (fun h1 => ?_)
  refine v_ifB_ne C (t := 12) dX8_plan_7 rfl rfl (fun h2 => ?_) (fun h2 => ?_)
  · skip
    have h0 := apE_0 (z := t) (x := x) (m := m) (r := 1) (by assumption)
    have lx : tn x < nc := in_lt (vp_cnt h0.1.1 hc (Nat.le_refl _) (by omega))
    have hf := hcz (tn x) lx
    have hz5 : 1 ≤ (tn (t 24 (tn x))) ∧ (tn (t 24 (tn x))) < 6 := ⟨hf.1, sz6 hf.2.2.1 hf.2.1 h0.2.2⟩
    have hob := ordL_b ((tn (t 24 (tn x))) + 1) (by omega)
    refine v_aload_n C dX8_plan_12 rfl 0 rfl ?_
    refine v_aload_n C dX8_plan_13 rfl 0 rfl ?_
    refine v_get C (v := .ref (a 1 24)) g_X8_65 (m0 (s := s) (t := ((su t 45 0 (apE t x m 1)))) (g := G.2.2.1) hL) (rg (by decide) rfl) dX8_plan_14 rfl ?_
    refine v_iload_n C dX8_plan_17 rfl 1 rfl ?_
    refine v_iald C (len := 30) (m1 (s := s) (t := ((su t 45 0 (apE t x m 1)))) (g := G.2.2.1) hL 24 rfl) (vp_cnt h0.1.1 hc hc30 (by decide)) dX8_plan_18 rfl ?_
    refine xx_top (y := t 24 (tn x)) rfl ?_
    refine xx_top (y := nI (tn (t 24 (tn x)))) hf.2.2.1 ?_
    refine v_aload_n C dX8_plan_19 rfl 0 rfl ?_
    refine v_iload_n C dX8_plan_20 rfl 1 rfl ?_
    refine v_iload_n C dX8_plan_21 rfl 2 rfl ?_
    refine w_invVr C [.int (x), .int (m)] 0 0 L_X8_255 (c_X8_bestOrder (s := s) (t := ((su t 45 0 (apE t x m 1)))) (mz := ((tn (t 24 (tn x))))) (fz := ((tn (t 23 (tn x))))) hst hG hL x _ (in_nI (N := 30) (vp_cnt h0.1.1 hc hc30 (by decide)) (by omega)) (in_lt (N := 30) (vp_cnt h0.1.1 hc hc30 (by decide))) m hf.2.2.1 hz5 hf.2.2.2.1 hf.2.2.2.2) (m0 (s := s) (t := ((su t 45 0 (apE t x m 1)))) (g := G.2.2.1) hL) rfl rfl rfl rfl dX8_plan_22 rfl kx_no (fun h3 => ?_)
    have hb := boW_b (z := (su t 45 0 (apE t x m 1))) (f := (tn (t 23 (tn x)))) (M := (tn (t 24 (tn x)))) (m := m) (ordL ((tn (t 24 (tn x))) + 1))
    refine w_invVv C [.int (nI (tn (t 24 (tn x)))), .int (nI ((boW (su t 45 0 (apE t x m 1)) (tn (t 23 (tn x))) (tn (t 24 (tn x))) m (ordL ((tn (t 24 (tn x))) + 1))).2.1))] 0 0 L_X8_245 (c_X8_laysOrder (s := s) (t := ((boW ((su t 45 0 (apE t x m 1))) ((tn (t 23 (tn x)))) ((tn (t 24 (tn x)))) m (ordL (((tn (t 24 (tn x)))) + 1))).1))  hst hG hL (nI (tn (t 24 (tn x)))) (tn (t 24 (tn x))) rfl (by omega) (nI ((boW (su t 45 0 (apE t x m 1)) (tn (t 23 (tn x))) (tn (t 24 (tn x))) m (ordL ((tn (t 24 (tn x))) + 1))).2.1)) ((boW (su t 45 0 (apE t x m 1)) (tn (t 23 (tn x))) (tn (t 24 (tn x))) m (ordL ((tn (t 24 (tn x))) + 1))).2.1) rfl (by omega) (by omega)) (m0 (s := s) (t := ((boW ((su t 45 0 (apE t x m 1))) ((tn (t 23 (tn x)))) ((tn (t 24 (tn x)))) m (ordL (((tn (t 24 (tn x)))) + 1))).1)) (g := G.2.2.1) hL) rfl rfl rfl rfl dX8_plan_25 rfl kx_no (fun h4 => ?_)
    refine v_aload_n C dX8_plan_28 rfl 0 rfl ?_
    refine v_iload_n C dX8_plan_29 rfl 1 rfl ?_
    refine v_iload_n C dX8_plan_30 rfl 2 rfl ?_
    refine w_invVr C [.int (x), .int (m)] 0 0 L_X8_248 (c_X8_digs (s := s) (t := ((lyW ((boW ((su t 45 0 (apE t x m 1))) ((tn (t 23 (tn x)))) ((tn (t 24 (tn x)))) m (ordL (((tn (t 24 (tn x)))) + 1))).1) (tn (t 24 (tn x))) ((boW (su t 45 0 (apE t x m 1)) (tn (t 23 (tn x))) (tn (t 24 (tn x))) m (ordL ((tn (t 24 (tn x))) + 1))).2.1) (tn (t 24 (tn x)))))) (mz := ((tn (t 24 (tn x))))) (fz := ((tn (t 23 (tn x))))) (op := ((lyC (tn (t 24 (tn x))) ((boW (su t 45 0 (apE t x m 1)) (tn (t 23 (tn x))) (tn (t 24 (tn x))) m (ordL ((tn (t 24 (tn x))) + 1))).2.1)))) hst hG hL x _ (in_nI (N := 30) (vp_cnt h0.1.1 hc hc30 (by decide)) (by omega)) (in_lt (N := 30) (vp_cnt h0.1.1 hc hc30 (by decide))) m (Eq.trans (congrFun (Eq.trans (lyW_o (k := 24) (by decide) _) (boW_o (k := 24) (by decide) (by decide) _)) _) hf.2.2.1) hz5 (Eq.trans (congrFun (Eq.trans (lyW_o (k := 23) (by decide) _) (boW_o (k := 23) (by decide) (by decide) _)) _) hf.2.2.2.1) hf.2.2.2.2 (fun p hp => ⟨lyW_43 _ hp, (ly_all _ (by omega) _ (by omega) p hp).1⟩)) (m0 (s := s) (t := ((lyW ((boW ((su t 45 0 (apE t x m 1))) ((tn (t 23 (tn x)))) ((tn (t 24 (tn x)))) m (ordL (((tn (t 24 (tn x)))) + 1))).1) (tn (t 24 (tn x))) ((boW (su t 45 0 (apE t x m 1)) (tn (t 23 (tn x))) (tn (t 24 (tn x))) m (ordL ((tn (t 24 (tn x))) + 1))).2.1) (tn (t 24 (tn x)))))) (g := G.2.2.1) hL) rfl rfl rfl rfl dX8_plan_31 rfl kx_no (fun h5 => ?_)
    exact v_iret C (by decide) (by decide) dX8_plan_34 ⟨congrArg (fun z => some (Value.int z)) (by simp only [eq_true h2, pM, if_true, if_false]; first | done | rfl), by simp only [eq_true h2, if_true, if_false]; first | done | rfl, by trivial⟩
  · skip
    refine v_iconst C (v := 0) dX8_plan_10 rfl rfl ?_
    exact v_iret C (by decide) (by decide) dX8_plan_11 ⟨congrArg (fun z => some (Value.int z)) (by simp only [h2, pM, if_true, if_false]; first | done | rfl), by simp only [h2, if_true, if_false]; first | done | rfl, by trivial⟩

abbrev r_X8_planCell : Room := { frames := 4, cells := 0, slots := 0, locals := 99 }
set_option maxRecDepth 4000 in
theorem c_X8_planCell {l : Launch} {G : GG} {a : AD} {s t s0 : SS} {L : List (Nat × Nat)} {nc : Nat} (hst : l.stackTraces = false) (hG : GOK G) (hL : Live L s0) (x : Int32) (m : Int32) (p : Int32) (hc : t 21 0 = nI nc) (hc30 : nc ≤ 30) (hcz : ∀ i, i < nc → 1 ≤ tn (t 24 i) ∧ tn (t 24 i) ≤ 10 ∧ t 24 i = nI (tn (t 24 i)) ∧ t 23 i = nI (tn (t 23 i)) ∧ tn (t 23 i) + tn (t 24 i) ≤ 40) : Mth l yX8_planCell cX8_planCell 4 (Option.some Jvm.ClassFile.FieldType.int) r_X8_planCell G (wl a (E G.2.2.1 a s t) L) [.ref (a 0 0), .int x, .int m, .int p] (RI (.int (pM (apE t x m (prF p)) (if p < t 24 (tn x) then t 23 (tn x) + plnL (su t 45 0 (apE t x m (prF p))) (tn (t 23 (tn x))) (tn (t 24 (tn x))) m 43 (tn p) else -1))) (wl a (E G.2.2.1 a s (if apE t x m (prF p) = 0 ∧ p < t 24 (tn x) then plnL (su t 45 0 (apE t x m (prF p))) (tn (t 23 (tn x))) (tn (t 24 (tn x))) m else (su t 45 0 (apE t x m (prF p))))) L) (True)) nX := by
  refine mth_of rfl (Nat.le_of_ble_eq_true rfl) hst hG (fun X hX C0 => ?_)
  subst hX
  have C : Cx X G cX8_planCell 4 RX8 (Option.some Jvm.ClassFile.FieldType.int) r_X8_planCell "planCell" [] := C0
  clear C0
  show V X G 4 _ 0 0 _ 0 [(0, .ref (a 0 0)), (1, .int (x)), (2, .int (m)), (3, .int (p))] []
  refine v_aload_n C dX8_planCell_0 rfl 0 rfl ?_
  refine v_iload_n C dX8_planCell_1 rfl 1 rfl ?_
  refine v_iload_n C dX8_planCell_2 rfl 2 rfl ?_
  refine v_iload_n C dX8_planCell_3 rfl 3 rfl ?_
  refine v_if_lt C (t := 11) dX8_planCell_4 rfl rfl (fun h1 => ?_) (fun h1 => ?_)
  · skip
    refine v_iconst C (v := 0) dX8_planCell_11 rfl rfl ?_
    refine w_invVr C [.int (x), .int (m), .int (0)] 0 0 L_X8_251 (c_X8_asksPlan (s := s) (t := t) (nc := nc) hst hG hL x m 0 hc hc30) (m0 (s := s) (t := t) (g := G.2.2.1) hL) rfl rfl rfl rfl dX8_planCell_12 rfl kx_no (fun h2 => ?_)
    refine v_ifB_ne C (t := 20) dX8_planCell_15 rfl rfl (fun h3 => ?_) (fun h3 => ?_)
    · skip
      exact absurd rfl (apE_0 (z := t) (x := x) (m := m) (r := 0) (by assumption)).1.2
    · skip
      refine v_iconst C (v := 0) dX8_planCell_18 rfl rfl ?_
      exact v_iret C (by decide) (by decide) dX8_planCell_19 ⟨congrArg (fun z => some (Value.int z)) (by (simp only [pM, prF, h1, Int32.not_le.mpr h1, h3, if_true, if_false]); (try rw [hf.2.2.1]); (try simp only [h1, Int32.not_le.mpr h1, h3, if_true, if_false]); first | done | rfl), by (simp only [prF, h1, Int32.not_le.mpr h1, h3, if_true, if_false, true_and, false_and]); (try rw [hf.2.2.1]); (try simp only [h1, Int32.not_le.mpr h1, h3, if_true, if_false, true_and]); first | done | rfl, by trivial⟩
  · skip
    refine v_iconst C (v := 1) dX8_planCell_7 rfl rfl ?_
    refine v_goto C (q := 12) dX8_planCell_8 rfl ?_
    refine w_invVr C [.int (x), .int (m), .int (1)] 0 0 L_X8_251 (c_X8_asksPlan (s := s) (t := t) (nc := nc) hst hG hL x m 1 hc hc30) (m0 (s := s) (t := t) (g := G.2.2.1) hL) rfl rfl rfl rfl dX8_planCell_12 rfl kx_no (fun h4 => ?_)
    refine v_ifB_ne C (t := 20) dX8_planCell_15 rfl rfl (fun h5 => ?_) (fun h5 => ?_)
    · skip
      have h0 := apE_0 (z := t) (x := x) (m := m) (r := 1) (by assumption)
      have lx : tn x < nc := in_lt (vp_cnt h0.1.1 hc (Nat.le_refl _) (by omega))
      have hf := hcz (tn x) lx
      have hz5 : 1 ≤ (tn (t 24 (tn x))) ∧ (tn (t 24 (tn x))) < 6 := ⟨hf.1, sz6 hf.2.2.1 hf.2.1 h0.2.2⟩
      have hob := ordL_b ((tn (t 24 (tn x))) + 1) (by omega)
      refine v_iload_n C dX8_planCell_20 rfl 3 rfl ?_
      refine v_aload_n C dX8_planCell_21 rfl 0 rfl ?_
      refine v_get C (v := .ref (a 1 24)) g_X8_65 (m0 (s := s) (t := ((su t 45 0 (apE t x m 1)))) (g := G.2.2.1) hL) (rg (by decide) rfl) dX8_planCell_22 rfl ?_
      refine v_iload_n C dX8_planCell_25 rfl 1 rfl ?_
      refine v_iald C (len := 30) (m1 (s := s) (t := ((su t 45 0 (apE t x m 1)))) (g := G.2.2.1) hL 24 rfl) (vp_cnt h0.1.1 hc hc30 (by decide)) dX8_planCell_26 rfl ?_
      refine xx_top (y := t 24 (tn x)) rfl ?_
      refine xx_top (y := nI (tn (t 24 (tn x)))) hf.2.2.1 ?_
      refine v_icmp_lt C (t := 32) dX8_planCell_27 rfl rfl (fun h6 => ?_) (fun h6 => ?_)
      · skip
        refine v_aload_n C dX8_planCell_32 rfl 0 rfl ?_
        refine v_aload_n C dX8_planCell_33 rfl 0 rfl ?_
        refine v_get C (v := .ref (a 1 24)) g_X8_65 (m0 (s := s) (t := ((su t 45 0 (apE t x m 1)))) (g := G.2.2.1) hL) (rg (by decide) rfl) dX8_planCell_34 rfl ?_
        refine v_iload_n C dX8_planCell_37 rfl 1 rfl ?_
        refine v_iald C (len := 30) (m1 (s := s) (t := ((su t 45 0 (apE t x m 1)))) (g := G.2.2.1) hL 24 rfl) (vp_cnt h0.1.1 hc hc30 (by decide)) dX8_planCell_38 rfl ?_
        refine xx_top (y := t 24 (tn x)) rfl ?_
        refine xx_top (y := nI (tn (t 24 (tn x)))) hf.2.2.1 ?_
        refine v_aload_n C dX8_planCell_39 rfl 0 rfl ?_
        refine v_iload_n C dX8_planCell_40 rfl 1 rfl ?_
        refine v_iload_n C dX8_planCell_41 rfl 2 rfl ?_
        refine w_invVr C [.int (x), .int (m)] 0 0 L_X8_255 (c_X8_bestOrder (s := s) (t := ((su t 45 0 (apE t x m 1)))) (mz := ((tn (t 24 (tn x))))) (fz := ((tn (t 23 (tn x))))) hst hG hL x _ (in_nI (N := 30) (vp_cnt h0.1.1 hc hc30 (by decide)) (by omega)) (in_lt (N := 30) (vp_cnt h0.1.1 hc hc30 (by decide))) m hf.2.2.1 hz5 hf.2.2.2.1 hf.2.2.2.2) (m0 (s := s) (t := ((su t 45 0 (apE t x m 1)))) (g := G.2.2.1) hL) rfl rfl rfl rfl dX8_planCell_42 rfl kx_no (fun h7 => ?_)
        have hb := boW_b (z := (su t 45 0 (apE t x m 1))) (f := (tn (t 23 (tn x)))) (M := (tn (t 24 (tn x)))) (m := m) (ordL ((tn (t 24 (tn x))) + 1))
        refine w_invVv C [.int (nI (tn (t 24 (tn x)))), .int (nI ((boW (su t 45 0 (apE t x m 1)) (tn (t 23 (tn x))) (tn (t 24 (tn x))) m (ordL ((tn (t 24 (tn x))) + 1))).2.1))] 0 0 L_X8_245 (c_X8_laysOrder (s := s) (t := ((boW ((su t 45 0 (apE t x m 1))) ((tn (t 23 (tn x)))) ((tn (t 24 (tn x)))) m (ordL (((tn (t 24 (tn x)))) + 1))).1))  hst hG hL (nI (tn (t 24 (tn x)))) (tn (t 24 (tn x))) rfl (by omega) (nI ((boW (su t 45 0 (apE t x m 1)) (tn (t 23 (tn x))) (tn (t 24 (tn x))) m (ordL ((tn (t 24 (tn x))) + 1))).2.1)) ((boW (su t 45 0 (apE t x m 1)) (tn (t 23 (tn x))) (tn (t 24 (tn x))) m (ordL ((tn (t 24 (tn x))) + 1))).2.1) rfl (by omega) (by omega)) (m0 (s := s) (t := ((boW ((su t 45 0 (apE t x m 1))) ((tn (t 23 (tn x)))) ((tn (t 24 (tn x)))) m (ordL (((tn (t 24 (tn x)))) + 1))).1)) (g := G.2.2.1) hL) rfl rfl rfl rfl dX8_planCell_45 rfl kx_no (fun h8 => ?_)
        refine v_aload_n C dX8_planCell_48 rfl 0 rfl ?_
        refine v_get C (v := .ref (a 1 23)) g_X8_62 (m0 (s := s) (t := ((lyW ((boW ((su t 45 0 (apE t x m 1))) ((tn (t 23 (tn x)))) ((tn (t 24 (tn x)))) m (ordL (((tn (t 24 (tn x)))) + 1))).1) (tn (t 24 (tn x))) ((boW (su t 45 0 (apE t x m 1)) (tn (t 23 (tn x))) (tn (t 24 (tn x))) m (ordL ((tn (t 24 (tn x))) + 1))).2.1) (tn (t 24 (tn x)))))) (g := G.2.2.1) hL) (rg (by decide) rfl) dX8_planCell_49 rfl ?_
        refine v_iload_n C dX8_planCell_52 rfl 1 rfl ?_
        refine v_iald C (len := 30) (m1 (s := s) (t := ((lyW ((boW ((su t 45 0 (apE t x m 1))) ((tn (t 23 (tn x)))) ((tn (t 24 (tn x)))) m (ordL (((tn (t 24 (tn x)))) + 1))).1) (tn (t 24 (tn x))) ((boW (su t 45 0 (apE t x m 1)) (tn (t 23 (tn x))) (tn (t 24 (tn x))) m (ordL ((tn (t 24 (tn x))) + 1))).2.1) (tn (t 24 (tn x)))))) (g := G.2.2.1) hL 23 rfl) (vp_cnt h0.1.1 hc hc30 (by decide)) dX8_planCell_53 rfl ?_
        refine xx_top (y := (boW ((su t 45 0 (apE t x m 1))) ((tn (t 23 (tn x)))) ((tn (t 24 (tn x)))) m (ordL (((tn (t 24 (tn x)))) + 1))).1 23 (tn x)) (congrFun (lyW_o (k := 23) (by decide) _) _) ?_
        refine xx_top (y := t 23 (tn x)) (congrFun (boW_o (k := 23) (by decide) (by decide) _) _) ?_
        refine v_aload_n C dX8_planCell_54 rfl 0 rfl ?_
        refine v_get C (v := .ref (a 1 43)) g_X8_114 (m0 (s := s) (t := ((lyW ((boW ((su t 45 0 (apE t x m 1))) ((tn (t 23 (tn x)))) ((tn (t 24 (tn x)))) m (ordL (((tn (t 24 (tn x)))) + 1))).1) (tn (t 24 (tn x))) ((boW (su t 45 0 (apE t x m 1)) (tn (t 23 (tn x))) (tn (t 24 (tn x))) m (ordL ((tn (t 24 (tn x))) + 1))).2.1) (tn (t 24 (tn x)))))) (g := G.2.2.1) hL) (rg (by decide) rfl) dX8_planCell_55 rfl ?_
        refine v_iload_n C dX8_planCell_58 rfl 3 rfl ?_
        refine v_iald C (len := 5) (m1 (s := s) (t := ((lyW ((boW ((su t 45 0 (apE t x m 1))) ((tn (t 23 (tn x)))) ((tn (t 24 (tn x)))) m (ordL (((tn (t 24 (tn x)))) + 1))).1) (tn (t 24 (tn x))) ((boW (su t 45 0 (apE t x m 1)) (tn (t 23 (tn x))) (tn (t 24 (tn x))) m (ordL ((tn (t 24 (tn x))) + 1))).2.1) (tn (t 24 (tn x)))))) (g := G.2.2.1) hL 43 rfl) (vp_lt (by assumption) (by assumption) (by omega) (by decide)) dX8_planCell_59 rfl ?_
        refine v_iadd C dX8_planCell_60 rfl ?_
        exact v_iret C (by decide) (by decide) dX8_planCell_61 ⟨congrArg (fun z => some (Value.int z)) (by (simp only [pM, prF, h1, Int32.not_lt.mp h1, eq_true h5, h6, Int32.not_le.mpr h6, if_true, if_false]); (try rw [hf.2.2.1]); (try simp only [h1, Int32.not_lt.mp h1, eq_true h5, h6, Int32.not_le.mpr h6, if_true, if_false]); first | done | rfl), by (simp only [prF, h1, Int32.not_lt.mp h1, eq_true h5, h6, Int32.not_le.mpr h6, if_true, if_false, true_and, false_and]); (try rw [hf.2.2.1]); (try simp only [h1, Int32.not_lt.mp h1, eq_true h5, h6, Int32.not_le.mpr h6, if_true, if_false, true_and]); first | done | rfl, by trivial⟩
      · skip
        refine v_iconst C (v := (-1)) dX8_planCell_30 rfl rfl ?_
        exact v_iret C (by decide) (by decide) dX8_planCell_31 ⟨congrArg (fun z => some (Value.int z)) (by (simp only [pM, prF, h1, Int32.not_lt.mp h1, eq_true h5, h6, Int32.not_lt.mp h6, if_true, if_false]); (try rw [hf.2.2.1]); (try simp only [h1, Int32.not_lt.mp h1, eq_true h5, h6, Int32.not_lt.mp h6, if_true, if_false]); first | done | rfl), by (simp only [prF, h1, Int32.not_lt.mp h1, eq_true h5, h6, Int32.not_lt.mp h6, if_true, if_false, true_and, false_and]); (try rw [hf.2.2.1]); (try simp only [h1, Int32.not_lt.mp h1, eq_true h5, h6, Int32.not_lt.mp h6, if_true, if_false, true_and]); first | done | rfl, by trivial⟩
    · skip
      refine v_iconst C (v := 0) dX8_planCell_18 rfl rfl ?_
      exact v_iret C (by decide) (by decide) dX8_planCell_19 ⟨congrArg (fun z => some (Value.int z)) (by (simp only [pM, prF, h1, Int32.not_lt.mp h1, h5, if_true, if_false]); (try rw [hf.2.2.1]); (try simp only [h1, Int32.not_lt.mp h1, h5, if_true, if_false]); first | done | rfl), by (simp only [prF, h1, Int32.not_lt.mp h1, h5, if_true, if_false, true_and, false_and]); (try rw [hf.2.2.1]); (try simp only [h1, Int32.not_lt.mp h1, h5, if_true, if_false, true_and]); first | done | rfl, by trivial⟩

