/-- what a step of the law leaves -/
def Nxt (G : GG) (r : Nat → Nat) (nm k1 : Nat) (w1 : va_W) : Prop := ∃ (s1 t1 : SS) (nm1 nc1 nr1 : Nat), Wd G r s1 t1 nm1 nc1 nr1 w1 ∧ Js s1 nm1 nc1 nr1 k1 ∧ K9 s1 t1 nm1 nc1 nr1 k1 ∧ nm ≤ nm1 ∧ 0 < nm1
abbrev r_L_isPassed : Room := { frames := 11, cells := 133, slots := 875, locals := 200 }
theorem sg_pas_0 {X : XS} {G : GG} {w : va_W} {Q : State → Prop} {r : Nat → Nat} {s t : SS} {nm nc nr k B D : Nat} {X0 : Nat} (C : Cx X G cL_isPassed 10 RL (Option.some Jvm.ClassFile.FieldType.boolean) r_L_isPassed "isPassed" []) (hW : Wd G r s t nm nc nr w) (hJ : Js s nm nc nr k) (hk : k ≤ 130) (hT : K9 s t nm nc nr k) (hX : X0 < 100000000) (hnm : 0 < nm) (hKc : B + 0 ≤ r_L_isPassed.cells) (hKn : D + 0 ≤ r_L_isPassed.slots) (kk : ∀ d, 1 ≤ d → d ≤ 40 → V X G 10 w (B + 0) (D + 0) Q 17 [(0, .ref (r 4)), (1, .ref (r 0)), (2, .int (nI (X0)))] [.int (nI d)]) : V X G 10 w B D Q 0 [(0, .ref (r 4)), (1, .ref (r 0)), (2, .int (nI (X0)))] [] := by
  have hst : X.2.1.stackTraces = false := C.2.2.2.2.2.1
  have hG : GOK G := C.2.2.2.2.2.2.2.2.2.1
  have hm := hJ.1.1
  have hdy0 := hJ.1.2.1.2
  refine v_iconst C (v := 1) dL_isPassed_0 rfl rfl ?_
  refine v_iload_n C dL_isPassed_1 rfl 2 rfl ?_
  refine v_iload_n C dL_isPassed_2 rfl 2 rfl ?_
  refine v_bipush C (v := 9) dL_isPassed_3 rfl rfl ?_
  refine v_iremN C X0 9 rfl rfl (by omega) (by omega) (by omega) dL_isPassed_5 rfl ?_
  refine v_ifN_ne C (t := 14) (X0 % 9) rfl (by omega) dL_isPassed_6 rfl rfl (fun h1 => ?_) (fun h1 => ?_)
  · skip
    refine v_iconst C (v := 3) dL_isPassed_14 rfl rfl ?_
    refine v_iremN C X0 3 rfl rfl (by omega) (by omega) (by omega) dL_isPassed_15 rfl ?_
    refine v_iaddN C 1 (X0 % 3) rfl rfl dL_isPassed_16 rfl ?_
    refine xx_lv [0, 1, 2] (lv' := [(0, .ref (r 4)), (1, .ref (r 0)), (2, .int (nI (X0)))]) rfl ?_
    exact xx_mono (Nat.le_add_right _ _) (Nat.le_add_right _ _) (kk (1 + (X0 % 3)) (by omega) (by omega))
  · skip
    refine v_bipush C (v := 40) dL_isPassed_9 rfl rfl ?_
    refine v_goto C (q := 15) dL_isPassed_11 rfl ?_
    refine v_iremN C X0 40 rfl rfl (by omega) (by omega) (by omega) dL_isPassed_15 rfl ?_
    refine v_iaddN C 1 (X0 % 40) rfl rfl dL_isPassed_16 rfl ?_
    refine xx_lv [0, 1, 2] (lv' := [(0, .ref (r 4)), (1, .ref (r 0)), (2, .int (nI (X0)))]) rfl ?_
    exact xx_mono (Nat.le_add_right _ _) (Nat.le_add_right _ _) (kk (1 + (X0 % 40)) (by omega) (by omega))

theorem sg_pas_1 {X : XS} {G : GG} {w : va_W} {Q : State → Prop} {r : Nat → Nat} {s t : SS} {nm nc nr k B D : Nat} {X0 : Nat} {d : Nat} (C : Cx X G cL_isPassed 10 RL (Option.some Jvm.ClassFile.FieldType.boolean) r_L_isPassed "isPassed" []) (hW : Wd G r s t nm nc nr w) (hJ : Js s nm nc nr k) (hk : k ≤ 130) (hT : K9 s t nm nc nr k) (hX : X0 < 100000000) (hnm : 0 < nm) (hd1 : 1 ≤ d) (hd40 : d ≤ 40) (hKc : B + 1 ≤ r_L_isPassed.cells) (hKn : D + 6 ≤ r_L_isPassed.slots) (kk : ∀ ce, ce < 40 → V X G 10 w (B + 1) (D + 6) Q 47 [(0, .ref (r 4)), (1, .ref (r 0)), (2, .int (nI (X0))), (3, .int (nI (d))), (4, .int (nI (ce))), (5, .int (nI (tn (s 11 ce)))), (6, .int (nI (tn (s 0 0)))), (7, .int (nI (SN (s 25) 0))), (8, .int (nI (0)))] []) : V X G 10 w B D Q 17 [(0, .ref (r 4)), (1, .ref (r 0)), (2, .int (nI (X0)))] [.int (nI (d))] := by
  have hst : X.2.1.stackTraces = false := C.2.2.2.2.2.1
  have hG : GOK G := C.2.2.2.2.2.2.2.2.2.1
  have hm := hJ.1.1
  have hdy0 := hJ.1.2.1.2
  refine v_istore_n C (lv1 := [(3, .int (nI (d))), (0, .ref (r 4)), (1, .ref (r 0)), (2, .int (nI (X0)))]) dL_isPassed_17 rfl (by decide) rfl ?_
  refine v_iload_n C dL_isPassed_18 rfl 3 rfl ?_
  refine v_bipush C (v := 9) dL_isPassed_19 rfl rfl ?_
  refine v_idivN C X0 9 rfl rfl (by omega) (by omega) (by omega) dL_isPassed_21 rfl ?_
  refine v_bipush C (v := 40) dL_isPassed_22 rfl rfl ?_
  refine v_iremN C (X0 / 9) 40 rfl rfl (by omega) (by omega) (by omega) dL_isPassed_24 rfl ?_
  have hce : X0 / 9 % 40 < 40 := Nat.mod_lt _ (by omega)
  generalize X0 / 9 % 40 = ce at hce ⊢
  refine v_istore C (lv1 := [(4, .int (nI (ce))), (3, .int (nI (d))), (0, .ref (r 4)), (1, .ref (r 0)), (2, .int (nI (X0)))]) dL_isPassed_25 rfl (by decide) rfl ?_
  refine v_aload_n C dL_isPassed_27 rfl 2 rfl ?_
  refine v_iload C dL_isPassed_28 rfl 0 rfl ?_
  refine q_belief C hW hJ (i := ce) (by omega) (B + 1) (D + 6) ⟨⟨Nat.le_refl _, bl hKc (Nat.le_of_ble_eq_true rfl)⟩, Nat.le_refl _, bl hKn (Nat.le_of_ble_eq_true rfl)⟩ rfl dL_isPassed_30 rfl (fun b1 => ?_)
  refine v_istore C (lv1 := [(5, .int (nI (tn (s 11 ce)))), (4, .int (nI (ce))), (3, .int (nI (d))), (0, .ref (r 4)), (1, .ref (r 0)), (2, .int (nI (X0)))]) dL_isPassed_33 rfl (by decide) rfl ?_
  refine v_aload_n C dL_isPassed_35 rfl 3 rfl ?_
  refine q_day C hW hJ (B + 1) (D + 6) ⟨⟨Nat.le_refl _, bl hKc (Nat.le_of_ble_eq_true rfl)⟩, Nat.le_refl _, bl hKn (Nat.le_of_ble_eq_true rfl)⟩ rfl dL_isPassed_36 rfl (fun b2 => ?_)
  refine v_istore C (lv1 := [(6, .int (nI (tn (s 0 0)))), (5, .int (nI (tn (s 11 ce)))), (4, .int (nI (ce))), (3, .int (nI (d))), (0, .ref (r 4)), (1, .ref (r 0)), (2, .int (nI (X0)))]) dL_isPassed_39 rfl (by decide) rfl ?_
  refine v_iconst C (v := 0) dL_isPassed_41 rfl rfl ?_
  refine v_istore C (lv1 := [(7, .int (0)), (6, .int (nI (tn (s 0 0)))), (5, .int (nI (tn (s 11 ce)))), (4, .int (nI (ce))), (3, .int (nI (d))), (0, .ref (r 4)), (1, .ref (r 0)), (2, .int (nI (X0)))]) dL_isPassed_42 rfl (by decide) rfl ?_
  refine v_iconst C (v := 0) dL_isPassed_44 rfl rfl ?_
  refine v_istore C (lv1 := [(8, .int (0)), (7, .int (0)), (6, .int (nI (tn (s 0 0)))), (5, .int (nI (tn (s 11 ce)))), (4, .int (nI (ce))), (3, .int (nI (d))), (0, .ref (r 4)), (1, .ref (r 0)), (2, .int (nI (X0)))]) dL_isPassed_45 rfl (by decide) rfl ?_
  refine xx_lv [6, 7, 8, 5, 4, 3, 2, 1, 0] (lv' := [(0, .ref (r 4)), (1, .ref (r 0)), (2, .int (nI (X0))), (3, .int (nI (d))), (4, .int (nI (ce))), (5, .int (nI (tn (s 11 ce)))), (6, .int (nI (tn (s 0 0)))), (7, .int (nI (SN (s 25) 0))), (8, .int (nI (0)))]) rfl ?_
  exact xx_mono (bm (Nat.le_of_ble_eq_true rfl)) (bm (Nat.le_of_ble_eq_true rfl)) (kk _ hce)

theorem sg_pas_2 {X : XS} {G : GG} {w : va_W} {Q : State → Prop} {r : Nat → Nat} {s t : SS} {nm nc nr k B D : Nat} {X0 : Nat} {d ce i : Nat} (C : Cx X G cL_isPassed 10 RL (Option.some Jvm.ClassFile.FieldType.boolean) r_L_isPassed "isPassed" []) (hW : Wd G r s t nm nc nr w) (hJ : Js s nm nc nr k) (hk : k ≤ 130) (hT : K9 s t nm nc nr k) (hX : X0 < 100000000) (hnm : 0 < nm) (hd1 : 1 ≤ d) (hd40 : d ≤ 40) (hce : ce < 40) (hi0 : i ≤ nc) (hKc : B + 2 ≤ r_L_isPassed.cells) (hKn : D + 12 ≤ r_L_isPassed.slots) (ih : i < nc → V X G 10 w (B + 2) (D + 12) Q 47 [(0, .ref (r 4)), (1, .ref (r 0)), (2, .int (nI (X0))), (3, .int (nI (d))), (4, .int (nI (ce))), (5, .int (nI (tn (s 11 ce)))), (6, .int (nI (tn (s 0 0)))), (7, .int (nI (SN (s 25) (i + 1)))), (8, .int (nI (i + 1)))] []) (kk : V X G 10 w (B + 2) (D + 12) Q 73 [(0, .ref (r 4)), (1, .ref (r 0)), (2, .int (nI (X0))), (3, .int (nI (d))), (4, .int (nI (ce))), (5, .int (nI (tn (s 11 ce)))), (6, .int (nI (tn (s 0 0)))), (7, .int (nI (SN (s 25) nc))), (8, .int (nI (nc)))] []) : V X G 10 w B D Q 47 [(0, .ref (r 4)), (1, .ref (r 0)), (2, .int (nI (X0))), (3, .int (nI (d))), (4, .int (nI (ce))), (5, .int (nI (tn (s 11 ce)))), (6, .int (nI (tn (s 0 0)))), (7, .int (nI (SN (s 25) i))), (8, .int (nI (i)))] [] := by
  have hst : X.2.1.stackTraces = false := C.2.2.2.2.2.1
  have hG : GOK G := C.2.2.2.2.2.2.2.2.2.1
  have hm := hJ.1.1
  have hdy0 := hJ.1.2.1.2
  refine v_iload C dL_isPassed_47 rfl 8 rfl ?_
  refine v_aload_n C dL_isPassed_49 rfl 1 rfl ?_
  refine v_iconst C (v := 1) dL_isPassed_50 rfl rfl ?_
  refine v_mld C hW 0 (by decide) 1 (show 1 < 6 by omega) dL_isPassed_51 rfl ?_
  refine xx_top (y := nI (nc)) hT.1.2.1 ?_
  refine v_icN_ge C (t := 73) i nc rfl rfl (by omega) (by omega) dL_isPassed_52 rfl rfl (fun h1 => ?_) (fun h1 => ?_)
  · skip
    obtain rfl : nc = i := by omega
    refine xx_lv [0, 1, 2, 3, 4, 5, 6, 7, 8] (lv' := [(0, .ref (r 4)), (1, .ref (r 0)), (2, .int (nI (X0))), (3, .int (nI (d))), (4, .int (nI (ce))), (5, .int (nI (tn (s 11 ce)))), (6, .int (nI (tn (s 0 0)))), (7, .int (nI (SN (s 25) nc))), (8, .int (nI (nc)))]) rfl ?_
    exact xx_mono (Nat.le_add_right _ _) (Nat.le_add_right _ _) (kk)
  · skip
    have hi : i < nc := by omega
    refine v_iload C dL_isPassed_55 rfl 7 rfl ?_
    refine v_aload_n C dL_isPassed_57 rfl 0 rfl ?_
    refine v_iload C dL_isPassed_58 rfl 8 rfl ?_
    refine v_iconst C (v := 3) dL_isPassed_60 rfl rfl ?_
    refine q_c3 C hW hJ (i := i) (by omega) (B + 2) (D + 12) ⟨⟨Nat.le_refl _, bl hKc (Nat.le_of_ble_eq_true rfl)⟩, Nat.le_refl _, bl hKn (Nat.le_of_ble_eq_true rfl)⟩ rfl dL_isPassed_61 rfl (fun b2 => ?_)
    refine v_iaddN C (SN (s 25) i) (tn (s 25 i)) rfl rfl dL_isPassed_64 rfl ?_
    refine xx_top (y := nI (SN (s 25) (i + 1))) rfl ?_
    refine v_istore C (lv1 := [(7, .int (nI (SN (s 25) (i + 1)))), (0, .ref (r 4)), (1, .ref (r 0)), (2, .int (nI (X0))), (3, .int (nI (d))), (4, .int (nI (ce))), (5, .int (nI (tn (s 11 ce)))), (6, .int (nI (tn (s 0 0)))), (8, .int (nI (i)))]) dL_isPassed_65 rfl (by decide) rfl ?_
    refine v_iincN C (lv1 := [(8, .int (nI (i + 1))), (7, .int (nI (SN (s 25) (i + 1)))), (0, .ref (r 4)), (1, .ref (r 0)), (2, .int (nI (X0))), (3, .int (nI (d))), (4, .int (nI (ce))), (5, .int (nI (tn (s 11 ce)))), (6, .int (nI (tn (s 0 0))))]) i rfl dL_isPassed_67 rfl 8 rfl (by decide) rfl ?_
    refine v_goto C (q := 47) dL_isPassed_70 rfl ?_
    refine xx_lv [2, 3, 4, 5, 6, 7, 8, 1, 0] (lv' := [(0, .ref (r 4)), (1, .ref (r 0)), (2, .int (nI (X0))), (3, .int (nI (d))), (4, .int (nI (ce))), (5, .int (nI (tn (s 11 ce)))), (6, .int (nI (tn (s 0 0)))), (7, .int (nI (SN (s 25) (i + 1)))), (8, .int (nI (i + 1)))]) rfl ?_
    exact xx_mono (bm (Nat.le_of_ble_eq_true rfl)) (bm (Nat.le_of_ble_eq_true rfl)) (ih (by omega))

theorem lp_pas_2 {X : XS} {G : GG} {w : va_W} {Q : State → Prop} {r : Nat → Nat} {s t : SS} {nm nc nr k B D : Nat} {X0 d ce : Nat} (C : Cx X G cL_isPassed 10 RL (Option.some Jvm.ClassFile.FieldType.boolean) r_L_isPassed "isPassed" []) (hW : Wd G r s t nm nc nr w) (hJ : Js s nm nc nr k) (hk : k ≤ 130) (hT : K9 s t nm nc nr k) (hX : X0 < 100000000) (hnm : 0 < nm) (hd1 : 1 ≤ d) (hd40 : d ≤ 40) (hce : ce < 40) (hKc : B + 62 ≤ r_L_isPassed.cells) (hKn : D + 372 ≤ r_L_isPassed.slots) (kk : V X G 10 w (B + 62) (D + 372) Q 73 [(0, .ref (r 4)), (1, .ref (r 0)), (2, .int (nI (X0))), (3, .int (nI (d))), (4, .int (nI (ce))), (5, .int (nI (tn (s 11 ce)))), (6, .int (nI (tn (s 0 0)))), (7, .int (nI (SN (s 25) nc))), (8, .int (nI (nc)))] []) : V X G 10 w B D Q 47 [(0, .ref (r 4)), (1, .ref (r 0)), (2, .int (nI (X0))), (3, .int (nI (d))), (4, .int (nI (ce))), (5, .int (nI (tn (s 11 ce)))), (6, .int (nI (tn (s 0 0)))), (7, .int (nI (SN (s 25) 0))), (8, .int (nI (0)))] [] := by
  have hm := hJ.1.1
  have key := ind_up (α := Unit) (P := fun i _ => V X G 10 w (B + 2 * i) (D + 12 * i) Q 47 [(0, .ref (r 4)), (1, .ref (r 0)), (2, .int (nI (X0))), (3, .int (nI (d))), (4, .int (nI (ce))), (5, .int (nI (tn (s 11 ce)))), (6, .int (nI (tn (s 0 0)))), (7, .int (nI (SN (s 25) i))), (8, .int (nI (i)))] []) nc (fun i _ hi ih => sg_pas_2 C hW hJ hk hT hX hnm hd1 hd40 hce hi (by omega) (by omega) (fun h => xx_mono (by omega) (by omega) (ih h ())) (xx_mono (by omega) (by omega) kk))
  exact key 0 () (by omega)

theorem sg_pas_3 {X : XS} {G : GG} {w : va_W} {Q : State → Prop} {r : Nat → Nat} {s t : SS} {nm nc nr k B D : Nat} {X0 : Nat} {d ce : Nat} (C : Cx X G cL_isPassed 10 RL (Option.some Jvm.ClassFile.FieldType.boolean) r_L_isPassed "isPassed" []) (hW : Wd G r s t nm nc nr w) (hJ : Js s nm nc nr k) (hk : k ≤ 130) (hT : K9 s t nm nc nr k) (hX : X0 < 100000000) (hnm : 0 < nm) (hd1 : 1 ≤ d) (hd40 : d ≤ 40) (hce : ce < 40) (hKc : B + 7 ≤ r_L_isPassed.cells) (hKn : D + 119 ≤ r_L_isPassed.slots) (kk : ∀ (s1 : SS) (w1 : va_W), Wd G r s1 t nm nc nr w1 → Js s1 nm nc nr k → K9 s1 t nm nc nr k → (tn (s1 0 0) = tn (s 0 0) ∨ (tn (s 11 ce) = 0 → tn (s1 11 ce) = 0) ∧ (0 < tn (s 11 ce) → tn (s1 11 ce) < tn (s 11 ce))) → SN (s1 25) nc ≤ SN (s 25) nc → V X G 10 w1 (B + 7) (D + 119) Q 114 [(0, .ref (r 4)), (1, .ref (r 0)), (2, .int (nI (X0))), (3, .int (nI (d))), (4, .int (nI (ce))), (5, .int (nI (tn (s 11 ce)))), (6, .int (nI (tn (s 0 0)))), (7, .int (nI (SN (s 25) nc - SN (s1 25) 0))), (8, .int (1)), (9, .int (nI (0)))] []) : V X G 10 w B D Q 73 [(0, .ref (r 4)), (1, .ref (r 0)), (2, .int (nI (X0))), (3, .int (nI (d))), (4, .int (nI (ce))), (5, .int (nI (tn (s 11 ce)))), (6, .int (nI (tn (s 0 0)))), (7, .int (nI (SN (s 25) nc))), (8, .int (nI (nc)))] [] := by
  have hst : X.2.1.stackTraces = false := C.2.2.2.2.2.1
  have hG : GOK G := C.2.2.2.2.2.2.2.2.2.1
  have hm := hJ.1.1
  have hdy0 := hJ.1.2.1.2
  have h25 := SN_b (f := s 25) (b := 1) nc (fun i hi => (z01 (hJ.c25 hi)).2.1)
  by_cases hd5 : 5000 < tn (s 0 0) + d
  · skip
    refine v_aload_n C dL_isPassed_73 rfl 0 rfl ?_
    refine v_iconst C (v := 3) dL_isPassed_74 rfl rfl ?_
    refine v_iload_n C dL_isPassed_75 rfl 3 rfl ?_
    refine v_iconst C (v := 0) dL_isPassed_76 rfl rfl ?_
    refine v_iconst C (v := 0) dL_isPassed_77 rfl rfl ?_
    refine v_iconst C (v := 0) dL_isPassed_78 rfl rfl ?_
    refine l_actK C (ax_pass (s := s) (nm := nm) (nc := nc) (nr := nr) hst hG hW hJ.bs (e := 2) (cd := -1793000000) (e4_2 ⟨nI_le (a := 1) (by omega) (by omega), nI_le (b := 200) (by omega) (by omega)⟩ (by have h9 := hJ.1.2.1.1.add (y := nI d) (Nn.of (by omega)) (by rw [tn_nI (by omega)]; omega); rw [tn_nI (show d < 2 ^ 31 by omega)] at h9; exact (h9.1.clt (n := 5000) (by omega)).mpr (by omega))) (by decide) xLAS_2) (B + 7) (D + 119) ⟨⟨Nat.le_refl _, bl hKc (Nat.le_of_ble_eq_true rfl)⟩, Nat.le_refl _, bl hKn (Nat.le_of_ble_eq_true rfl)⟩ rfl dL_isPassed_79 rfl (fun v_ w_ hv1 => ?_)
    obtain ⟨rfl, hw_, -⟩ := hv1
    rw [hw_]
    show V X G 10 _ _ _ _ _ _ [.int ((-1793000000))]
    refine v_iload C dL_isPassed_82 rfl 6 rfl ?_
    refine v_iload_n C dL_isPassed_84 rfl 3 rfl ?_
    refine v_iaddN C (tn (s 0 0)) d rfl rfl dL_isPassed_85 rfl ?_
    refine v_sipush C (v := 5000) dL_isPassed_86 rfl rfl ?_
    refine v_icN_le C (t := 97) ((tn (s 0 0)) + d) 5000 rfl rfl (by omega) (by omega) dL_isPassed_89 rfl rfl (fun h => ((by omega : False)).elim) (fun _ => ?_)
    refine v_ldc C (v := (-1793000000)) dL_isPassed_92 rfl N_L_114 ?_
    refine v_goto C (q := 101) dL_isPassed_94 rfl ?_
    refine v_icmp_ne C (t := 108) dL_isPassed_101 rfl rfl (fun h => absurd h (by decide)) (fun _ => ?_)
    refine v_iconst C (v := 1) dL_isPassed_104 rfl rfl ?_
    refine v_goto C (q := 109) dL_isPassed_105 rfl ?_
    refine v_istore C (lv1 := [(8, .int (1)), (0, .ref (r 4)), (1, .ref (r 0)), (2, .int (nI (X0))), (3, .int (nI (d))), (4, .int (nI (ce))), (5, .int (nI (tn (s 11 ce)))), (6, .int (nI (tn (s 0 0)))), (7, .int (nI (SN (s 25) nc)))]) dL_isPassed_109 rfl (by decide) rfl ?_
    refine v_iconst C (v := 0) dL_isPassed_111 rfl rfl ?_
    refine v_istore C (lv1 := [(9, .int (0)), (8, .int (1)), (0, .ref (r 4)), (1, .ref (r 0)), (2, .int (nI (X0))), (3, .int (nI (d))), (4, .int (nI (ce))), (5, .int (nI (tn (s 11 ce)))), (6, .int (nI (tn (s 0 0)))), (7, .int (nI (SN (s 25) nc)))]) dL_isPassed_112 rfl (by decide) rfl ?_
    refine xx_lv [2, 3, 4, 5, 6, 7, 8, 9, 1, 0] (lv' := [(0, .ref (r 4)), (1, .ref (r 0)), (2, .int (nI (X0))), (3, .int (nI (d))), (4, .int (nI (ce))), (5, .int (nI (tn (s 11 ce)))), (6, .int (nI (tn (s 0 0)))), (7, .int (nI (SN (s 25) nc - SN (s 25) 0))), (8, .int (1)), (9, .int (nI (0)))]) rfl ?_
    exact xx_mono (bm (Nat.le_of_ble_eq_true rfl)) (bm (Nat.le_of_ble_eq_true rfl)) (kk s w hW hJ hT (Or.inl rfl) (Nat.le_refl _))
  · skip
    refine v_aload_n C dL_isPassed_73 rfl 0 rfl ?_
    refine v_iconst C (v := 3) dL_isPassed_74 rfl rfl ?_
    refine v_iload_n C dL_isPassed_75 rfl 3 rfl ?_
    refine v_iconst C (v := 0) dL_isPassed_76 rfl rfl ?_
    refine v_iconst C (v := 0) dL_isPassed_77 rfl rfl ?_
    refine v_iconst C (v := 0) dL_isPassed_78 rfl rfl ?_
    refine l_actK C (ao_pass (s := s) (nm := nm) (nc := nc) (nr := nr) hst hG hW hJ.bs (e4_0 ⟨nI_le (a := 1) (by omega) (by omega), nI_le (b := 200) (by omega) (by omega)⟩ (by have h9 := hJ.1.2.1.1.add (y := nI d) (Nn.of (by omega)) (by rw [tn_nI (by omega)]; omega); rw [tn_nI (show d < 2 ^ 31 by omega)] at h9; exact fun z => by have := (h9.1.clt (n := 5000) (by omega)).mp z; omega))) (B + 7) (D + 119) ⟨⟨Nat.le_refl _, bl hKc (Nat.le_of_ble_eq_true rfl)⟩, Nat.le_refl _, bl hKn (Nat.le_of_ble_eq_true rfl)⟩ rfl dL_isPassed_79 rfl (fun v_ w3 hv2 => ?_)
    obtain ⟨rfl, hW4⟩ := hv2
    show V X G 10 _ _ _ _ _ _ [.int (passR s nm nc 0 (nI (d)))]
    refine xx_top (y := nI (tn (s 0 0) + d)) (by rw [← nI_add, ← hJ.1.2.1.1.e]; rfl) ?_
    rw [tn_nI (show d < 2 ^ 31 by omega)] at hW4
    refine v_iload C dL_isPassed_82 rfl 6 rfl ?_
    refine v_iload_n C dL_isPassed_84 rfl 3 rfl ?_
    refine v_iaddN C (tn (s 0 0)) d rfl rfl dL_isPassed_85 rfl ?_
    refine v_sipush C (v := 5000) dL_isPassed_86 rfl rfl ?_
    refine v_icN_le C (t := 97) ((tn (s 0 0)) + d) 5000 rfl rfl (by omega) (by omega) dL_isPassed_89 rfl rfl (fun _ => ?_) (fun h => ((by omega : False)).elim)
    refine v_iload C dL_isPassed_97 rfl 6 rfl ?_
    refine v_iload_n C dL_isPassed_99 rfl 3 rfl ?_
    refine v_iaddN C (tn (s 0 0)) d rfl rfl dL_isPassed_100 rfl ?_
    refine v_icN_ne C (t := 108) (tn (s 0 0) + d) ((tn (s 0 0)) + d) rfl rfl (by omega) (by omega) dL_isPassed_101 rfl rfl (fun h => (by omega : False).elim) (fun h5 => ?_)
    refine v_iconst C (v := 1) dL_isPassed_104 rfl rfl ?_
    refine v_goto C (q := 109) dL_isPassed_105 rfl ?_
    refine v_istore C (lv1 := [(8, .int (1)), (0, .ref (r 4)), (1, .ref (r 0)), (2, .int (nI (X0))), (3, .int (nI (d))), (4, .int (nI (ce))), (5, .int (nI (tn (s 11 ce)))), (6, .int (nI (tn (s 0 0)))), (7, .int (nI (SN (s 25) nc)))]) dL_isPassed_109 rfl (by decide) rfl ?_
    refine v_iconst C (v := 0) dL_isPassed_111 rfl rfl ?_
    refine v_istore C (lv1 := [(9, .int (0)), (8, .int (1)), (0, .ref (r 4)), (1, .ref (r 0)), (2, .int (nI (X0))), (3, .int (nI (d))), (4, .int (nI (ce))), (5, .int (nI (tn (s 11 ce)))), (6, .int (nI (tn (s 0 0)))), (7, .int (nI (SN (s 25) nc)))]) dL_isPassed_112 rfl (by decide) rfl ?_
    have hP := pass_js hJ (by omega) d (by omega)
    have hb := hP.2.2.1 ce hce
    rw [if_neg (by omega)] at hb
    refine xx_lv [2, 3, 4, 5, 6, 7, 8, 9, 1, 0] (lv' := [(0, .ref (r 4)), (1, .ref (r 0)), (2, .int (nI (X0))), (3, .int (nI (d))), (4, .int (nI (ce))), (5, .int (nI (tn (s 11 ce)))), (6, .int (nI (tn (s 0 0)))), (7, .int (nI (SN (s 25) nc - SN (psC s nm nc d 25) 0))), (8, .int (1)), (9, .int (nI (0)))]) rfl ?_
    have hle : ∀ n, n ≤ nc → SN (psC s nm nc d 25) n ≤ SN (s 25) n := by
      intro n
      induction n with
      | zero => exact fun _ => Nat.le_refl _
      | succ n ih =>
        intro hn
        have h1 := ih (by omega)
        have h2 := hP.2.2.2.1 n (by omega)
        show SN (psC s nm nc d 25) n + tn (psC s nm nc d 25 n) ≤ SN (s 25) n + tn (s 25 n)
        omega
    exact xx_mono (bm (Nat.le_of_ble_eq_true rfl)) (bm (Nat.le_of_ble_eq_true rfl)) (kk _ _ hW4 hP.1 (K9.pass hJ (by omega) hT (by omega)) (Or.inr ⟨hb.1, fun z => by have := hb.2 z; omega⟩) (hle nc (Nat.le_refl _)))

theorem sg_pas_4 {X : XS} {G : GG} {w : va_W} {Q : State → Prop} {r : Nat → Nat} {s t : SS} {nm nc nr k B D : Nat} {X0 : Nat} {d ce bb dy cs i : Nat} (C : Cx X G cL_isPassed 10 RL (Option.some Jvm.ClassFile.FieldType.boolean) r_L_isPassed "isPassed" []) (hW : Wd G r s t nm nc nr w) (hJ : Js s nm nc nr k) (hk : k ≤ 130) (hT : K9 s t nm nc nr k) (hX : X0 < 100000000) (hnm : 0 < nm) (hd1 : 1 ≤ d) (hd40 : d ≤ 40) (hce : ce < 40) (hcs : SN (s 25) nc ≤ cs) (hcs2 : cs ≤ 30) (hbb : bb ≤ 100) (hdy : dy ≤ 5000) (hbel : tn (s 0 0) = dy ∨ (bb = 0 → tn (s 11 ce) = 0) ∧ (0 < bb → tn (s 11 ce) < bb)) (hi0 : i ≤ nc) (hKc : B + 2 ≤ r_L_isPassed.cells) (hKn : D + 12 ≤ r_L_isPassed.slots) (ih : i < nc → V X G 10 w (B + 2) (D + 12) Q 114 [(0, .ref (r 4)), (1, .ref (r 0)), (2, .int (nI (X0))), (3, .int (nI (d))), (4, .int (nI (ce))), (5, .int (nI (bb))), (6, .int (nI (dy))), (7, .int (nI (cs - SN (s 25) (i + 1)))), (8, .int (1)), (9, .int (nI (i + 1)))] []) (kk : V X G 10 w (B + 2) (D + 12) Q 140 [(0, .ref (r 4)), (1, .ref (r 0)), (2, .int (nI (X0))), (3, .int (nI (d))), (4, .int (nI (ce))), (5, .int (nI (bb))), (6, .int (nI (dy))), (7, .int (nI (cs - SN (s 25) nc))), (8, .int (1)), (9, .int (nI (nc)))] []) : V X G 10 w B D Q 114 [(0, .ref (r 4)), (1, .ref (r 0)), (2, .int (nI (X0))), (3, .int (nI (d))), (4, .int (nI (ce))), (5, .int (nI (bb))), (6, .int (nI (dy))), (7, .int (nI (cs - SN (s 25) i))), (8, .int (1)), (9, .int (nI (i)))] [] := by
  have hst : X.2.1.stackTraces = false := C.2.2.2.2.2.1
  have hG : GOK G := C.2.2.2.2.2.2.2.2.2.1
  have hm := hJ.1.1
  have hdy0 := hJ.1.2.1.2
  refine v_iload C dL_isPassed_114 rfl 9 rfl ?_
  refine v_aload_n C dL_isPassed_116 rfl 1 rfl ?_
  refine v_iconst C (v := 1) dL_isPassed_117 rfl rfl ?_
  refine v_mld C hW 0 (by decide) 1 (show 1 < 6 by omega) dL_isPassed_118 rfl ?_
  refine xx_top (y := nI (nc)) hT.1.2.1 ?_
  refine v_icN_ge C (t := 140) i nc rfl rfl (by omega) (by omega) dL_isPassed_119 rfl rfl (fun h1 => ?_) (fun h1 => ?_)
  · skip
    obtain rfl : nc = i := by omega
    refine xx_lv [0, 1, 2, 3, 4, 5, 6, 7, 8, 9] (lv' := [(0, .ref (r 4)), (1, .ref (r 0)), (2, .int (nI (X0))), (3, .int (nI (d))), (4, .int (nI (ce))), (5, .int (nI (bb))), (6, .int (nI (dy))), (7, .int (nI (cs - SN (s 25) nc))), (8, .int (1)), (9, .int (nI (nc)))]) rfl ?_
    exact xx_mono (Nat.le_add_right _ _) (Nat.le_add_right _ _) (kk)
  · skip
    have hi : i < nc := by omega
    have hsn := SN_m (f := s 25) (show i + 1 ≤ nc by omega)
    have hss : SN (s 25) (i + 1) = SN (s 25) i + tn (s 25 i) := rfl
    refine v_iload C dL_isPassed_122 rfl 7 rfl ?_
    refine v_aload_n C dL_isPassed_124 rfl 0 rfl ?_
    refine v_iload C dL_isPassed_125 rfl 9 rfl ?_
    refine v_iconst C (v := 3) dL_isPassed_127 rfl rfl ?_
    refine q_c3 C hW hJ (i := i) (by omega) (B + 2) (D + 12) ⟨⟨Nat.le_refl _, bl hKc (Nat.le_of_ble_eq_true rfl)⟩, Nat.le_refl _, bl hKn (Nat.le_of_ble_eq_true rfl)⟩ rfl dL_isPassed_128 rfl (fun b2 => ?_)
    refine v_isubN C (cs - SN (s 25) i) (tn (s 25 i)) (by omega) rfl rfl dL_isPassed_131 rfl ?_
    refine xx_top (y := nI (cs - SN (s 25) (i + 1))) (congrArg nI (by omega)) ?_
    refine v_istore C (lv1 := [(7, .int (nI (cs - SN (s 25) (i + 1)))), (0, .ref (r 4)), (1, .ref (r 0)), (2, .int (nI (X0))), (3, .int (nI (d))), (4, .int (nI (ce))), (5, .int (nI (bb))), (6, .int (nI (dy))), (8, .int (1)), (9, .int (nI (i)))]) dL_isPassed_132 rfl (by decide) rfl ?_
    refine v_iincN C (lv1 := [(9, .int (nI (i + 1))), (7, .int (nI (cs - SN (s 25) (i + 1)))), (0, .ref (r 4)), (1, .ref (r 0)), (2, .int (nI (X0))), (3, .int (nI (d))), (4, .int (nI (ce))), (5, .int (nI (bb))), (6, .int (nI (dy))), (8, .int (1))]) i rfl dL_isPassed_134 rfl 9 rfl (by decide) rfl ?_
    refine v_goto C (q := 114) dL_isPassed_137 rfl ?_
    refine xx_lv [2, 3, 4, 5, 6, 7, 8, 1, 9, 0] (lv' := [(0, .ref (r 4)), (1, .ref (r 0)), (2, .int (nI (X0))), (3, .int (nI (d))), (4, .int (nI (ce))), (5, .int (nI (bb))), (6, .int (nI (dy))), (7, .int (nI (cs - SN (s 25) (i + 1)))), (8, .int (1)), (9, .int (nI (i + 1)))]) rfl ?_
    exact xx_mono (bm (Nat.le_of_ble_eq_true rfl)) (bm (Nat.le_of_ble_eq_true rfl)) (ih (by omega))

theorem lp_pas_4 {X : XS} {G : GG} {w : va_W} {Q : State → Prop} {r : Nat → Nat} {s t : SS} {nm nc nr k B D : Nat} {X0 d ce bb dy cs : Nat} (C : Cx X G cL_isPassed 10 RL (Option.some Jvm.ClassFile.FieldType.boolean) r_L_isPassed "isPassed" []) (hW : Wd G r s t nm nc nr w) (hJ : Js s nm nc nr k) (hk : k ≤ 130) (hT : K9 s t nm nc nr k) (hX : X0 < 100000000) (hnm : 0 < nm) (hd1 : 1 ≤ d) (hd40 : d ≤ 40) (hce : ce < 40) (hcs : SN (s 25) nc ≤ cs) (hcs2 : cs ≤ 30) (hbb : bb ≤ 100) (hdy : dy ≤ 5000) (hbel : tn (s 0 0) = dy ∨ (bb = 0 → tn (s 11 ce) = 0) ∧ (0 < bb → tn (s 11 ce) < bb)) (hKc : B + 62 ≤ r_L_isPassed.cells) (hKn : D + 372 ≤ r_L_isPassed.slots) (kk : V X G 10 w (B + 62) (D + 372) Q 140 [(0, .ref (r 4)), (1, .ref (r 0)), (2, .int (nI (X0))), (3, .int (nI (d))), (4, .int (nI (ce))), (5, .int (nI (bb))), (6, .int (nI (dy))), (7, .int (nI (cs - SN (s 25) nc))), (8, .int (1)), (9, .int (nI (nc)))] []) : V X G 10 w B D Q 114 [(0, .ref (r 4)), (1, .ref (r 0)), (2, .int (nI (X0))), (3, .int (nI (d))), (4, .int (nI (ce))), (5, .int (nI (bb))), (6, .int (nI (dy))), (7, .int (nI (cs - SN (s 25) 0))), (8, .int (1)), (9, .int (nI (0)))] [] := by
  have hm := hJ.1.1
  have key := ind_up (α := Unit) (P := fun i _ => V X G 10 w (B + 2 * i) (D + 12 * i) Q 114 [(0, .ref (r 4)), (1, .ref (r 0)), (2, .int (nI (X0))), (3, .int (nI (d))), (4, .int (nI (ce))), (5, .int (nI (bb))), (6, .int (nI (dy))), (7, .int (nI (cs - SN (s 25) i))), (8, .int (1)), (9, .int (nI (i)))] []) nc (fun i _ hi ih => sg_pas_4 C hW hJ hk hT hX hnm hd1 hd40 hce hcs hcs2 hbb hdy hbel hi (by omega) (by omega) (fun h => xx_mono (by omega) (by omega) (ih h ())) (xx_mono (by omega) (by omega) kk))
  exact key 0 () (by omega)

theorem sg_pas_5 {X : XS} {G : GG} {w : va_W} {r : Nat → Nat} {s t : SS} {nm nc nr k B D : Nat} {X0 : Nat} {d ce bb dy cs : Nat} (C : Cx X G cL_isPassed 10 RL (Option.some Jvm.ClassFile.FieldType.boolean) r_L_isPassed "isPassed" []) (hW : Wd G r s t nm nc nr w) (hJ : Js s nm nc nr k) (hk : k ≤ 130) (hT : K9 s t nm nc nr k) (hX : X0 < 100000000) (hnm : 0 < nm) (hd1 : 1 ≤ d) (hd40 : d ≤ 40) (hce : ce < 40) (hcs : SN (s 25) nc ≤ cs) (hcs2 : cs ≤ 30) (hbb : bb ≤ 100) (hdy : dy ≤ 5000) (hbel : tn (s 0 0) = dy ∨ (bb = 0 → tn (s 11 ce) = 0) ∧ (0 < bb → tn (s 11 ce) < bb)) (hKc : B + 1 ≤ r_L_isPassed.cells) (hKn : D + 6 ≤ r_L_isPassed.slots)  : V X G 10 w B D (Tg X G r_L_isPassed (fun v w1 => v = some (.int 1) ∧ Nxt G r nm (k + 1) w1) nX) 140 [(0, .ref (r 4)), (1, .ref (r 0)), (2, .int (nI (X0))), (3, .int (nI (d))), (4, .int (nI (ce))), (5, .int (nI (bb))), (6, .int (nI (dy))), (7, .int (nI (cs - SN (s 25) nc))), (8, .int (1)), (9, .int (nI (nc)))] [] := by
  have hst : X.2.1.stackTraces = false := C.2.2.2.2.2.1
  have hG : GOK G := C.2.2.2.2.2.2.2.2.2.1
  have hm := hJ.1.1
  have hdy0 := hJ.1.2.1.2
  refine v_iload C dL_isPassed_140 rfl 8 rfl ?_
  refine v_if_eq C (t := 191) dL_isPassed_142 rfl rfl (fun h => absurd h (by decide)) (fun _ => ?_)
  refine v_iload C dL_isPassed_145 rfl 7 rfl ?_
  refine v_if_lt C (t := 191) dL_isPassed_147 rfl rfl (fun h => absurd h (nI_pos (by omega))) (fun _ => ?_)
  refine v_aload_n C dL_isPassed_150 rfl 0 rfl ?_
  refine q_day C hW hJ (B + 0) (D + 0) ⟨⟨Nat.le_refl _, bl hKc (Nat.le_of_ble_eq_true rfl)⟩, Nat.le_refl _, bl hKn (Nat.le_of_ble_eq_true rfl)⟩ rfl dL_isPassed_151 rfl (fun b1 => ?_)
  refine v_iload C dL_isPassed_154 rfl 6 rfl ?_
  refine v_icN_eq C (t := 187) (tn (s 0 0)) dy rfl rfl (by omega) (by omega) dL_isPassed_156 rfl rfl (fun h2 => ?_) (fun h2 => ?_)
  · skip
    refine v_iconst C (v := 1) dL_isPassed_187 rfl rfl ?_
    refine v_goto C (q := 192) dL_isPassed_188 rfl ?_
    exact v_zret C rfl (bl hKc (Nat.le_of_ble_eq_true rfl)) (bl hKn (Nat.le_of_ble_eq_true rfl)) dL_isPassed_192 ⟨rfl, s, t, nm, nc, nr, hW, hJ.mono (by omega), hT.mono (by omega), Nat.le_refl _, hnm⟩
  · skip
    refine v_iload C dL_isPassed_159 rfl 5 rfl ?_
    refine v_ifN_ne C (t := 176) bb rfl (by omega) dL_isPassed_161 rfl rfl (fun h3 => ?_) (fun h3 => ?_)
    · skip
      refine v_aload_n C dL_isPassed_176 rfl 0 rfl ?_
      refine v_iload C dL_isPassed_177 rfl 4 rfl ?_
      refine q_belief C hW hJ (i := ce) (by omega) (B + 1) (D + 6) ⟨⟨Nat.le_refl _, bl hKc (Nat.le_of_ble_eq_true rfl)⟩, Nat.le_refl _, bl hKn (Nat.le_of_ble_eq_true rfl)⟩ rfl dL_isPassed_179 rfl (fun b4 => ?_)
      refine v_iload C dL_isPassed_182 rfl 5 rfl ?_
      refine v_icN_ge C (t := 191) (tn (s 11 ce)) bb rfl rfl (by omega) (by omega) dL_isPassed_184 rfl rfl (fun h => (by omega : False).elim) (fun h5 => ?_)
      refine v_iconst C (v := 1) dL_isPassed_187 rfl rfl ?_
      refine v_goto C (q := 192) dL_isPassed_188 rfl ?_
      exact v_zret C rfl (bl hKc (Nat.le_of_ble_eq_true rfl)) (bl hKn (Nat.le_of_ble_eq_true rfl)) dL_isPassed_192 ⟨rfl, s, t, nm, nc, nr, hW, hJ.mono (by omega), hT.mono (by omega), Nat.le_refl _, hnm⟩
    · skip
      refine v_aload_n C dL_isPassed_164 rfl 0 rfl ?_
      refine v_iload C dL_isPassed_165 rfl 4 rfl ?_
      refine q_belief C hW hJ (i := ce) (by omega) (B + 1) (D + 6) ⟨⟨Nat.le_refl _, bl hKc (Nat.le_of_ble_eq_true rfl)⟩, Nat.le_refl _, bl hKn (Nat.le_of_ble_eq_true rfl)⟩ rfl dL_isPassed_167 rfl (fun b6 => ?_)
      refine v_ifN_ne C (t := 191) (tn (s 11 ce)) rfl (by omega) dL_isPassed_170 rfl rfl (fun h => (by omega : False).elim) (fun h7 => ?_)
      refine v_goto C (q := 187) dL_isPassed_173 rfl ?_
      refine v_iconst C (v := 1) dL_isPassed_187 rfl rfl ?_
      refine v_goto C (q := 192) dL_isPassed_188 rfl ?_
      exact v_zret C rfl (bl hKc (Nat.le_of_ble_eq_true rfl)) (bl hKn (Nat.le_of_ble_eq_true rfl)) dL_isPassed_192 ⟨rfl, s, t, nm, nc, nr, hW, hJ.mono (by omega), hT.mono (by omega), Nat.le_refl _, hnm⟩

theorem c_L_isPassed {l : Launch} {G : GG} {w : va_W} {r : Nat → Nat} {s t : SS} {nm nc nr k : Nat} {X0 : Nat} (hst : l.stackTraces = false) (hG : GOK G) (hk : k ≤ 130) (hT : K9 s t nm nc nr k) (hX : X0 < 100000000) (hnm : 0 < nm) (hW : Wd G r s t nm nc nr w) (hJ : Js s nm nc nr k) : Mth l yL_isPassed cL_isPassed 10 (Option.some Jvm.ClassFile.FieldType.boolean) r_L_isPassed G w [.ref (r 4), .ref (r 0), .int (nI X0)] (fun v w1 => v = some (.int 1) ∧ Nxt G r nm (k + 1) w1) nX := by
  refine mth_of rfl (Nat.le_of_ble_eq_true rfl) hst hG (fun X hX0 C0 => ?_)
  subst hX0
  have C : Cx X G cL_isPassed 10 RL (Option.some Jvm.ClassFile.FieldType.boolean) r_L_isPassed "isPassed" [] := C0
  clear C0
  show V X G 10 w 0 0 _ 0 [(0, .ref (r 4)), (1, .ref (r 0)), (2, .int (nI X0))] []
  have hc : r_L_isPassed.cells = 133 := rfl
  have hd : r_L_isPassed.slots = 875 := rfl
  have hm := hJ.1.1
  have h25 := SN_b (f := s 25) (b := 1) nc (fun i hi => (z01 (hJ.c25 hi)).2.1)
  refine sg_pas_0 C hW hJ hk hT hX hnm (by omega) (by omega) (fun d hd1 hd40 => ?_)
  refine sg_pas_1 C hW hJ hk hT hX hnm hd1 hd40 (by omega) (by omega) (fun ce hce => ?_)
  refine lp_pas_2 C hW hJ hk hT hX hnm hd1 hd40 hce (by omega) (by omega) ?_
  refine sg_pas_3 C hW hJ hk hT hX hnm hd1 hd40 hce (by omega) (by omega) (fun s1 w1 hW1 hJ1 hT1 hbel hcs => ?_)
  have hbb := (hJ.2.2.2.1 ce hce).2
  have hdy := hJ.1.2.1.2
  refine lp_pas_4 C hW1 hJ1 hk hT1 hX hnm hd1 hd40 hce hcs (by omega) hbb hdy hbel (by omega) (by omega) ?_
  exact sg_pas_5 C hW1 hJ1 hk hT1 hX hnm hd1 hd40 hce hcs (by omega) hbb hdy hbel (by omega) (by omega)
