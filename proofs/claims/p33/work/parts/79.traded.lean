abbrev r_L_isTraded : Room := { frames := 12, cells := 30, slots := 322, locals := 224 }
theorem sg_trd_0 {X : XS} {G : GG} {w : va_W} {Q : State → Prop} {r : Nat → Nat} {s t : SS} {nm nc nr k B D : Nat} {X0 how : Nat} (C : Cx X G cL_isTraded 17 RL (Option.some Jvm.ClassFile.FieldType.boolean) r_L_isTraded "isTraded" []) (hW : Wd G r s t nm nc nr w) (hJ : Js s nm nc nr k) (hk : k ≤ 130) (hT : K9 s t nm nc nr k) (hX : X0 < 100000000) (hhow : how < 46) (hnm : 0 < nm) (hKc : B + 4 ≤ r_L_isTraded.cells) (hKn : D + 24 ≤ r_L_isTraded.slots) (kk0 : ∀ mi, mi < nm → ∀ ot, ot < nm → ∀ zz, zz < 100000000 → V X G 17 w (B + 4) (D + 24) Q 58 [(0, .ref (r 4)), (1, .ref (r 0)), (2, .ref (r 3)), (3, .int (nI (how))), (4, .int (nI (X0))), (5, .int (nI (mi))), (6, .int (nI (ot))), (7, .int (nI (zz))), (8, .int (bI (tn (s 17 mi) = 0))), (9, .int (nI (tn (s 16 mi))))] []) (kk1 : ∀ mi, mi < nm → ∀ ot, ot < nm → ∀ zz, zz < 100000000 → V X G 17 w (B + 4) (D + 24) Q 285 [(0, .ref (r 4)), (1, .ref (r 0)), (2, .ref (r 3)), (3, .int (nI (how))), (4, .int (nI (X0))), (5, .int (nI (mi))), (6, .int (nI (ot))), (7, .int (nI (zz))), (8, .int (bI (tn (s 17 mi) = 0))), (9, .int (nI (tn (s 16 mi))))] []) (kk2 : ∀ mi, mi < nm → ∀ ot, ot < nm → ∀ zz, zz < 100000000 → V X G 17 w (B + 4) (D + 24) Q 379 [(0, .ref (r 4)), (1, .ref (r 0)), (2, .ref (r 3)), (3, .int (nI (how))), (4, .int (nI (X0))), (5, .int (nI (mi))), (6, .int (nI (ot))), (7, .int (nI (zz))), (8, .int (bI (tn (s 17 mi) = 0))), (9, .int (nI (tn (s 16 mi))))] []) : V X G 17 w B D Q 0 [(0, .ref (r 4)), (1, .ref (r 0)), (2, .ref (r 3)), (3, .int (nI (how))), (4, .int (nI (X0)))] [] := by
  have hst : X.2.1.stackTraces = false := C.2.2.2.2.2.1
  have hG : GOK G := C.2.2.2.2.2.2.2.2.2.1
  have hm := hJ.1.1
  refine v_iload C dL_isTraded_0 rfl 4 rfl ?_
  refine v_aload_n C dL_isTraded_2 rfl 1 rfl ?_
  refine v_iconst C (v := 0) dL_isTraded_3 rfl rfl ?_
  refine v_mld C hW 0 (by decide) 0 (show 0 < 6 by omega) dL_isTraded_4 rfl ?_
  refine xx_top (y := nI (nm)) hT.1.1 ?_
  refine v_iremN C X0 nm rfl rfl (by omega) (by omega) (by omega) dL_isTraded_5 rfl ?_
  have hmi : X0 % nm < nm := Nat.mod_lt _ hnm
  generalize X0 % nm = mi at hmi ⊢
  refine v_istore C (lv1 := [(5, .int (nI (mi))), (0, .ref (r 4)), (1, .ref (r 0)), (2, .ref (r 3)), (3, .int (nI (how))), (4, .int (nI (X0)))]) dL_isTraded_6 rfl (by decide) rfl ?_
  refine v_iload C dL_isTraded_8 rfl 5 rfl ?_
  refine v_bipush C (v := 12) dL_isTraded_10 rfl rfl ?_
  refine v_idivN C X0 12 rfl rfl (by omega) (by omega) (by omega) dL_isTraded_12 rfl ?_
  refine v_aload_n C dL_isTraded_13 rfl 2 rfl ?_
  refine v_iconst C (v := 0) dL_isTraded_14 rfl rfl ?_
  refine v_mld C hW 0 (by decide) 0 (show 0 < 6 by omega) dL_isTraded_15 rfl ?_
  refine xx_top (y := nI (nm)) hT.1.1 ?_
  refine v_iremN C (X0 / 12) nm rfl rfl (by omega) (by omega) (by omega) dL_isTraded_16 rfl ?_
  have hot : (X0 / 12) % nm < nm := Nat.mod_lt _ hnm
  generalize (X0 / 12) % nm = ot at hot ⊢
  refine v_istore C (lv1 := [(6, .int (nI (ot))), (5, .int (nI (mi))), (0, .ref (r 4)), (1, .ref (r 0)), (2, .ref (r 3)), (3, .int (nI (how))), (4, .int (nI (X0)))]) dL_isTraded_17 rfl (by decide) rfl ?_
  refine v_iload C dL_isTraded_19 rfl 6 rfl ?_
  refine v_sipush C (v := 144) dL_isTraded_21 rfl rfl ?_
  refine v_idivN C X0 144 rfl rfl (by omega) (by omega) (by omega) dL_isTraded_24 rfl ?_
  have hzz : X0 / 144 < 100000000 := by omega
  generalize X0 / 144 = zz at hzz ⊢
  refine v_istore C (lv1 := [(7, .int (nI (zz))), (6, .int (nI (ot))), (5, .int (nI (mi))), (0, .ref (r 4)), (1, .ref (r 0)), (2, .ref (r 3)), (3, .int (nI (how))), (4, .int (nI (X0)))]) dL_isTraded_25 rfl (by decide) rfl ?_
  refine v_aload_n C dL_isTraded_27 rfl 3 rfl ?_
  refine v_iload C dL_isTraded_28 rfl 2 rfl ?_
  refine v_iconst C (v := 4) dL_isTraded_30 rfl rfl ?_
  refine q_m4 C hW hJ (i := mi) (by omega) (B + 2) (D + 12) ⟨⟨Nat.le_refl _, bl hKc (Nat.le_of_ble_eq_true rfl)⟩, Nat.le_refl _, bl hKn (Nat.le_of_ble_eq_true rfl)⟩ rfl dL_isTraded_31 rfl (fun b1 => ?_)
  refine xx_sel (P := (tn (s 17 mi)) = 0) 42 [] ?_ (fun jj => ?_)
  · skip
    refine v_istore C (lv1 := [(8, .int (bI ((tn (s 17 mi)) = 0))), (7, .int (nI (zz))), (6, .int (nI (ot))), (5, .int (nI (mi))), (0, .ref (r 4)), (1, .ref (r 0)), (2, .ref (r 3)), (3, .int (nI (how))), (4, .int (nI (X0)))]) dL_isTraded_42 rfl (by decide) rfl ?_
    refine v_aload_n C dL_isTraded_44 rfl 4 rfl ?_
    refine v_iload C dL_isTraded_45 rfl 3 rfl ?_
    refine v_iconst C (v := 3) dL_isTraded_47 rfl rfl ?_
    refine q_m3 C hW hJ (i := mi) (by omega) (B + 4) (D + 24) ⟨⟨Nat.le_refl _, bl hKc (Nat.le_of_ble_eq_true rfl)⟩, Nat.le_refl _, bl hKn (Nat.le_of_ble_eq_true rfl)⟩ rfl dL_isTraded_48 rfl (fun b3 => ?_)
    refine v_istore C (lv1 := [(9, .int (nI (tn (s 16 mi)))), (8, .int (bI ((tn (s 17 mi)) = 0))), (7, .int (nI (zz))), (6, .int (nI (ot))), (5, .int (nI (mi))), (0, .ref (r 4)), (1, .ref (r 0)), (2, .ref (r 3)), (3, .int (nI (how))), (4, .int (nI (X0)))]) dL_isTraded_51 rfl (by decide) rfl ?_
    refine v_iload_n C dL_isTraded_53 rfl 8 rfl ?_
    refine v_iconst C (v := 2) dL_isTraded_54 rfl rfl ?_
    refine v_icN_ge C (t := 280) how 2 rfl rfl (by omega) (by omega) dL_isTraded_55 rfl rfl (fun h4 => ?_) (fun h4 => ?_)
    · skip
      refine v_iload_n C dL_isTraded_280 rfl 8 rfl ?_
      refine v_iconst C (v := 2) dL_isTraded_281 rfl rfl ?_
      refine v_icN_ne C (t := 379) how 2 rfl rfl (by omega) (by omega) dL_isTraded_282 rfl rfl (fun h5 => ?_) (fun h5 => ?_)
      · skip
        refine xx_lv [5, 6, 7, 8, 9, 4, 3, 2, 1, 0] (lv' := [(0, .ref (r 4)), (1, .ref (r 0)), (2, .ref (r 3)), (3, .int (nI (how))), (4, .int (nI (X0))), (5, .int (nI (mi))), (6, .int (nI (ot))), (7, .int (nI (zz))), (8, .int (bI (tn (s 17 mi) = 0))), (9, .int (nI (tn (s 16 mi))))]) rfl ?_
        exact xx_mono (bm (Nat.le_of_ble_eq_true rfl)) (bm (Nat.le_of_ble_eq_true rfl)) (kk2 mi hmi ot hot zz hzz)
      · skip
        refine xx_lv [5, 6, 7, 8, 9, 4, 3, 2, 1, 0] (lv' := [(0, .ref (r 4)), (1, .ref (r 0)), (2, .ref (r 3)), (3, .int (nI (how))), (4, .int (nI (X0))), (5, .int (nI (mi))), (6, .int (nI (ot))), (7, .int (nI (zz))), (8, .int (bI (tn (s 17 mi) = 0))), (9, .int (nI (tn (s 16 mi))))]) rfl ?_
        exact xx_mono (bm (Nat.le_of_ble_eq_true rfl)) (bm (Nat.le_of_ble_eq_true rfl)) (kk1 mi hmi ot hot zz hzz)
    · skip
      refine xx_lv [5, 6, 7, 8, 9, 4, 3, 2, 1, 0] (lv' := [(0, .ref (r 4)), (1, .ref (r 0)), (2, .ref (r 3)), (3, .int (nI (how))), (4, .int (nI (X0))), (5, .int (nI (mi))), (6, .int (nI (ot))), (7, .int (nI (zz))), (8, .int (bI (tn (s 17 mi) = 0))), (9, .int (nI (tn (s 16 mi))))]) rfl ?_
      exact xx_mono (bm (Nat.le_of_ble_eq_true rfl)) (bm (Nat.le_of_ble_eq_true rfl)) (kk0 mi hmi ot hot zz hzz)
  refine v_ifN_ne C (t := 41) (tn (s 17 mi)) rfl (by omega) dL_isTraded_34 rfl rfl (fun h2 => ?_) (fun h2 => ?_)
  · skip
    refine v_iconst C (v := 0) dL_isTraded_41 rfl rfl ?_
    exact jj _ (bI_f (by first | assumption | omega)).symm
  · skip
    refine v_iconst C (v := 1) dL_isTraded_37 rfl rfl ?_
    refine v_goto C (q := 42) dL_isTraded_38 rfl ?_
    exact jj _ (bI_t (by first | assumption | omega)).symm

theorem sg_trd_B0 {X : XS} {G : GG} {w : va_W} {Q : State → Prop} {r : Nat → Nat} {s t : SS} {nm nc nr k B D : Nat} {X0 how : Nat} {mi ot zz : Nat} (C : Cx X G cL_isTraded 17 RL (Option.some Jvm.ClassFile.FieldType.boolean) r_L_isTraded "isTraded" []) (hW : Wd G r s t nm nc nr w) (hJ : Js s nm nc nr k) (hk : k ≤ 130) (hT : K9 s t nm nc nr k) (hX : X0 < 100000000) (hhow : how < 46) (hnm : 0 < nm) (hmi : mi < nm) (hot : ot < nm) (hzz : zz < 100000000) (hKc : B + 0 ≤ r_L_isTraded.cells) (hKn : D + 0 ≤ r_L_isTraded.slots) (kk : ∀ i0, i0 < 100 → V X G 17 w (B + 0) (D + 0) Q 76 [(0, .ref (r 4)), (1, .ref (r 0)), (2, .ref (r 3)), (3, .int (nI (how))), (4, .int (nI (X0))), (5, .int (nI (mi))), (6, .int (nI (ot))), (7, .int (nI (zz))), (8, .int (bI (tn (s 17 mi) = 0))), (9, .int (nI (tn (s 16 mi))))] [.int (nI (i0)), .int (1)]) : V X G 17 w B D Q 58 [(0, .ref (r 4)), (1, .ref (r 0)), (2, .ref (r 3)), (3, .int (nI (how))), (4, .int (nI (X0))), (5, .int (nI (mi))), (6, .int (nI (ot))), (7, .int (nI (zz))), (8, .int (bI (tn (s 17 mi) = 0))), (9, .int (nI (tn (s 16 mi))))] [] := by
  have hst : X.2.1.stackTraces = false := C.2.2.2.2.2.1
  have hG : GOK G := C.2.2.2.2.2.2.2.2.2.1
  have hm := hJ.1.1
  have h16b := (hJ.m16 hmi).2
  have h16o := (hJ.m16 hot).2
  refine v_iconst C (v := 1) dL_isTraded_58 rfl rfl ?_
  refine v_iload C dL_isTraded_59 rfl 7 rfl ?_
  refine v_iload C dL_isTraded_61 rfl 7 rfl ?_
  refine v_iconst C (v := 3) dL_isTraded_63 rfl rfl ?_
  refine v_iremN C zz 3 rfl rfl (by omega) (by omega) (by omega) dL_isTraded_64 rfl ?_
  refine v_ifN_ne C (t := 73) (zz % 3) rfl (by omega) dL_isTraded_65 rfl rfl (fun h1 => ?_) (fun h1 => ?_)
  · skip
    refine v_bipush C (v := 30) dL_isTraded_73 rfl rfl ?_
    refine v_iremN C zz 30 rfl rfl (by omega) (by omega) (by omega) dL_isTraded_75 rfl ?_
    refine xx_lv [0, 1, 2, 3, 4, 5, 6, 7, 8, 9] (lv' := [(0, .ref (r 4)), (1, .ref (r 0)), (2, .ref (r 3)), (3, .int (nI (how))), (4, .int (nI (X0))), (5, .int (nI (mi))), (6, .int (nI (ot))), (7, .int (nI (zz))), (8, .int (bI (tn (s 17 mi) = 0))), (9, .int (nI (tn (s 16 mi))))]) rfl ?_
    exact xx_mono (Nat.le_add_right _ _) (Nat.le_add_right _ _) (kk (zz % 30) (by omega))
  · skip
    refine v_bipush C (v := 100) dL_isTraded_68 rfl rfl ?_
    refine v_goto C (q := 75) dL_isTraded_70 rfl ?_
    refine v_iremN C zz 100 rfl rfl (by omega) (by omega) (by omega) dL_isTraded_75 rfl ?_
    refine xx_lv [0, 1, 2, 3, 4, 5, 6, 7, 8, 9] (lv' := [(0, .ref (r 4)), (1, .ref (r 0)), (2, .ref (r 3)), (3, .int (nI (how))), (4, .int (nI (X0))), (5, .int (nI (mi))), (6, .int (nI (ot))), (7, .int (nI (zz))), (8, .int (bI (tn (s 17 mi) = 0))), (9, .int (nI (tn (s 16 mi))))]) rfl ?_
    exact xx_mono (Nat.le_add_right _ _) (Nat.le_add_right _ _) (kk (zz % 100) (by omega))

theorem sg_trd_B1 {X : XS} {G : GG} {w : va_W} {r : Nat → Nat} {s t : SS} {nm nc nr k B D : Nat} {X0 how : Nat} {mi ot zz : Nat} {i0 : Nat} (C : Cx X G cL_isTraded 17 RL (Option.some Jvm.ClassFile.FieldType.boolean) r_L_isTraded "isTraded" []) (hW : Wd G r s t nm nc nr w) (hJ : Js s nm nc nr k) (hk : k ≤ 130) (hT : K9 s t nm nc nr k) (hX : X0 < 100000000) (hhow : how < 46) (hnm : 0 < nm) (hmi : mi < nm) (hot : ot < nm) (hzz : zz < 100000000) (hi0 : i0 < 100) (hKc : B + 24 ≤ r_L_isTraded.cells) (hKn : D + 298 ≤ r_L_isTraded.slots)  : V X G 17 w B D (Tg X G r_L_isTraded (fun v w1 => v = some (.int 1) ∧ Nxt G r nm (k + 1) w1) nX) 76 [(0, .ref (r 4)), (1, .ref (r 0)), (2, .ref (r 3)), (3, .int (nI (how))), (4, .int (nI (X0))), (5, .int (nI (mi))), (6, .int (nI (ot))), (7, .int (nI (zz))), (8, .int (bI (tn (s 17 mi) = 0))), (9, .int (nI (tn (s 16 mi))))] [.int (nI (i0)), .int (1)] := by
  have hst : X.2.1.stackTraces = false := C.2.2.2.2.2.1
  have hG : GOK G := C.2.2.2.2.2.2.2.2.2.1
  have hm := hJ.1.1
  have h16b := (hJ.m16 hmi).2
  have h16o := (hJ.m16 hot).2
  have hps := (hJ.mps hot).2
  refine v_iaddN C 1 i0 rfl rfl dL_isTraded_76 rfl ?_
  refine v_istore C (lv1 := [(10, .int (nI (1 + i0))), (0, .ref (r 4)), (1, .ref (r 0)), (2, .ref (r 3)), (3, .int (nI (how))), (4, .int (nI (X0))), (5, .int (nI (mi))), (6, .int (nI (ot))), (7, .int (nI (zz))), (8, .int (bI (tn (s 17 mi) = 0))), (9, .int (nI (tn (s 16 mi))))]) dL_isTraded_77 rfl (by decide) rfl ?_
  refine v_iload C dL_isTraded_79 rfl 8 rfl ?_
  refine v_bipush C (v := 100) dL_isTraded_81 rfl rfl ?_
  refine v_idivN C zz 100 rfl rfl (by omega) (by omega) (by omega) dL_isTraded_83 rfl ?_
  refine v_bipush C (v := 50) dL_isTraded_84 rfl rfl ?_
  refine v_iremN C (zz / 100) 50 rfl rfl (by omega) (by omega) (by omega) dL_isTraded_86 rfl ?_
  have hpa : (zz / 100) % 50 < 50 := by omega
  generalize (zz / 100) % 50 = pa at hpa ⊢
  refine v_istore C (lv1 := [(11, .int (nI (pa))), (10, .int (nI (1 + i0))), (0, .ref (r 4)), (1, .ref (r 0)), (2, .ref (r 3)), (3, .int (nI (how))), (4, .int (nI (X0))), (5, .int (nI (mi))), (6, .int (nI (ot))), (7, .int (nI (zz))), (8, .int (bI (tn (s 17 mi) = 0))), (9, .int (nI (tn (s 16 mi))))]) dL_isTraded_87 rfl (by decide) rfl ?_
  refine v_aload_n C dL_isTraded_89 rfl 2 rfl ?_
  refine v_iload C dL_isTraded_90 rfl 8 rfl ?_
  refine v_bipush C (v := 7) dL_isTraded_92 rfl rfl ?_
  refine q_m7 C hW hJ (i := ot) (by omega) (B + 2) (D + 12) ⟨⟨Nat.le_refl _, bl hKc (Nat.le_of_ble_eq_true rfl)⟩, Nat.le_refl _, bl hKn (Nat.le_of_ble_eq_true rfl)⟩ rfl dL_isTraded_94 rfl (fun b1 => ?_)
  refine v_istore C (lv1 := [(12, .int (nI (PS s ot))), (11, .int (nI (pa))), (10, .int (nI (1 + i0))), (0, .ref (r 4)), (1, .ref (r 0)), (2, .ref (r 3)), (3, .int (nI (how))), (4, .int (nI (X0))), (5, .int (nI (mi))), (6, .int (nI (ot))), (7, .int (nI (zz))), (8, .int (bI (tn (s 17 mi) = 0))), (9, .int (nI (tn (s 16 mi))))]) dL_isTraded_97 rfl (by decide) rfl ?_
  refine v_aload_n C dL_isTraded_99 rfl 3 rfl ?_
  refine v_iload C dL_isTraded_100 rfl 9 rfl ?_
  refine v_iconst C (v := 3) dL_isTraded_102 rfl rfl ?_
  refine q_m3 C hW hJ (i := ot) (by omega) (B + 4) (D + 24) ⟨⟨Nat.le_refl _, bl hKc (Nat.le_of_ble_eq_true rfl)⟩, Nat.le_refl _, bl hKn (Nat.le_of_ble_eq_true rfl)⟩ rfl dL_isTraded_103 rfl (fun b2 => ?_)
  refine v_istore C (lv1 := [(13, .int (nI (tn (s 16 ot)))), (12, .int (nI (PS s ot))), (11, .int (nI (pa))), (10, .int (nI (1 + i0))), (0, .ref (r 4)), (1, .ref (r 0)), (2, .ref (r 3)), (3, .int (nI (how))), (4, .int (nI (X0))), (5, .int (nI (mi))), (6, .int (nI (ot))), (7, .int (nI (zz))), (8, .int (bI (tn (s 17 mi) = 0))), (9, .int (nI (tn (s 16 mi))))]) dL_isTraded_106 rfl (by decide) rfl ?_
  refine v_aload_n C dL_isTraded_108 rfl 4 rfl ?_
  refine v_bipush C (v := 15) dL_isTraded_109 rfl rfl ?_
  refine v_iload C dL_isTraded_111 rfl 9 rfl ?_
  refine v_iload C dL_isTraded_113 rfl 10 rfl ?_
  refine v_iload C dL_isTraded_115 rfl 3 rfl ?_
  refine v_iload C dL_isTraded_117 rfl 2 rfl ?_
  by_cases hsame : mi = ot
  · skip
    refine l_actK C (ax_back (s := s) (nm := nm) (nc := nc) (nr := nr) hst hG hW hJ.bs (e := 2) (cd := -1792000000) (e3_2 ⟨(mi_of hW.cnt.1 hmi (by omega)), (mi_of hW.cnt.1 hot (by omega))⟩ (fun h => h.2.2 (congrArg nI hsame))) (by decide) xL3_2) (B + 11) (D + 143) ⟨⟨Nat.le_refl _, bl hKc (Nat.le_of_ble_eq_true rfl)⟩, Nat.le_refl _, bl hKn (Nat.le_of_ble_eq_true rfl)⟩ rfl dL_isTraded_119 rfl (fun v_ w_ hv3 => ?_)
    obtain ⟨rfl, hw_, -⟩ := hv3
    rw [hw_]
    show V X G 17 _ _ _ _ _ _ [.int ((-1792000000))]
    refine v_istore C (lv1 := [(14, .int ((-1792000000))), (13, .int (nI (tn (s 16 ot)))), (12, .int (nI (PS s ot))), (11, .int (nI (pa))), (10, .int (nI (1 + i0))), (0, .ref (r 4)), (1, .ref (r 0)), (2, .ref (r 3)), (3, .int (nI (how))), (4, .int (nI (X0))), (5, .int (nI (mi))), (6, .int (nI (ot))), (7, .int (nI (zz))), (8, .int (bI (tn (s 17 mi) = 0))), (9, .int (nI (tn (s 16 mi))))]) dL_isTraded_122 rfl (by decide) rfl ?_
    refine v_iload C dL_isTraded_124 rfl 10 rfl ?_
    refine v_iload C dL_isTraded_126 rfl 11 rfl ?_
    refine v_icN_ne C (t := 144) mi ot rfl rfl (by omega) (by omega) dL_isTraded_128 rfl rfl (fun h => ((by omega : False)).elim) (fun _ => ?_)
    refine v_iload C dL_isTraded_131 rfl 0 rfl ?_
    refine v_ldc C (v := (-1792000000)) dL_isTraded_133 rfl N_L_111 ?_
    refine v_icmp_ne C (t := 142) dL_isTraded_135 rfl rfl (fun h => absurd h (by decide)) (fun _ => ?_)
    refine v_iconst C (v := 1) dL_isTraded_138 rfl rfl ?_
    refine v_goto C (q := 143) dL_isTraded_139 rfl ?_
    exact v_zret C rfl (bl hKc (Nat.le_of_ble_eq_true rfl)) (bl hKn (Nat.le_of_ble_eq_true rfl)) dL_isTraded_143 ⟨rfl, _, _, _, _, _, hW, hJ.mono (by omega), hT.mono (by omega), by omega, by omega⟩
  · skip
    by_cases hbad : tn (s 17 mi) = 0 ∨ tn (s 17 ot) = 0 ∨ ¬ s 20 (12 * ot + mi) = 0 ∨ tn (s 16 mi) < pa ∨ 100 < PS s ot + (1 + i0)
    · skip
      refine l_actK C (ax_back (s := s) (nm := nm) (nc := nc) (nr := nr) hst hG hW hJ.bs (e := 3) (cd := -1793000000) (e3_3 ⟨(mi_of hW.cnt.1 hmi (by omega)), (mi_of hW.cnt.1 hot (by omega))⟩ ⟨⟨nI_le (a := 1) (by omega) (by omega), nI_le (b := 100) (by omega) (by omega)⟩, ⟨nI_pos' (by omega), nI_le (b := 100000) (by omega) (by omega)⟩, fun h => hsame (nI_inj (by omega) (by omega) h)⟩ ((bk_iff hJ hmi hot (p := 1 + i0) (m := pa) (by omega) (by omega)).mpr hbad)) (by decide) xL3_3) (B + 11) (D + 143) ⟨⟨Nat.le_refl _, bl hKc (Nat.le_of_ble_eq_true rfl)⟩, Nat.le_refl _, bl hKn (Nat.le_of_ble_eq_true rfl)⟩ rfl dL_isTraded_119 rfl (fun v_ w_ hv4 => ?_)
      obtain ⟨rfl, hw_, -⟩ := hv4
      rw [hw_]
      show V X G 17 _ _ _ _ _ _ [.int ((-1793000000))]
      refine v_istore C (lv1 := [(14, .int ((-1793000000))), (13, .int (nI (tn (s 16 ot)))), (12, .int (nI (PS s ot))), (11, .int (nI (pa))), (10, .int (nI (1 + i0))), (0, .ref (r 4)), (1, .ref (r 0)), (2, .ref (r 3)), (3, .int (nI (how))), (4, .int (nI (X0))), (5, .int (nI (mi))), (6, .int (nI (ot))), (7, .int (nI (zz))), (8, .int (bI (tn (s 17 mi) = 0))), (9, .int (nI (tn (s 16 mi))))]) dL_isTraded_122 rfl (by decide) rfl ?_
      refine v_iload C dL_isTraded_124 rfl 10 rfl ?_
      refine v_iload C dL_isTraded_126 rfl 11 rfl ?_
      refine v_icN_ne C (t := 144) mi ot rfl rfl (by omega) (by omega) dL_isTraded_128 rfl rfl (fun _ => ?_) (fun h => ((by omega : False)).elim)
      refine v_iload C dL_isTraded_144 rfl 0 rfl ?_
      refine v_if_ne C (t := 242) dL_isTraded_146 rfl rfl (fun _ => ?_) (fun h => absurd h (by decide))
      refine v_iload C dL_isTraded_242 rfl 0 rfl ?_
      refine v_ldc C (v := (-1793000000)) dL_isTraded_244 rfl N_L_114 ?_
      refine v_icmp_ne C (t := 278) dL_isTraded_246 rfl rfl (fun h => absurd h (by decide)) (fun _ => ?_)
      refine v_aload_n C dL_isTraded_249 rfl 5 rfl ?_
      refine v_iload C dL_isTraded_250 rfl 11 rfl ?_
      refine v_bipush C (v := 7) dL_isTraded_252 rfl rfl ?_
      refine q_m7 C hW hJ (i := ot) (by omega) (B + 13) (D + 155) ⟨⟨Nat.le_refl _, bl hKc (Nat.le_of_ble_eq_true rfl)⟩, Nat.le_refl _, bl hKn (Nat.le_of_ble_eq_true rfl)⟩ rfl dL_isTraded_254 rfl (fun b5 => ?_)
      refine v_iload C dL_isTraded_257 rfl 2 rfl ?_
      refine v_icN_ne C (t := 278) (PS s ot) (PS s ot) rfl rfl (by omega) (by omega) dL_isTraded_259 rfl rfl (fun h => (by omega : False).elim) (fun h6 => ?_)
      refine v_aload_n C dL_isTraded_262 rfl 5 rfl ?_
      refine v_iload C dL_isTraded_263 rfl 10 rfl ?_
      refine v_iconst C (v := 3) dL_isTraded_265 rfl rfl ?_
      refine q_m3 C hW hJ (i := mi) (by omega) (B + 15) (D + 167) ⟨⟨Nat.le_refl _, bl hKc (Nat.le_of_ble_eq_true rfl)⟩, Nat.le_refl _, bl hKn (Nat.le_of_ble_eq_true rfl)⟩ rfl dL_isTraded_266 rfl (fun b7 => ?_)
      refine v_iload C dL_isTraded_269 rfl 14 rfl ?_
      refine v_icN_ne C (t := 278) (tn (s 16 mi)) (tn (s 16 mi)) rfl rfl (by omega) (by omega) dL_isTraded_271 rfl rfl (fun h => (by omega : False).elim) (fun h8 => ?_)
      refine v_iconst C (v := 1) dL_isTraded_274 rfl rfl ?_
      refine v_goto C (q := 279) dL_isTraded_275 rfl ?_
      exact v_zret C rfl (bl hKc (Nat.le_of_ble_eq_true rfl)) (bl hKn (Nat.le_of_ble_eq_true rfl)) dL_isTraded_279 ⟨rfl, _, _, _, _, _, hW, hJ.mono (by omega), hT.mono (by omega), by omega, by omega⟩
    · skip
      obtain ⟨hb1, hb2, hb3, hb4, hb5⟩ := bk_no (x := pa) (y := tn (s 16 mi)) (u := PS s ot + (1 + i0)) (v := 100) (fun z => by omega) (fun z => by omega) hbad
      have hP_ := P_back hJ hT hk (x := mi) (y := ot) (p := 1 + i0) (m := pa) hmi hot hsame (by omega) hb5 hb3 hb4
      refine l_actK C (ao_back (s := s) (nm := nm) (nc := nc) (nr := nr) hst hG hW hJ.bs (e3_0 ⟨(mi_of hW.cnt.1 hmi (by omega)), (mi_of hW.cnt.1 hot (by omega))⟩ ⟨⟨nI_le (a := 1) (by omega) (by omega), nI_le (b := 100) (by omega) (by omega)⟩, ⟨nI_pos' (by omega), nI_le (b := 100000) (by omega) (by omega)⟩, fun h => hsame (nI_inj (by omega) (by omega) h)⟩ (fun z => hbad ((bk_iff hJ hmi hot (p := 1 + i0) (m := pa) (by omega) (by omega)).mp z)))) (B + 11) (D + 143) ⟨⟨Nat.le_refl _, bl hKc (Nat.le_of_ble_eq_true rfl)⟩, Nat.le_refl _, bl hKn (Nat.le_of_ble_eq_true rfl)⟩ rfl dL_isTraded_119 rfl (fun v_ w10 hv9 => ?_)
      obtain ⟨rfl, hW11⟩ := hv9
      show V X G 17 _ _ _ _ _ _ [.int (0)]
      generalize backUC s (nI (mi)) (nI (ot)) (nI (1 + i0)) (nI (pa)) = s1 at hP_ hW11
      obtain ⟨hJ1, hT1, f1, f2, f3, f4⟩ := hP_
      refine v_istore C (lv1 := [(14, .int (0)), (13, .int (nI (tn (s 16 ot)))), (12, .int (nI (PS s ot))), (11, .int (nI (pa))), (10, .int (nI (1 + i0))), (0, .ref (r 4)), (1, .ref (r 0)), (2, .ref (r 3)), (3, .int (nI (how))), (4, .int (nI (X0))), (5, .int (nI (mi))), (6, .int (nI (ot))), (7, .int (nI (zz))), (8, .int (bI (tn (s 17 mi) = 0))), (9, .int (nI (tn (s 16 mi))))]) dL_isTraded_122 rfl (by decide) rfl ?_
      refine v_iload C dL_isTraded_124 rfl 10 rfl ?_
      refine v_iload C dL_isTraded_126 rfl 11 rfl ?_
      refine v_icN_ne C (t := 144) mi ot rfl rfl (by omega) (by omega) dL_isTraded_128 rfl rfl (fun _ => ?_) (fun h => ((by omega : False)).elim)
      refine v_iload C dL_isTraded_144 rfl 0 rfl ?_
      refine v_if_ne C (t := 242) dL_isTraded_146 rfl rfl (fun h => absurd h (by decide)) (fun _ => ?_)
      refine v_iload C dL_isTraded_149 rfl 13 rfl ?_
      refine v_ifB_ne C (t := 238) dL_isTraded_151 rfl rfl (fun h => absurd h hb1) (fun _ => ?_)
      refine v_iload C dL_isTraded_154 rfl 3 rfl ?_
      refine v_iload C dL_isTraded_156 rfl 14 rfl ?_
      refine v_icN_gt C (t := 238) pa (tn (s 16 mi)) rfl rfl (by omega) (by omega) dL_isTraded_158 rfl rfl (fun h => (by omega : False).elim) (fun h12 => ?_)
      refine v_iload C dL_isTraded_161 rfl 2 rfl ?_
      refine v_iload C dL_isTraded_163 rfl 4 rfl ?_
      refine v_iaddN C (PS s ot) (1 + i0) rfl rfl dL_isTraded_165 rfl ?_
      refine v_bipush C (v := 100) dL_isTraded_166 rfl rfl ?_
      refine v_icN_gt C (t := 238) ((PS s ot) + (1 + i0)) 100 rfl rfl (by omega) (by omega) dL_isTraded_168 rfl rfl (fun h => (by omega : False).elim) (fun h13 => ?_)
      refine v_aload_n C dL_isTraded_171 rfl 5 rfl ?_
      refine v_iload C dL_isTraded_172 rfl 11 rfl ?_
      refine v_bipush C (v := 7) dL_isTraded_174 rfl rfl ?_
      refine q_m7 C hW11 hJ1 (i := ot) (by omega) (B + 13) (D + 155) ⟨⟨Nat.le_refl _, bl hKc (Nat.le_of_ble_eq_true rfl)⟩, Nat.le_refl _, bl hKn (Nat.le_of_ble_eq_true rfl)⟩ rfl dL_isTraded_176 rfl (fun b14 => ?_)
      refine v_iload C dL_isTraded_179 rfl 2 rfl ?_
      refine v_iload C dL_isTraded_181 rfl 4 rfl ?_
      refine v_iaddN C (PS s ot) (1 + i0) rfl rfl dL_isTraded_183 rfl ?_
      refine v_icN_ne C (t := 238) (PS s1 ot) ((PS s ot) + (1 + i0)) rfl rfl (by omega) (by omega) dL_isTraded_184 rfl rfl (fun h => (by omega : False).elim) (fun h15 => ?_)
      refine v_aload_n C dL_isTraded_187 rfl 5 rfl ?_
      refine v_iload C dL_isTraded_188 rfl 10 rfl ?_
      refine v_iconst C (v := 3) dL_isTraded_190 rfl rfl ?_
      refine q_m3 C hW11 hJ1 (i := mi) (by omega) (B + 15) (D + 167) ⟨⟨Nat.le_refl _, bl hKc (Nat.le_of_ble_eq_true rfl)⟩, Nat.le_refl _, bl hKn (Nat.le_of_ble_eq_true rfl)⟩ rfl dL_isTraded_191 rfl (fun b16 => ?_)
      refine v_iload C dL_isTraded_194 rfl 14 rfl ?_
      refine v_iload C dL_isTraded_196 rfl 3 rfl ?_
      refine v_isubN C (tn (s 16 mi)) pa (by omega) rfl rfl dL_isTraded_198 rfl ?_
      refine v_icN_ne C (t := 238) (tn (s1 16 mi)) ((tn (s 16 mi)) - pa) rfl rfl (by omega) (by omega) dL_isTraded_199 rfl rfl (fun h => (by omega : False).elim) (fun h17 => ?_)
      refine v_aload_n C dL_isTraded_202 rfl 5 rfl ?_
      refine v_iload C dL_isTraded_203 rfl 11 rfl ?_
      refine v_iconst C (v := 3) dL_isTraded_205 rfl rfl ?_
      refine q_m3 C hW11 hJ1 (i := ot) (by omega) (B + 17) (D + 179) ⟨⟨Nat.le_refl _, bl hKc (Nat.le_of_ble_eq_true rfl)⟩, Nat.le_refl _, bl hKn (Nat.le_of_ble_eq_true rfl)⟩ rfl dL_isTraded_206 rfl (fun b18 => ?_)
      refine v_iload C dL_isTraded_209 rfl 1 rfl ?_
      refine v_iload C dL_isTraded_211 rfl 3 rfl ?_
      refine v_iaddN C (tn (s 16 ot)) pa rfl rfl dL_isTraded_213 rfl ?_
      refine v_icN_ne C (t := 238) (tn (s1 16 ot)) ((tn (s 16 ot)) + pa) rfl rfl (by omega) (by omega) dL_isTraded_214 rfl rfl (fun h => (by omega : False).elim) (fun h19 => ?_)
      refine v_aload_n C dL_isTraded_217 rfl 5 rfl ?_
      refine v_bipush C (v := 15) dL_isTraded_218 rfl rfl ?_
      refine v_iload C dL_isTraded_220 rfl 10 rfl ?_
      refine v_iload C dL_isTraded_222 rfl 11 rfl ?_
      refine v_iconst C (v := 1) dL_isTraded_224 rfl rfl ?_
      refine v_iconst C (v := 0) dL_isTraded_225 rfl rfl ?_
      refine l_actK C (ax_back (s := s1) (nm := nm) (nc := nc) (nr := nr) hst hG hW11 hJ1.bs (e := 3) (cd := -1793000000) (e3_3 ⟨mi_of hW11.cnt.1 hmi (by omega), mi_of hW11.cnt.1 hot (by omega)⟩ ⟨by decide, by decide, fun h => hsame (nI_inj (by omega) (by omega) h)⟩ (Or.inr (Or.inr (Or.inl (by rw [tn_nI (show mi < 2 ^ 31 by omega), tn_nI (show ot < 2 ^ 31 by omega), f4]; exact fun q => by have := (nI_z (by omega)).mp q; omega))))) (by decide) xL3_3) (B + 24) (D + 298) ⟨⟨Nat.le_refl _, bl hKc (Nat.le_of_ble_eq_true rfl)⟩, Nat.le_refl _, bl hKn (Nat.le_of_ble_eq_true rfl)⟩ rfl dL_isTraded_226 rfl (fun v_ w_ hv20 => ?_)
      obtain ⟨rfl, hw_, -⟩ := hv20
      rw [hw_]
      show V X G 17 _ _ _ _ _ _ [.int ((-1793000000))]
      refine v_ldc C (v := (-1793000000)) dL_isTraded_229 rfl N_L_114 ?_
      refine v_icmp_ne C (t := 238) dL_isTraded_231 rfl rfl (fun h => absurd h (by decide)) (fun _ => ?_)
      refine v_iconst C (v := 1) dL_isTraded_234 rfl rfl ?_
      refine v_goto C (q := 279) dL_isTraded_235 rfl ?_
      exact v_zret C rfl (bl hKc (Nat.le_of_ble_eq_true rfl)) (bl hKn (Nat.le_of_ble_eq_true rfl)) dL_isTraded_279 ⟨rfl, _, _, _, _, _, hW11, hJ1.mono (by omega), hT1, by omega, by omega⟩

theorem sg_trd_E {X : XS} {G : GG} {w : va_W} {r : Nat → Nat} {s t : SS} {nm nc nr k B D : Nat} {X0 how : Nat} {mi ot zz : Nat} (C : Cx X G cL_isTraded 17 RL (Option.some Jvm.ClassFile.FieldType.boolean) r_L_isTraded "isTraded" []) (hW : Wd G r s t nm nc nr w) (hJ : Js s nm nc nr k) (hk : k ≤ 130) (hT : K9 s t nm nc nr k) (hX : X0 < 100000000) (hhow : how < 46) (hnm : 0 < nm) (hmi : mi < nm) (hot : ot < nm) (hzz : zz < 100000000) (hKc : B + 18 ≤ r_L_isTraded.cells) (hKn : D + 262 ≤ r_L_isTraded.slots)  : V X G 17 w B D (Tg X G r_L_isTraded (fun v w1 => v = some (.int 1) ∧ Nxt G r nm (k + 1) w1) nX) 285 [(0, .ref (r 4)), (1, .ref (r 0)), (2, .ref (r 3)), (3, .int (nI (how))), (4, .int (nI (X0))), (5, .int (nI (mi))), (6, .int (nI (ot))), (7, .int (nI (zz))), (8, .int (bI (tn (s 17 mi) = 0))), (9, .int (nI (tn (s 16 mi))))] [] := by
  have hst : X.2.1.stackTraces = false := C.2.2.2.2.2.1
  have hG : GOK G := C.2.2.2.2.2.2.2.2.2.1
  have hm := hJ.1.1
  have h16b := (hJ.m16 hmi).2
  have h16o := (hJ.m16 hot).2
  have hps := (hJ.mps hot).2
  have h20 := hJ.2.2.2.2.2.1.1 ot mi hot (by omega)
  have h20b := tn_lt (s 20 (12 * ot + mi))
  refine v_aload_n C dL_isTraded_285 rfl 0 rfl ?_
  refine v_iload C dL_isTraded_286 rfl 6 rfl ?_
  refine v_bipush C (v := 7) dL_isTraded_288 rfl rfl ?_
  refine q_m7 C hW hJ (i := ot) (by omega) (B + 2) (D + 12) ⟨⟨Nat.le_refl _, bl hKc (Nat.le_of_ble_eq_true rfl)⟩, Nat.le_refl _, bl hKn (Nat.le_of_ble_eq_true rfl)⟩ rfl dL_isTraded_290 rfl (fun b1 => ?_)
  refine v_istore C (lv1 := [(10, .int (nI (PS s ot))), (0, .ref (r 4)), (1, .ref (r 0)), (2, .ref (r 3)), (3, .int (nI (how))), (4, .int (nI (X0))), (5, .int (nI (mi))), (6, .int (nI (ot))), (7, .int (nI (zz))), (8, .int (bI (tn (s 17 mi) = 0))), (9, .int (nI (tn (s 16 mi))))]) dL_isTraded_293 rfl (by decide) rfl ?_
  refine v_aload_n C dL_isTraded_295 rfl 1 rfl ?_
  refine v_bipush C (v := 16) dL_isTraded_296 rfl rfl ?_
  refine v_iload C dL_isTraded_298 rfl 6 rfl ?_
  refine v_iload C dL_isTraded_300 rfl 7 rfl ?_
  refine v_iconst C (v := 0) dL_isTraded_302 rfl rfl ?_
  refine v_iconst C (v := 0) dL_isTraded_303 rfl rfl ?_
  by_cases hhas : 0 < tn (s 20 (12 * ot + mi))
  · skip
    have hcl2 := h20.clt (n := 0) (by omega)
    have hP_ := P_end hJ hT (x := mi) (y := ot) hmi hot
    refine l_actK C (ao_end (s := s) (nm := nm) (nc := nc) (nr := nr) hst hG hW hJ.bs (e2_0 ⟨(mi_of hW.cnt.1 hmi (by omega)), (mi_of hW.cnt.1 hot (by omega))⟩ (by rw [tn_nI (show mi < 2 ^ 31 by omega), tn_nI (show ot < 2 ^ 31 by omega)]; exact hcl2.mpr hhas))) (B + 9) (D + 131) ⟨⟨Nat.le_refl _, bl hKc (Nat.le_of_ble_eq_true rfl)⟩, Nat.le_refl _, bl hKn (Nat.le_of_ble_eq_true rfl)⟩ rfl dL_isTraded_304 rfl (fun v_ w3 hv2 => ?_)
    obtain ⟨rfl, hW4⟩ := hv2
    show V X G 17 _ _ _ _ _ _ [.int (endR s (nI (mi)) (nI (ot)))]
    generalize endU s (nI (mi)) (nI (ot)) = s1 at hP_ hW4
    obtain ⟨hJ1, hT1, f1, f2⟩ := hP_
    refine xx_top (y := nI (tn (s 20 (12 * ot + mi)))) (by unfold endR; rw [tn_nI (show mi < 2 ^ 31 by omega), tn_nI (show ot < 2 ^ 31 by omega)]; exact h20.e) ?_
    refine v_istore C (lv1 := [(11, .int (nI (tn (s 20 (12 * ot + mi))))), (10, .int (nI (PS s ot))), (0, .ref (r 4)), (1, .ref (r 0)), (2, .ref (r 3)), (3, .int (nI (how))), (4, .int (nI (X0))), (5, .int (nI (mi))), (6, .int (nI (ot))), (7, .int (nI (zz))), (8, .int (bI (tn (s 17 mi) = 0))), (9, .int (nI (tn (s 16 mi))))]) dL_isTraded_307 rfl (by decide) rfl ?_
    refine v_iload C dL_isTraded_309 rfl 0 rfl ?_
    refine v_ldc C (v := (-1793000000)) dL_isTraded_311 rfl N_L_114 ?_
    have hn_ := nI_gtN (n := (tn (s 20 (12 * ot + mi)))) (c := (-1793000000)) (by omega) (by decide)
    refine v_icmp_ne C (t := 337) dL_isTraded_313 rfl rfl (fun _ => ?_) (fun h => by first | exact absurd (h ▸ hn_) (Int32.lt_irrefl) | exact absurd hn_ (by rw [h]; exact Int32.lt_irrefl) | exact absurd (Int32.le_of_lt hn_) h | exact absurd hn_ h)
    clear hn_
    refine v_iload C dL_isTraded_337 rfl 0 rfl ?_
    refine v_iconst C (v := 1) dL_isTraded_339 rfl rfl ?_
    refine v_icN_lt C (t := 377) (tn (s 20 (12 * ot + mi))) 1 rfl rfl (by omega) (by omega) dL_isTraded_340 rfl rfl (fun h => (by omega : False).elim) (fun h5 => ?_)
    refine v_aload_n C dL_isTraded_343 rfl 2 rfl ?_
    refine v_iload C dL_isTraded_344 rfl 8 rfl ?_
    refine v_bipush C (v := 7) dL_isTraded_346 rfl rfl ?_
    refine q_m7 C hW4 hJ1 (i := ot) (by omega) (B + 11) (D + 143) ⟨⟨Nat.le_refl _, bl hKc (Nat.le_of_ble_eq_true rfl)⟩, Nat.le_refl _, bl hKn (Nat.le_of_ble_eq_true rfl)⟩ rfl dL_isTraded_348 rfl (fun b6 => ?_)
    refine v_iload C dL_isTraded_351 rfl 1 rfl ?_
    refine v_iload C dL_isTraded_353 rfl 0 rfl ?_
    refine v_isubN C (PS s ot) (tn (s 20 (12 * ot + mi))) (by omega) rfl rfl dL_isTraded_355 rfl ?_
    refine v_icN_ne C (t := 377) (PS s1 ot) ((PS s ot) - (tn (s 20 (12 * ot + mi)))) rfl rfl (by omega) (by omega) dL_isTraded_356 rfl rfl (fun h => (by omega : False).elim) (fun h7 => ?_)
    refine v_aload_n C dL_isTraded_359 rfl 2 rfl ?_
    refine v_bipush C (v := 16) dL_isTraded_360 rfl rfl ?_
    refine v_iload C dL_isTraded_362 rfl 7 rfl ?_
    refine v_iload C dL_isTraded_364 rfl 8 rfl ?_
    refine v_iconst C (v := 0) dL_isTraded_366 rfl rfl ?_
    refine l_bars C (ax_end (s := s1) (nm := nm) (nc := nc) (nr := nr) hst hG hW4 hJ1.bs (e := 2) (cd := -1793000000) (e2_2 ⟨mi_of hW4.cnt.1 hmi (by omega), mi_of hW4.cnt.1 hot (by omega)⟩ (by rw [tn_nI (show mi < 2 ^ 31 by omega), tn_nI (show ot < 2 ^ 31 by omega), f2]; decide)) (by decide) xLIS_2) (B + 18) (D + 262) ⟨⟨Nat.le_refl _, bl hKc (Nat.le_of_ble_eq_true rfl)⟩, Nat.le_refl _, bl hKn (Nat.le_of_ble_eq_true rfl)⟩ rfl dL_isTraded_367 rfl ?_
    refine v_if_eq C (t := 377) dL_isTraded_370 rfl rfl (fun h => absurd h (by decide)) (fun _ => ?_)
    refine v_iconst C (v := 1) dL_isTraded_373 rfl rfl ?_
    refine v_goto C (q := 378) dL_isTraded_374 rfl ?_
    exact v_zret C rfl (bl hKc (Nat.le_of_ble_eq_true rfl)) (bl hKn (Nat.le_of_ble_eq_true rfl)) dL_isTraded_378 ⟨rfl, _, _, _, _, _, hW4, hJ1.mono (by omega), hT1.mono (by omega), by omega, by omega⟩
  · skip
    have hcl2 := h20.clt (n := 0) (by omega)
    refine l_actK C (ax_end (s := s) (nm := nm) (nc := nc) (nr := nr) hst hG hW hJ.bs (e := 2) (cd := -1793000000) (e2_2 ⟨(mi_of hW.cnt.1 hmi (by omega)), (mi_of hW.cnt.1 hot (by omega))⟩ (by rw [tn_nI (show mi < 2 ^ 31 by omega), tn_nI (show ot < 2 ^ 31 by omega)]; exact fun q => hhas (hcl2.mp q))) (by decide) xLIS_2) (B + 9) (D + 131) ⟨⟨Nat.le_refl _, bl hKc (Nat.le_of_ble_eq_true rfl)⟩, Nat.le_refl _, bl hKn (Nat.le_of_ble_eq_true rfl)⟩ rfl dL_isTraded_304 rfl (fun v_ w_ hv8 => ?_)
    obtain ⟨rfl, hw_, -⟩ := hv8
    rw [hw_]
    show V X G 17 _ _ _ _ _ _ [.int ((-1793000000))]
    refine v_istore C (lv1 := [(11, .int ((-1793000000))), (10, .int (nI (PS s ot))), (0, .ref (r 4)), (1, .ref (r 0)), (2, .ref (r 3)), (3, .int (nI (how))), (4, .int (nI (X0))), (5, .int (nI (mi))), (6, .int (nI (ot))), (7, .int (nI (zz))), (8, .int (bI (tn (s 17 mi) = 0))), (9, .int (nI (tn (s 16 mi))))]) dL_isTraded_307 rfl (by decide) rfl ?_
    refine v_iload C dL_isTraded_309 rfl 0 rfl ?_
    refine v_ldc C (v := (-1793000000)) dL_isTraded_311 rfl N_L_114 ?_
    refine v_icmp_ne C (t := 337) dL_isTraded_313 rfl rfl (fun h => absurd h (by decide)) (fun _ => ?_)
    refine v_aload_n C dL_isTraded_316 rfl 2 rfl ?_
    refine v_iload C dL_isTraded_317 rfl 8 rfl ?_
    refine v_bipush C (v := 7) dL_isTraded_319 rfl rfl ?_
    refine q_m7 C hW hJ (i := ot) (by omega) (B + 11) (D + 143) ⟨⟨Nat.le_refl _, bl hKc (Nat.le_of_ble_eq_true rfl)⟩, Nat.le_refl _, bl hKn (Nat.le_of_ble_eq_true rfl)⟩ rfl dL_isTraded_321 rfl (fun b9 => ?_)
    refine v_iload C dL_isTraded_324 rfl 1 rfl ?_
    refine v_icN_ne C (t := 333) (PS s ot) (PS s ot) rfl rfl (by omega) (by omega) dL_isTraded_326 rfl rfl (fun h => (by omega : False).elim) (fun h10 => ?_)
    refine v_iconst C (v := 1) dL_isTraded_329 rfl rfl ?_
    refine v_goto C (q := 378) dL_isTraded_330 rfl ?_
    exact v_zret C rfl (bl hKc (Nat.le_of_ble_eq_true rfl)) (bl hKn (Nat.le_of_ble_eq_true rfl)) dL_isTraded_378 ⟨rfl, _, _, _, _, _, hW, hJ.mono (by omega), hT.mono (by omega), by omega, by omega⟩

theorem sg_trd_C0 {X : XS} {G : GG} {w : va_W} {r : Nat → Nat} {s t : SS} {nm nc nr k B D : Nat} {X0 how : Nat} {mi ot zz : Nat} (C : Cx X G cL_isTraded 17 RL (Option.some Jvm.ClassFile.FieldType.boolean) r_L_isTraded "isTraded" []) (hW : Wd G r s t nm nc nr w) (hJ : Js s nm nc nr k) (hk : k ≤ 130) (hT : K9 s t nm nc nr k) (hX : X0 < 100000000) (hhow : how < 46) (hnm : 0 < nm) (hmi : mi < nm) (hot : ot < nm) (hzz : zz < 100000000) (hKc : B + 2 ≤ r_L_isTraded.cells) (hKn : D + 12 ≤ r_L_isTraded.slots) (kk0 : ∀ cl, cl < nc → V X G 17 w (B + 2) (D + 12) (Tg X G r_L_isTraded (fun v w1 => v = some (.int 1) ∧ Nxt G r nm (k + 1) w1) nX) 410 [(0, .ref (r 4)), (1, .ref (r 0)), (2, .ref (r 3)), (3, .int (nI (how))), (4, .int (nI (X0))), (5, .int (nI (mi))), (6, .int (nI (ot))), (7, .int (nI (zz))), (8, .int (bI (tn (s 17 mi) = 0))), (9, .int (nI (tn (s 16 mi)))), (10, .int (nI (cl))), (11, .int (nI (tn (s 22 cl))))] []) (kk1 : ∀ cl, cl < nc → V X G 17 w (B + 2) (D + 12) (Tg X G r_L_isTraded (fun v w1 => v = some (.int 1) ∧ Nxt G r nm (k + 1) w1) nX) 620 [(0, .ref (r 4)), (1, .ref (r 0)), (2, .ref (r 3)), (3, .int (nI (how))), (4, .int (nI (X0))), (5, .int (nI (mi))), (6, .int (nI (ot))), (7, .int (nI (zz))), (8, .int (bI (tn (s 17 mi) = 0))), (9, .int (nI (tn (s 16 mi)))), (10, .int (nI (cl))), (11, .int (nI (tn (s 22 cl))))] []) : V X G 17 w B D (Tg X G r_L_isTraded (fun v w1 => v = some (.int 1) ∧ Nxt G r nm (k + 1) w1) nX) 379 [(0, .ref (r 4)), (1, .ref (r 0)), (2, .ref (r 3)), (3, .int (nI (how))), (4, .int (nI (X0))), (5, .int (nI (mi))), (6, .int (nI (ot))), (7, .int (nI (zz))), (8, .int (bI (tn (s 17 mi) = 0))), (9, .int (nI (tn (s 16 mi))))] [] := by
  have hst : X.2.1.stackTraces = false := C.2.2.2.2.2.1
  have hG : GOK G := C.2.2.2.2.2.2.2.2.2.1
  have hm := hJ.1.1
  have h16b := (hJ.m16 hmi).2
  have h16o := (hJ.m16 hot).2
  refine v_aload_n C dL_isTraded_379 rfl 1 rfl ?_
  refine v_iconst C (v := 1) dL_isTraded_380 rfl rfl ?_
  refine v_mld C hW 0 (by decide) 1 (show 1 < 6 by omega) dL_isTraded_381 rfl ?_
  refine xx_top (y := nI (nc)) hT.1.2.1 ?_
  refine v_ifN_ne C (t := 387) nc rfl (by omega) dL_isTraded_382 rfl rfl (fun h1 => ?_) (fun h1 => ?_)
  · skip
    refine v_iload C dL_isTraded_387 rfl 7 rfl ?_
    refine v_aload_n C dL_isTraded_389 rfl 1 rfl ?_
    refine v_iconst C (v := 1) dL_isTraded_390 rfl rfl ?_
    refine v_mld C hW 0 (by decide) 1 (show 1 < 6 by omega) dL_isTraded_391 rfl ?_
    refine xx_top (y := nI (nc)) hT.1.2.1 ?_
    refine v_iremN C zz nc rfl rfl (by omega) (by omega) (by omega) dL_isTraded_392 rfl ?_
    have hcl : zz % nc < nc := Nat.mod_lt _ (by omega)
    generalize zz % nc = cl at hcl ⊢
    refine v_istore C (lv1 := [(10, .int (nI (cl))), (0, .ref (r 4)), (1, .ref (r 0)), (2, .ref (r 3)), (3, .int (nI (how))), (4, .int (nI (X0))), (5, .int (nI (mi))), (6, .int (nI (ot))), (7, .int (nI (zz))), (8, .int (bI (tn (s 17 mi) = 0))), (9, .int (nI (tn (s 16 mi))))]) dL_isTraded_393 rfl (by decide) rfl ?_
    refine v_aload_n C dL_isTraded_395 rfl 1 rfl ?_
    refine v_iload C dL_isTraded_396 rfl 0 rfl ?_
    refine v_iconst C (v := 0) dL_isTraded_398 rfl rfl ?_
    refine q_c0 C hW hJ (i := cl) (by omega) (B + 2) (D + 12) ⟨⟨Nat.le_refl _, bl hKc (Nat.le_of_ble_eq_true rfl)⟩, Nat.le_refl _, bl hKn (Nat.le_of_ble_eq_true rfl)⟩ rfl dL_isTraded_399 rfl (fun b2 => ?_)
    refine v_istore C (lv1 := [(11, .int (nI (tn (s 22 cl)))), (10, .int (nI (cl))), (0, .ref (r 4)), (1, .ref (r 0)), (2, .ref (r 3)), (3, .int (nI (how))), (4, .int (nI (X0))), (5, .int (nI (mi))), (6, .int (nI (ot))), (7, .int (nI (zz))), (8, .int (bI (tn (s 17 mi) = 0))), (9, .int (nI (tn (s 16 mi))))]) dL_isTraded_402 rfl (by decide) rfl ?_
    refine v_iload_n C dL_isTraded_404 rfl 5 rfl ?_
    refine v_bipush C (v := 6) dL_isTraded_405 rfl rfl ?_
    refine v_icN_ge C (t := 620) how 6 rfl rfl (by omega) (by omega) dL_isTraded_407 rfl rfl (fun h3 => ?_) (fun h3 => ?_)
    · skip
      refine xx_lv [2, 3, 4, 5, 6, 7, 8, 9, 10, 11, 1, 0] (lv' := [(0, .ref (r 4)), (1, .ref (r 0)), (2, .ref (r 3)), (3, .int (nI (how))), (4, .int (nI (X0))), (5, .int (nI (mi))), (6, .int (nI (ot))), (7, .int (nI (zz))), (8, .int (bI (tn (s 17 mi) = 0))), (9, .int (nI (tn (s 16 mi)))), (10, .int (nI (cl))), (11, .int (nI (tn (s 22 cl))))]) rfl ?_
      exact xx_mono (bm (Nat.le_of_ble_eq_true rfl)) (bm (Nat.le_of_ble_eq_true rfl)) (kk1 cl hcl)
    · skip
      refine xx_lv [2, 3, 4, 5, 6, 7, 8, 9, 10, 11, 1, 0] (lv' := [(0, .ref (r 4)), (1, .ref (r 0)), (2, .ref (r 3)), (3, .int (nI (how))), (4, .int (nI (X0))), (5, .int (nI (mi))), (6, .int (nI (ot))), (7, .int (nI (zz))), (8, .int (bI (tn (s 17 mi) = 0))), (9, .int (nI (tn (s 16 mi)))), (10, .int (nI (cl))), (11, .int (nI (tn (s 22 cl))))]) rfl ?_
      exact xx_mono (bm (Nat.le_of_ble_eq_true rfl)) (bm (Nat.le_of_ble_eq_true rfl)) (kk0 cl hcl)
  · skip
    refine v_iconst C (v := 1) dL_isTraded_385 rfl rfl ?_
    exact v_zret C rfl (Nat.le_trans (Nat.le_add_right _ _) hKc) (Nat.le_trans (Nat.le_add_right _ _) hKn) dL_isTraded_386 ⟨rfl, _, _, _, _, _, hW, hJ.mono (by omega), hT.mono (by omega), by omega, by omega⟩

theorem sg_trd_T0 {X : XS} {G : GG} {w : va_W} {Q : State → Prop} {r : Nat → Nat} {s t : SS} {nm nc nr k B D : Nat} {X0 how : Nat} {mi ot zz : Nat} {cl : Nat} (C : Cx X G cL_isTraded 17 RL (Option.some Jvm.ClassFile.FieldType.boolean) r_L_isTraded "isTraded" []) (hW : Wd G r s t nm nc nr w) (hJ : Js s nm nc nr k) (hk : k ≤ 130) (hT : K9 s t nm nc nr k) (hX : X0 < 100000000) (hhow : how < 46) (hnm : 0 < nm) (hmi : mi < nm) (hot : ot < nm) (hzz : zz < 100000000) (hcl : cl < nc) (hKc : B + 6 ≤ r_L_isTraded.cells) (hKn : D + 36 ≤ r_L_isTraded.slots) (kk : ∀ pa, pa < 60 → V X G 17 w (B + 6) (D + 36) Q 466 [(0, .ref (r 4)), (1, .ref (r 0)), (2, .ref (r 3)), (3, .int (nI (how))), (4, .int (nI (X0))), (5, .int (nI (mi))), (6, .int (nI (ot))), (7, .int (nI (zz))), (8, .int (bI (tn (s 17 mi) = 0))), (9, .int (nI (tn (s 16 mi)))), (10, .int (nI (cl))), (11, .int (nI (tn (s 22 cl)))), (12, .int (nI (pa))), (13, .int (nI (tn (s 16 (tn (s 22 cl)))))), (14, .int (nI (tn (s 26 cl))))] [.int (bI (tn (s 25 cl) = 1 ∧ ¬ tn (s 17 mi) = 0 ∧ pa ≤ tn (s 16 mi)))]) : V X G 17 w B D Q 410 [(0, .ref (r 4)), (1, .ref (r 0)), (2, .ref (r 3)), (3, .int (nI (how))), (4, .int (nI (X0))), (5, .int (nI (mi))), (6, .int (nI (ot))), (7, .int (nI (zz))), (8, .int (bI (tn (s 17 mi) = 0))), (9, .int (nI (tn (s 16 mi)))), (10, .int (nI (cl))), (11, .int (nI (tn (s 22 cl))))] [] := by
  have hst : X.2.1.stackTraces = false := C.2.2.2.2.2.1
  have hG : GOK G := C.2.2.2.2.2.2.2.2.2.1
  have hm := hJ.1.1
  have h16b := (hJ.m16 hmi).2
  have h16o := (hJ.m16 hot).2
  have h22 := hJ.c22 hcl
  have h16w := (hJ.m16 h22.2).2
  have h26 := (hJ.2.2.2.2.2.2.1.1 cl hcl).2.2.1
  have hdy := hJ.1.2.1.2
  have h25 := z01 (hJ.c25 hcl)
  refine v_iload C dL_isTraded_410 rfl 7 rfl ?_
  refine v_bipush C (v := 30) dL_isTraded_412 rfl rfl ?_
  refine v_idivN C zz 30 rfl rfl (by omega) (by omega) (by omega) dL_isTraded_414 rfl ?_
  refine v_bipush C (v := 60) dL_isTraded_415 rfl rfl ?_
  refine v_iremN C (zz / 30) 60 rfl rfl (by omega) (by omega) (by omega) dL_isTraded_417 rfl ?_
  have hpa : (zz / 30) % 60 < 60 := by omega
  generalize (zz / 30) % 60 = pa at hpa ⊢
  refine v_istore C (lv1 := [(12, .int (nI (pa))), (0, .ref (r 4)), (1, .ref (r 0)), (2, .ref (r 3)), (3, .int (nI (how))), (4, .int (nI (X0))), (5, .int (nI (mi))), (6, .int (nI (ot))), (7, .int (nI (zz))), (8, .int (bI (tn (s 17 mi) = 0))), (9, .int (nI (tn (s 16 mi)))), (10, .int (nI (cl))), (11, .int (nI (tn (s 22 cl))))]) dL_isTraded_418 rfl (by decide) rfl ?_
  refine v_aload_n C dL_isTraded_420 rfl 1 rfl ?_
  refine v_iload C dL_isTraded_421 rfl 12 rfl ?_
  refine v_iconst C (v := 3) dL_isTraded_423 rfl rfl ?_
  refine q_m3 C hW hJ (i := tn (s 22 cl)) (by omega) (B + 2) (D + 12) ⟨⟨Nat.le_refl _, bl hKc (Nat.le_of_ble_eq_true rfl)⟩, Nat.le_refl _, bl hKn (Nat.le_of_ble_eq_true rfl)⟩ rfl dL_isTraded_424 rfl (fun b1 => ?_)
  refine v_istore C (lv1 := [(13, .int (nI (tn (s 16 (tn (s 22 cl)))))), (12, .int (nI (pa))), (0, .ref (r 4)), (1, .ref (r 0)), (2, .ref (r 3)), (3, .int (nI (how))), (4, .int (nI (X0))), (5, .int (nI (mi))), (6, .int (nI (ot))), (7, .int (nI (zz))), (8, .int (bI (tn (s 17 mi) = 0))), (9, .int (nI (tn (s 16 mi)))), (10, .int (nI (cl))), (11, .int (nI (tn (s 22 cl))))]) dL_isTraded_427 rfl (by decide) rfl ?_
  refine v_aload_n C dL_isTraded_429 rfl 2 rfl ?_
  refine v_iload C dL_isTraded_430 rfl 12 rfl ?_
  refine v_iconst C (v := 4) dL_isTraded_432 rfl rfl ?_
  refine q_c4 C hW hJ (i := cl) (by omega) (B + 4) (D + 24) ⟨⟨Nat.le_refl _, bl hKc (Nat.le_of_ble_eq_true rfl)⟩, Nat.le_refl _, bl hKn (Nat.le_of_ble_eq_true rfl)⟩ rfl dL_isTraded_433 rfl (fun b2 => ?_)
  refine v_istore C (lv1 := [(14, .int (nI (tn (s 26 cl)))), (13, .int (nI (tn (s 16 (tn (s 22 cl)))))), (12, .int (nI (pa))), (0, .ref (r 4)), (1, .ref (r 0)), (2, .ref (r 3)), (3, .int (nI (how))), (4, .int (nI (X0))), (5, .int (nI (mi))), (6, .int (nI (ot))), (7, .int (nI (zz))), (8, .int (bI (tn (s 17 mi) = 0))), (9, .int (nI (tn (s 16 mi)))), (10, .int (nI (cl))), (11, .int (nI (tn (s 22 cl))))]) dL_isTraded_436 rfl (by decide) rfl ?_
  refine v_aload_n C dL_isTraded_438 rfl 3 rfl ?_
  refine v_iload C dL_isTraded_439 rfl 13 rfl ?_
  refine v_iconst C (v := 3) dL_isTraded_441 rfl rfl ?_
  refine q_c3 C hW hJ (i := cl) (by omega) (B + 6) (D + 36) ⟨⟨Nat.le_refl _, bl hKc (Nat.le_of_ble_eq_true rfl)⟩, Nat.le_refl _, bl hKn (Nat.le_of_ble_eq_true rfl)⟩ rfl dL_isTraded_442 rfl (fun b3 => ?_)
  refine v_iconst C (v := 1) dL_isTraded_445 rfl rfl ?_
  refine v_icN_ne C (t := 465) (tn (s 25 cl)) 1 rfl rfl (by omega) (by omega) dL_isTraded_446 rfl rfl (fun h4 => ?_) (fun h4 => ?_)
  · skip
    refine v_iconst C (v := 0) dL_isTraded_465 rfl rfl ?_
    refine xx_top (y := bI (tn (s 25 cl) = 1 ∧ ¬ tn (s 17 mi) = 0 ∧ pa ≤ tn (s 16 mi))) (bI_f (by omega)).symm ?_
    refine xx_lv [3, 4, 5, 6, 7, 8, 9, 10, 11, 12, 13, 14, 2, 1, 0] (lv' := [(0, .ref (r 4)), (1, .ref (r 0)), (2, .ref (r 3)), (3, .int (nI (how))), (4, .int (nI (X0))), (5, .int (nI (mi))), (6, .int (nI (ot))), (7, .int (nI (zz))), (8, .int (bI (tn (s 17 mi) = 0))), (9, .int (nI (tn (s 16 mi)))), (10, .int (nI (cl))), (11, .int (nI (tn (s 22 cl)))), (12, .int (nI (pa))), (13, .int (nI (tn (s 16 (tn (s 22 cl)))))), (14, .int (nI (tn (s 26 cl))))]) rfl ?_
    exact xx_mono (bm (Nat.le_of_ble_eq_true rfl)) (bm (Nat.le_of_ble_eq_true rfl)) (kk pa hpa)
  · skip
    refine v_iload C dL_isTraded_449 rfl 11 rfl ?_
    refine v_ifB_ne C (t := 465) dL_isTraded_451 rfl rfl (fun h5 => ?_) (fun h5 => ?_)
    · skip
      refine v_iconst C (v := 0) dL_isTraded_465 rfl rfl ?_
      refine xx_top (y := bI (tn (s 25 cl) = 1 ∧ ¬ tn (s 17 mi) = 0 ∧ pa ≤ tn (s 16 mi))) (bI_f (by omega)).symm ?_
      refine xx_lv [3, 4, 5, 6, 7, 8, 9, 10, 11, 12, 13, 14, 2, 1, 0] (lv' := [(0, .ref (r 4)), (1, .ref (r 0)), (2, .ref (r 3)), (3, .int (nI (how))), (4, .int (nI (X0))), (5, .int (nI (mi))), (6, .int (nI (ot))), (7, .int (nI (zz))), (8, .int (bI (tn (s 17 mi) = 0))), (9, .int (nI (tn (s 16 mi)))), (10, .int (nI (cl))), (11, .int (nI (tn (s 22 cl)))), (12, .int (nI (pa))), (13, .int (nI (tn (s 16 (tn (s 22 cl)))))), (14, .int (nI (tn (s 26 cl))))]) rfl ?_
      exact xx_mono (bm (Nat.le_of_ble_eq_true rfl)) (bm (Nat.le_of_ble_eq_true rfl)) (kk pa hpa)
    · skip
      refine v_iload C dL_isTraded_454 rfl 2 rfl ?_
      refine v_iload C dL_isTraded_456 rfl 12 rfl ?_
      refine xx_sel (P := pa ≤ (tn (s 16 mi))) 466 [] ?_ (fun jj => ?_)
      · skip
        refine xx_top (y := bI (tn (s 25 cl) = 1 ∧ ¬ tn (s 17 mi) = 0 ∧ pa ≤ tn (s 16 mi))) (bI_iff (by omega)) ?_
        refine xx_lv [3, 4, 5, 6, 7, 8, 9, 10, 11, 12, 13, 14, 2, 1, 0] (lv' := [(0, .ref (r 4)), (1, .ref (r 0)), (2, .ref (r 3)), (3, .int (nI (how))), (4, .int (nI (X0))), (5, .int (nI (mi))), (6, .int (nI (ot))), (7, .int (nI (zz))), (8, .int (bI (tn (s 17 mi) = 0))), (9, .int (nI (tn (s 16 mi)))), (10, .int (nI (cl))), (11, .int (nI (tn (s 22 cl)))), (12, .int (nI (pa))), (13, .int (nI (tn (s 16 (tn (s 22 cl)))))), (14, .int (nI (tn (s 26 cl))))]) rfl ?_
        exact xx_mono (bm (Nat.le_of_ble_eq_true rfl)) (bm (Nat.le_of_ble_eq_true rfl)) (kk pa hpa)
      refine v_icN_gt C (t := 465) pa (tn (s 16 mi)) rfl rfl (by omega) (by omega) dL_isTraded_458 rfl rfl (fun h6 => ?_) (fun h6 => ?_)
      · skip
        refine v_iconst C (v := 0) dL_isTraded_465 rfl rfl ?_
        exact jj _ (bI_f (by first | assumption | omega)).symm
      · skip
        refine v_iconst C (v := 1) dL_isTraded_461 rfl rfl ?_
        refine v_goto C (q := 466) dL_isTraded_462 rfl ?_
        exact jj _ (bI_t (by first | assumption | omega)).symm

theorem sg_trd_T1 {X : XS} {G : GG} {w : va_W} {r : Nat → Nat} {s t : SS} {nm nc nr k B D : Nat} {X0 how : Nat} {mi ot zz : Nat} {cl : Nat} {pa : Nat} (C : Cx X G cL_isTraded 17 RL (Option.some Jvm.ClassFile.FieldType.boolean) r_L_isTraded "isTraded" []) (hW : Wd G r s t nm nc nr w) (hJ : Js s nm nc nr k) (hk : k ≤ 130) (hT : K9 s t nm nc nr k) (hX : X0 < 100000000) (hhow : how < 46) (hnm : 0 < nm) (hmi : mi < nm) (hot : ot < nm) (hzz : zz < 100000000) (hcl : cl < nc) (hpa : pa < 60) (hKc : B + 18 ≤ r_L_isTraded.cells) (hKn : D + 185 ≤ r_L_isTraded.slots)  : V X G 17 w B D (Tg X G r_L_isTraded (fun v w1 => v = some (.int 1) ∧ Nxt G r nm (k + 1) w1) nX) 466 [(0, .ref (r 4)), (1, .ref (r 0)), (2, .ref (r 3)), (3, .int (nI (how))), (4, .int (nI (X0))), (5, .int (nI (mi))), (6, .int (nI (ot))), (7, .int (nI (zz))), (8, .int (bI (tn (s 17 mi) = 0))), (9, .int (nI (tn (s 16 mi)))), (10, .int (nI (cl))), (11, .int (nI (tn (s 22 cl)))), (12, .int (nI (pa))), (13, .int (nI (tn (s 16 (tn (s 22 cl)))))), (14, .int (nI (tn (s 26 cl))))] [.int (bI (tn (s 25 cl) = 1 ∧ ¬ tn (s 17 mi) = 0 ∧ pa ≤ tn (s 16 mi)))] := by
  have hst : X.2.1.stackTraces = false := C.2.2.2.2.2.1
  have hG : GOK G := C.2.2.2.2.2.2.2.2.2.1
  have hm := hJ.1.1
  have h16b := (hJ.m16 hmi).2
  have h16o := (hJ.m16 hot).2
  have h22 := hJ.c22 hcl
  have h16w := (hJ.m16 h22.2).2
  have h26 := (hJ.2.2.2.2.2.2.1.1 cl hcl).2.2.1
  have hdy := hJ.1.2.1.2
  have h25 := z01 (hJ.c25 hcl)
  refine v_istore C (lv1 := [(15, .int (bI (tn (s 25 cl) = 1 ∧ ¬ tn (s 17 mi) = 0 ∧ pa ≤ tn (s 16 mi)))), (0, .ref (r 4)), (1, .ref (r 0)), (2, .ref (r 3)), (3, .int (nI (how))), (4, .int (nI (X0))), (5, .int (nI (mi))), (6, .int (nI (ot))), (7, .int (nI (zz))), (8, .int (bI (tn (s 17 mi) = 0))), (9, .int (nI (tn (s 16 mi)))), (10, .int (nI (cl))), (11, .int (nI (tn (s 22 cl)))), (12, .int (nI (pa))), (13, .int (nI (tn (s 16 (tn (s 22 cl)))))), (14, .int (nI (tn (s 26 cl))))]) dL_isTraded_466 rfl (by decide) rfl ?_
  refine v_aload_n C dL_isTraded_468 rfl 1 rfl ?_
  refine v_bipush C (v := 17) dL_isTraded_469 rfl rfl ?_
  refine v_iload C dL_isTraded_471 rfl 11 rfl ?_
  refine v_iload C dL_isTraded_473 rfl 6 rfl ?_
  refine v_iload C dL_isTraded_475 rfl 13 rfl ?_
  refine v_iconst C (v := 0) dL_isTraded_477 rfl rfl ?_
  by_cases hown : mi = tn (s 22 cl)
  · skip
    refine l_actK C (ax_trade (s := s) (nm := nm) (nc := nc) (nr := nr) hst hG hW hJ.bs (e := 2) (cd := -1792000000) (e3_2 ⟨(mi_of hW.cnt.2.1 hcl (by omega)), (mi_of hW.cnt.1 hmi (by omega))⟩ (fun h => h.2 (by rw [tn_nI (show cl < 2 ^ 31 by omega), h22.1.e]; exact congrArg nI hown))) (by decide) xL3_2) (B + 7) (D + 119) ⟨⟨Nat.le_refl _, bl hKc (Nat.le_of_ble_eq_true rfl)⟩, Nat.le_refl _, bl hKn (Nat.le_of_ble_eq_true rfl)⟩ rfl dL_isTraded_478 rfl (fun v_ w_ hv1 => ?_)
    obtain ⟨rfl, hw_, -⟩ := hv1
    rw [hw_]
    show V X G 17 _ _ _ _ _ _ [.int ((-1792000000))]
    refine v_istore C (lv1 := [(16, .int ((-1792000000))), (15, .int (bI (tn (s 25 cl) = 1 ∧ ¬ tn (s 17 mi) = 0 ∧ pa ≤ tn (s 16 mi)))), (0, .ref (r 4)), (1, .ref (r 0)), (2, .ref (r 3)), (3, .int (nI (how))), (4, .int (nI (X0))), (5, .int (nI (mi))), (6, .int (nI (ot))), (7, .int (nI (zz))), (8, .int (bI (tn (s 17 mi) = 0))), (9, .int (nI (tn (s 16 mi)))), (10, .int (nI (cl))), (11, .int (nI (tn (s 22 cl)))), (12, .int (nI (pa))), (13, .int (nI (tn (s 16 (tn (s 22 cl)))))), (14, .int (nI (tn (s 26 cl))))]) dL_isTraded_481 rfl (by decide) rfl ?_
    refine v_iload C dL_isTraded_483 rfl 13 rfl ?_
    refine v_iload C dL_isTraded_485 rfl 7 rfl ?_
    refine v_icN_eq C (t := 495) (tn (s 22 cl)) mi rfl rfl (by omega) (by omega) dL_isTraded_487 rfl rfl (fun _ => ?_) (fun h => ((by omega : False)).elim)
    refine v_iload C dL_isTraded_495 rfl 0 rfl ?_
    refine v_iload C dL_isTraded_497 rfl 13 rfl ?_
    refine v_iload C dL_isTraded_499 rfl 7 rfl ?_
    refine v_icN_ne C (t := 509) (tn (s 22 cl)) mi rfl rfl (by omega) (by omega) dL_isTraded_501 rfl rfl (fun h => ((by omega : False)).elim) (fun _ => ?_)
    refine v_ldc C (v := (-1792000000)) dL_isTraded_504 rfl N_L_111 ?_
    refine v_goto C (q := 511) dL_isTraded_506 rfl ?_
    refine v_icmp_ne C (t := 518) dL_isTraded_511 rfl rfl (fun h => absurd h (by decide)) (fun _ => ?_)
    refine v_iconst C (v := 1) dL_isTraded_514 rfl rfl ?_
    refine v_goto C (q := 519) dL_isTraded_515 rfl ?_
    exact v_zret C rfl (bl hKc (Nat.le_of_ble_eq_true rfl)) (bl hKn (Nat.le_of_ble_eq_true rfl)) dL_isTraded_519 ⟨rfl, _, _, _, _, _, hW, hJ.mono (by omega), hT.mono (by omega), by omega, by omega⟩
  · skip
    by_cases hcan : tn (s 25 cl) = 1 ∧ ¬ tn (s 17 mi) = 0 ∧ pa ≤ tn (s 16 mi)
    · skip
      have hP_ := P_trade hJ hT hk (c := cl) (b := mi) (m := pa) hcl hmi hown (by omega) hcan.2.2 (fun q => hcan.2.1 ((hJ.m17 hmi).1.eq0.mp q)) (fun q => by have := h25.1.eq0.mp q; omega)
      refine l_actK C (ao_trade (s := s) (nm := nm) (nc := nc) (nr := nr) hst hG hW hJ.bs (e3_0 ⟨(mi_of hW.cnt.2.1 hcl (by omega)), (mi_of hW.cnt.1 hmi (by omega))⟩ ⟨⟨nI_pos' (by omega), nI_le (b := 100000) (by omega) (by omega)⟩, fun h => hown (nI_inj (by omega) (by omega) (h.trans (by rw [tn_nI (show cl < 2 ^ 31 by omega)]; exact h22.1.e)))⟩ (by rw [tn_nI (show cl < 2 ^ 31 by omega), tn_nI (show mi < 2 ^ 31 by omega), h25.1.eq0, (hJ.m17 hmi).1.eq0, (hJ.m16 hmi).1.ltc (n := pa) (by omega)]; omega))) (B + 7) (D + 119) ⟨⟨Nat.le_refl _, bl hKc (Nat.le_of_ble_eq_true rfl)⟩, Nat.le_refl _, bl hKn (Nat.le_of_ble_eq_true rfl)⟩ rfl dL_isTraded_478 rfl (fun v_ w3 hv2 => ?_)
      obtain ⟨rfl, hW4⟩ := hv2
      show V X G 17 _ _ _ _ _ _ [.int (tradeR s (nI (cl)) (nI (mi)) (nI (pa)))]
      generalize tradeUC s (nI (cl)) (nI (mi)) (nI (pa)) = s1 at hP_ hW4
      obtain ⟨hJ1, hT1, f1, f2, f3, f4, f5⟩ := hP_
      refine xx_top (y := nI (tn (s 22 cl))) (by unfold tradeR; rw [tn_nI (show cl < 2 ^ 31 by omega)]; exact h22.1.e) ?_
      refine v_istore C (lv1 := [(16, .int (nI (tn (s 22 cl)))), (15, .int (bI (tn (s 25 cl) = 1 ∧ ¬ tn (s 17 mi) = 0 ∧ pa ≤ tn (s 16 mi)))), (0, .ref (r 4)), (1, .ref (r 0)), (2, .ref (r 3)), (3, .int (nI (how))), (4, .int (nI (X0))), (5, .int (nI (mi))), (6, .int (nI (ot))), (7, .int (nI (zz))), (8, .int (bI (tn (s 17 mi) = 0))), (9, .int (nI (tn (s 16 mi)))), (10, .int (nI (cl))), (11, .int (nI (tn (s 22 cl)))), (12, .int (nI (pa))), (13, .int (nI (tn (s 16 (tn (s 22 cl)))))), (14, .int (nI (tn (s 26 cl))))]) dL_isTraded_481 rfl (by decide) rfl ?_
      refine v_iload C dL_isTraded_483 rfl 13 rfl ?_
      refine v_iload C dL_isTraded_485 rfl 7 rfl ?_
      refine v_icN_eq C (t := 495) (tn (s 22 cl)) mi rfl rfl (by omega) (by omega) dL_isTraded_487 rfl rfl (fun h => ((by omega : False)).elim) (fun _ => ?_)
      refine v_iload C dL_isTraded_490 rfl 1 rfl ?_
      refine v_ifB_ne C (t := 520) dL_isTraded_492 rfl rfl (fun _ => ?_) (fun h => absurd hcan h)
      refine v_aload_n C dL_isTraded_520 rfl 4 rfl ?_
      refine v_iload C dL_isTraded_521 rfl 12 rfl ?_
      refine v_iload C dL_isTraded_523 rfl 14 rfl ?_
      refine v_mst C hW4 3 (by decide) cl (show cl < 60 by omega) dL_isTraded_525 rfl (fun w5 hW6 => ?_)
      refine v_aload_n C dL_isTraded_526 rfl 4 rfl ?_
      refine v_bipush C (v := 30) dL_isTraded_527 rfl rfl ?_
      refine v_iload C dL_isTraded_529 rfl 12 rfl ?_
      refine v_iaddN C 30 cl rfl rfl dL_isTraded_531 rfl ?_
      refine v_iload C dL_isTraded_532 rfl 13 rfl ?_
      refine v_iconst C (v := 1) dL_isTraded_534 rfl rfl ?_
      refine v_iaddN C (tn (s 22 cl)) 1 rfl rfl dL_isTraded_535 rfl ?_
      refine v_mst C hW6 3 (by decide) (30 + cl) (show (30 + cl) < 60 by omega) dL_isTraded_536 rfl (fun w7 hW8 => ?_)
      refine v_iload C dL_isTraded_537 rfl 0 rfl ?_
      refine v_iload C dL_isTraded_539 rfl 13 rfl ?_
      refine v_icN_ne C (t := 618) (tn (s 22 cl)) (tn (s 22 cl)) rfl rfl (by omega) (by omega) dL_isTraded_541 rfl rfl (fun h => (by omega : False).elim) (fun h9 => ?_)
      refine v_aload_n C dL_isTraded_544 rfl 2 rfl ?_
      refine v_iload C dL_isTraded_545 rfl 12 rfl ?_
      refine v_iconst C (v := 0) dL_isTraded_547 rfl rfl ?_
      refine q_c0 C hW8 hJ1 (i := cl) (by omega) (B + 9) (D + 131) ⟨⟨Nat.le_refl _, bl hKc (Nat.le_of_ble_eq_true rfl)⟩, Nat.le_refl _, bl hKn (Nat.le_of_ble_eq_true rfl)⟩ rfl dL_isTraded_548 rfl (fun b10 => ?_)
      refine v_iload C dL_isTraded_551 rfl 7 rfl ?_
      refine v_icN_ne C (t := 618) (tn (s1 22 cl)) mi rfl rfl (by omega) (by omega) dL_isTraded_553 rfl rfl (fun h => (by omega : False).elim) (fun h11 => ?_)
      refine v_aload_n C dL_isTraded_556 rfl 2 rfl ?_
      refine v_iload C dL_isTraded_557 rfl 12 rfl ?_
      refine v_iconst C (v := 4) dL_isTraded_559 rfl rfl ?_
      refine q_c4 C hW8 hJ1 (i := cl) (by omega) (B + 11) (D + 143) ⟨⟨Nat.le_refl _, bl hKc (Nat.le_of_ble_eq_true rfl)⟩, Nat.le_refl _, bl hKn (Nat.le_of_ble_eq_true rfl)⟩ rfl dL_isTraded_560 rfl (fun b12 => ?_)
      refine v_iload C dL_isTraded_563 rfl 16 rfl ?_
      refine v_icN_ne C (t := 618) (tn (s1 26 cl)) (tn (s 26 cl)) rfl rfl (by omega) (by omega) dL_isTraded_565 rfl rfl (fun h => (by omega : False).elim) (fun h13 => ?_)
      refine v_aload_n C dL_isTraded_568 rfl 2 rfl ?_
      refine v_iload C dL_isTraded_569 rfl 7 rfl ?_
      refine v_iconst C (v := 3) dL_isTraded_571 rfl rfl ?_
      refine q_m3 C hW8 hJ1 (i := mi) (by omega) (B + 13) (D + 155) ⟨⟨Nat.le_refl _, bl hKc (Nat.le_of_ble_eq_true rfl)⟩, Nat.le_refl _, bl hKn (Nat.le_of_ble_eq_true rfl)⟩ rfl dL_isTraded_572 rfl (fun b14 => ?_)
      refine v_iload C dL_isTraded_575 rfl 11 rfl ?_
      refine v_iload C dL_isTraded_577 rfl 14 rfl ?_
      refine v_isubN C (tn (s 16 mi)) pa (by omega) rfl rfl dL_isTraded_579 rfl ?_
      refine v_icN_ne C (t := 618) (tn (s1 16 mi)) ((tn (s 16 mi)) - pa) rfl rfl (by omega) (by omega) dL_isTraded_580 rfl rfl (fun h => (by omega : False).elim) (fun h15 => ?_)
      refine v_aload_n C dL_isTraded_583 rfl 2 rfl ?_
      refine v_iload C dL_isTraded_584 rfl 13 rfl ?_
      refine v_iconst C (v := 3) dL_isTraded_586 rfl rfl ?_
      refine q_m3 C hW8 hJ1 (i := tn (s 22 cl)) (by omega) (B + 15) (D + 167) ⟨⟨Nat.le_refl _, bl hKc (Nat.le_of_ble_eq_true rfl)⟩, Nat.le_refl _, bl hKn (Nat.le_of_ble_eq_true rfl)⟩ rfl dL_isTraded_587 rfl (fun b16 => ?_)
      refine v_iload C dL_isTraded_590 rfl 15 rfl ?_
      refine v_iload C dL_isTraded_592 rfl 14 rfl ?_
      refine v_iaddN C (tn (s 16 (tn (s 22 cl)))) pa rfl rfl dL_isTraded_594 rfl ?_
      refine v_icN_ne C (t := 618) (tn (s1 16 (tn (s 22 cl)))) ((tn (s 16 (tn (s 22 cl)))) + pa) rfl rfl (by omega) (by omega) dL_isTraded_595 rfl rfl (fun h => (by omega : False).elim) (fun h17 => ?_)
      have h23 := hJ1.c23 hcl
      refine v_aload_n C dL_isTraded_598 rfl 2 rfl ?_
      refine v_aload_n C dL_isTraded_599 rfl 2 rfl ?_
      refine v_iload C dL_isTraded_600 rfl 12 rfl ?_
      refine v_iconst C (v := 1) dL_isTraded_602 rfl rfl ?_
      refine q_c1 C hW8 hJ1 (i := cl) (by omega) (B + 17) (D + 179) ⟨⟨Nat.le_refl _, bl hKc (Nat.le_of_ble_eq_true rfl)⟩, Nat.le_refl _, bl hKn (Nat.le_of_ble_eq_true rfl)⟩ rfl dL_isTraded_603 rfl (fun b18 => ?_)
      refine q_holds C hW8 hJ1 (i := tn (s1 23 cl)) (by omega) (B + 18) (D + 185) ⟨⟨Nat.le_refl _, bl hKc (Nat.le_of_ble_eq_true rfl)⟩, Nat.le_refl _, bl hKn (Nat.le_of_ble_eq_true rfl)⟩ rfl dL_isTraded_606 rfl ?_
      refine xx_top (y := nI cl) f5 ?_
      refine v_iload C dL_isTraded_609 rfl 12 rfl ?_
      refine v_icN_ne C (t := 618) cl cl rfl rfl (by omega) (by omega) dL_isTraded_611 rfl rfl (fun h => (by omega : False).elim) (fun h19 => ?_)
      refine v_iconst C (v := 1) dL_isTraded_614 rfl rfl ?_
      refine v_goto C (q := 619) dL_isTraded_615 rfl ?_
      exact v_zret C rfl (bl hKc (Nat.le_of_ble_eq_true rfl)) (bl hKn (Nat.le_of_ble_eq_true rfl)) dL_isTraded_619 ⟨rfl, _, _, _, _, _, hW8, hJ1.mono (by omega), hT1 _ rfl, by omega, by omega⟩
    · skip
      refine l_actK C (ax_trade (s := s) (nm := nm) (nc := nc) (nr := nr) hst hG hW hJ.bs (e := 3) (cd := -1793000000) (e3_3 ⟨(mi_of hW.cnt.2.1 hcl (by omega)), (mi_of hW.cnt.1 hmi (by omega))⟩ ⟨⟨nI_pos' (by omega), nI_le (b := 100000) (by omega) (by omega)⟩, fun h => hown (nI_inj (by omega) (by omega) (h.trans (by rw [tn_nI (show cl < 2 ^ 31 by omega)]; exact h22.1.e)))⟩ (by rw [tn_nI (show cl < 2 ^ 31 by omega), tn_nI (show mi < 2 ^ 31 by omega), h25.1.eq0, (hJ.m17 hmi).1.eq0, (hJ.m16 hmi).1.ltc (n := pa) (by omega)]; omega)) (by decide) xL3_3) (B + 7) (D + 119) ⟨⟨Nat.le_refl _, bl hKc (Nat.le_of_ble_eq_true rfl)⟩, Nat.le_refl _, bl hKn (Nat.le_of_ble_eq_true rfl)⟩ rfl dL_isTraded_478 rfl (fun v_ w_ hv20 => ?_)
      obtain ⟨rfl, hw_, -⟩ := hv20
      rw [hw_]
      show V X G 17 _ _ _ _ _ _ [.int ((-1793000000))]
      refine v_istore C (lv1 := [(16, .int ((-1793000000))), (15, .int (bI (tn (s 25 cl) = 1 ∧ ¬ tn (s 17 mi) = 0 ∧ pa ≤ tn (s 16 mi)))), (0, .ref (r 4)), (1, .ref (r 0)), (2, .ref (r 3)), (3, .int (nI (how))), (4, .int (nI (X0))), (5, .int (nI (mi))), (6, .int (nI (ot))), (7, .int (nI (zz))), (8, .int (bI (tn (s 17 mi) = 0))), (9, .int (nI (tn (s 16 mi)))), (10, .int (nI (cl))), (11, .int (nI (tn (s 22 cl)))), (12, .int (nI (pa))), (13, .int (nI (tn (s 16 (tn (s 22 cl)))))), (14, .int (nI (tn (s 26 cl))))]) dL_isTraded_481 rfl (by decide) rfl ?_
      refine v_iload C dL_isTraded_483 rfl 13 rfl ?_
      refine v_iload C dL_isTraded_485 rfl 7 rfl ?_
      refine v_icN_eq C (t := 495) (tn (s 22 cl)) mi rfl rfl (by omega) (by omega) dL_isTraded_487 rfl rfl (fun h => ((by omega : False)).elim) (fun _ => ?_)
      refine v_iload C dL_isTraded_490 rfl 1 rfl ?_
      refine v_ifB_ne C (t := 520) dL_isTraded_492 rfl rfl (fun h => absurd h hcan) (fun _ => ?_)
      refine v_iload C dL_isTraded_495 rfl 0 rfl ?_
      refine v_iload C dL_isTraded_497 rfl 13 rfl ?_
      refine v_iload C dL_isTraded_499 rfl 7 rfl ?_
      refine v_icN_ne C (t := 509) (tn (s 22 cl)) mi rfl rfl (by omega) (by omega) dL_isTraded_501 rfl rfl (fun _ => ?_) (fun h => ((by omega : False)).elim)
      refine v_ldc C (v := (-1793000000)) dL_isTraded_509 rfl N_L_114 ?_
      refine v_icmp_ne C (t := 518) dL_isTraded_511 rfl rfl (fun h => absurd h (by decide)) (fun _ => ?_)
      refine v_iconst C (v := 1) dL_isTraded_514 rfl rfl ?_
      refine v_goto C (q := 519) dL_isTraded_515 rfl ?_
      exact v_zret C rfl (bl hKc (Nat.le_of_ble_eq_true rfl)) (bl hKn (Nat.le_of_ble_eq_true rfl)) dL_isTraded_519 ⟨rfl, _, _, _, _, _, hW, hJ.mono (by omega), hT.mono (by omega), by omega, by omega⟩

theorem sg_trd_U {X : XS} {G : GG} {w : va_W} {r : Nat → Nat} {s t : SS} {nm nc nr k B D : Nat} {X0 how : Nat} {mi ot zz : Nat} {cl : Nat} {q : Nat} (C : Cx X G cL_isTraded 17 RL (Option.some Jvm.ClassFile.FieldType.boolean) r_L_isTraded "isTraded" []) (hW : Wd G r s t nm nc nr w) (hJ : Js s nm nc nr k) (hk : k ≤ 130) (hT : K9 s t nm nc nr k) (hX : X0 < 100000000) (hhow : how < 46) (hnm : 0 < nm) (hmi : mi < nm) (hot : ot < nm) (hzz : zz < 100000000) (hcl : cl < nc) (hq : q ≤ nm) (hq1 : s 53 cl = nI q - 1) (hq2 : t 3 (30 + cl) = nI q) (hKc : B + 20 ≤ r_L_isTraded.cells) (hKn : D + 274 ≤ r_L_isTraded.slots)  : V X G 17 w B D (Tg X G r_L_isTraded (fun v w1 => v = some (.int 1) ∧ Nxt G r nm (k + 1) w1) nX) 620 [(0, .ref (r 4)), (1, .ref (r 0)), (2, .ref (r 3)), (3, .int (nI (how))), (4, .int (nI (X0))), (5, .int (nI (mi))), (6, .int (nI (ot))), (7, .int (nI (zz))), (8, .int (bI (tn (s 17 mi) = 0))), (9, .int (nI (tn (s 16 mi)))), (10, .int (nI (cl))), (11, .int (nI (tn (s 22 cl))))] [] := by
  have hst : X.2.1.stackTraces = false := C.2.2.2.2.2.1
  have hG : GOK G := C.2.2.2.2.2.2.2.2.2.1
  have hm := hJ.1.1
  have h16b := (hJ.m16 hmi).2
  have h16o := (hJ.m16 hot).2
  have h22 := hJ.c22 hcl
  have h16w := (hJ.m16 h22.2).2
  have h26 := (hJ.2.2.2.2.2.2.1.1 cl hcl).2.2.1
  have hdy := hJ.1.2.1.2
  have h31 := (hJ.2.2.2.2.2.2.2.1 cl hcl).2.2
  refine v_aload_n C dL_isTraded_620 rfl 2 rfl ?_
  refine v_bipush C (v := 30) dL_isTraded_621 rfl rfl ?_
  refine v_iload C dL_isTraded_623 rfl 10 rfl ?_
  refine v_iaddN C 30 cl rfl rfl dL_isTraded_625 rfl ?_
  refine v_mld C hW 3 (by decide) (30 + cl) (show (30 + cl) < 60 by omega) dL_isTraded_626 rfl ?_
  refine xx_top (y := nI (q)) hq2 ?_
  refine v_iconst C (v := 1) dL_isTraded_627 rfl rfl ?_
  refine v_isub C dL_isTraded_628 rfl ?_
  by_cases hz : q = 0
  · skip
    refine xx_top (y := -1) (by rw [hz]; decide) ?_
    refine v_istore C (lv1 := [(12, .int ((-1))), (0, .ref (r 4)), (1, .ref (r 0)), (2, .ref (r 3)), (3, .int (nI (how))), (4, .int (nI (X0))), (5, .int (nI (mi))), (6, .int (nI (ot))), (7, .int (nI (zz))), (8, .int (bI (tn (s 17 mi) = 0))), (9, .int (nI (tn (s 16 mi)))), (10, .int (nI (cl))), (11, .int (nI (tn (s 22 cl))))]) dL_isTraded_629 rfl (by decide) rfl ?_
    refine v_iload C dL_isTraded_631 rfl 0 rfl ?_
    refine v_if_ge C (t := 640) dL_isTraded_633 rfl rfl (fun h => absurd h (by decide)) (fun _ => ?_)
    refine v_iconst C (v := 0) dL_isTraded_636 rfl rfl ?_
    refine v_goto C (q := 647) dL_isTraded_637 rfl ?_
    refine v_istore C (lv1 := [(13, .int (0)), (12, .int ((-1))), (0, .ref (r 4)), (1, .ref (r 0)), (2, .ref (r 3)), (3, .int (nI (how))), (4, .int (nI (X0))), (5, .int (nI (mi))), (6, .int (nI (ot))), (7, .int (nI (zz))), (8, .int (bI (tn (s 17 mi) = 0))), (9, .int (nI (tn (s 16 mi)))), (10, .int (nI (cl))), (11, .int (nI (tn (s 22 cl))))]) dL_isTraded_647 rfl (by decide) rfl ?_
    refine v_aload_n C dL_isTraded_649 rfl 2 rfl ?_
    refine v_bipush C (v := 18) dL_isTraded_650 rfl rfl ?_
    refine v_iload C dL_isTraded_652 rfl 12 rfl ?_
    refine v_iconst C (v := 0) dL_isTraded_654 rfl rfl ?_
    refine v_iconst C (v := 0) dL_isTraded_655 rfl rfl ?_
    refine v_iconst C (v := 0) dL_isTraded_656 rfl rfl ?_
    refine l_actK C (ax_suit (s := s) (nm := nm) (nc := nc) (nr := nr) hst hG hW hJ.bs (e := 2) (cd := -1793000000) (e4_2 (mi_of hW.cnt.2.1 hcl (by omega)) (Or.inl (by rw [tn_nI (show cl < 2 ^ 31 by omega), hq1, hz]; decide))) (by decide) xLIS_2) (B + 7) (D + 119) ⟨⟨Nat.le_refl _, bl hKc (Nat.le_of_ble_eq_true rfl)⟩, Nat.le_refl _, bl hKn (Nat.le_of_ble_eq_true rfl)⟩ rfl dL_isTraded_657 rfl (fun v_ w_ hv1 => ?_)
    obtain ⟨rfl, hw_, -⟩ := hv1
    rw [hw_]
    show V X G 17 _ _ _ _ _ _ [.int ((-1793000000))]
    refine v_istore C (lv1 := [(14, .int ((-1793000000))), (13, .int (0)), (12, .int ((-1))), (0, .ref (r 4)), (1, .ref (r 0)), (2, .ref (r 3)), (3, .int (nI (how))), (4, .int (nI (X0))), (5, .int (nI (mi))), (6, .int (nI (ot))), (7, .int (nI (zz))), (8, .int (bI (tn (s 17 mi) = 0))), (9, .int (nI (tn (s 16 mi)))), (10, .int (nI (cl))), (11, .int (nI (tn (s 22 cl))))]) dL_isTraded_660 rfl (by decide) rfl ?_
    refine v_iload C dL_isTraded_662 rfl 0 rfl ?_
    refine v_ldc C (v := (-1793000000)) dL_isTraded_664 rfl N_L_114 ?_
    refine v_icmp_eq C (t := 772) dL_isTraded_666 rfl rfl (fun _ => ?_) (fun h => absurd h (by decide))
    refine v_iconst C (v := 1) dL_isTraded_772 rfl rfl ?_
    refine v_goto C (q := 777) dL_isTraded_773 rfl ?_
    exact v_zret C rfl (bl hKc (Nat.le_of_ble_eq_true rfl)) (bl hKn (Nat.le_of_ble_eq_true rfl)) dL_isTraded_777 ⟨rfl, _, _, _, _, _, hW, hJ.mono (by omega), hT.mono (by omega), by omega, by omega⟩
  · skip
    refine xx_top (y := nI (q - 1)) (nI_prd (by omega)) ?_
    have h16q := (hJ.m16 (i := q - 1) (by omega)).2
    refine v_istore C (lv1 := [(12, .int (nI (q - 1))), (0, .ref (r 4)), (1, .ref (r 0)), (2, .ref (r 3)), (3, .int (nI (how))), (4, .int (nI (X0))), (5, .int (nI (mi))), (6, .int (nI (ot))), (7, .int (nI (zz))), (8, .int (bI (tn (s 17 mi) = 0))), (9, .int (nI (tn (s 16 mi)))), (10, .int (nI (cl))), (11, .int (nI (tn (s 22 cl))))]) dL_isTraded_629 rfl (by decide) rfl ?_
    refine v_iload C dL_isTraded_631 rfl 0 rfl ?_
    refine v_if_ge C (t := 640) dL_isTraded_633 rfl rfl (fun _ => ?_) (fun h => absurd (nI_pos' (by omega)) h)
    refine v_aload_n C dL_isTraded_640 rfl 1 rfl ?_
    refine v_iload C dL_isTraded_641 rfl 0 rfl ?_
    refine v_iconst C (v := 3) dL_isTraded_643 rfl rfl ?_
    refine q_m3 C hW hJ (i := q - 1) (by omega) (B + 2) (D + 12) ⟨⟨Nat.le_refl _, bl hKc (Nat.le_of_ble_eq_true rfl)⟩, Nat.le_refl _, bl hKn (Nat.le_of_ble_eq_true rfl)⟩ rfl dL_isTraded_644 rfl (fun b2 => ?_)
    refine v_istore C (lv1 := [(13, .int (nI (tn (s 16 (q - 1))))), (12, .int (nI (q - 1))), (0, .ref (r 4)), (1, .ref (r 0)), (2, .ref (r 3)), (3, .int (nI (how))), (4, .int (nI (X0))), (5, .int (nI (mi))), (6, .int (nI (ot))), (7, .int (nI (zz))), (8, .int (bI (tn (s 17 mi) = 0))), (9, .int (nI (tn (s 16 mi)))), (10, .int (nI (cl))), (11, .int (nI (tn (s 22 cl))))]) dL_isTraded_647 rfl (by decide) rfl ?_
    refine v_aload_n C dL_isTraded_649 rfl 2 rfl ?_
    refine v_bipush C (v := 18) dL_isTraded_650 rfl rfl ?_
    refine v_iload C dL_isTraded_652 rfl 12 rfl ?_
    refine v_iconst C (v := 0) dL_isTraded_654 rfl rfl ?_
    refine v_iconst C (v := 0) dL_isTraded_655 rfl rfl ?_
    refine v_iconst C (v := 0) dL_isTraded_656 rfl rfl ?_
    by_cases hbad : s 53 (tn (nI cl)) = -1 ∨ ¬ s 28 (tn (nI cl)) = 0 ∨ 30 < s 0 0 - s 32 (tn (nI cl))
    · skip
      refine l_actK C (ax_suit (s := s) (nm := nm) (nc := nc) (nr := nr) hst hG hW hJ.bs (e := 2) (cd := -1793000000) (e4_2 (mi_of hW.cnt.2.1 hcl (by omega)) hbad) (by decide) xLIS_2) (B + 9) (D + 131) ⟨⟨Nat.le_refl _, bl hKc (Nat.le_of_ble_eq_true rfl)⟩, Nat.le_refl _, bl hKn (Nat.le_of_ble_eq_true rfl)⟩ rfl dL_isTraded_657 rfl (fun v_ w_ hv3 => ?_)
      obtain ⟨rfl, hw_, -⟩ := hv3
      rw [hw_]
      show V X G 17 _ _ _ _ _ _ [.int ((-1793000000))]
      refine v_istore C (lv1 := [(14, .int ((-1793000000))), (13, .int (nI (tn (s 16 (q - 1))))), (12, .int (nI (q - 1))), (0, .ref (r 4)), (1, .ref (r 0)), (2, .ref (r 3)), (3, .int (nI (how))), (4, .int (nI (X0))), (5, .int (nI (mi))), (6, .int (nI (ot))), (7, .int (nI (zz))), (8, .int (bI (tn (s 17 mi) = 0))), (9, .int (nI (tn (s 16 mi)))), (10, .int (nI (cl))), (11, .int (nI (tn (s 22 cl))))]) dL_isTraded_660 rfl (by decide) rfl ?_
      refine v_iload C dL_isTraded_662 rfl 0 rfl ?_
      refine v_ldc C (v := (-1793000000)) dL_isTraded_664 rfl N_L_114 ?_
      refine v_icmp_eq C (t := 772) dL_isTraded_666 rfl rfl (fun _ => ?_) (fun h => absurd h (by decide))
      refine v_iconst C (v := 1) dL_isTraded_772 rfl rfl ?_
      refine v_goto C (q := 777) dL_isTraded_773 rfl ?_
      exact v_zret C rfl (bl hKc (Nat.le_of_ble_eq_true rfl)) (bl hKn (Nat.le_of_ble_eq_true rfl)) dL_isTraded_777 ⟨rfl, _, _, _, _, _, hW, hJ.mono (by omega), hT.mono (by omega), by omega, by omega⟩
    · skip
      have hP_ := P_suit hJ hT hk (c := cl) hcl (fun z => hbad (Or.inl (by rw [tn_nI (show cl < 2 ^ 31 by omega)]; exact z)))
      refine l_actK C (ao_suit (s := s) (nm := nm) (nc := nc) (nr := nr) hst hG hW hJ.bs (e4_0 (mi_of hW.cnt.2.1 hcl (by omega)) hbad)) (B + 9) (D + 131) ⟨⟨Nat.le_refl _, bl hKc (Nat.le_of_ble_eq_true rfl)⟩, Nat.le_refl _, bl hKn (Nat.le_of_ble_eq_true rfl)⟩ rfl dL_isTraded_657 rfl (fun v_ w5 hv4 => ?_)
      obtain ⟨rfl, hW6⟩ := hv4
      show V X G 17 _ _ _ _ _ _ [.int (suitRC s (nI (cl)))]
      generalize suitUC s (nI (cl)) = s1 at hP_ hW6
      obtain ⟨sl, hs1, hs2, hJ1, hT1, f1, f2, hcase⟩ := hP_
      obtain rfl : sl = q - 1 := by
        rw [hq1, nI_prd (by omega)] at hs2
        have := nI_inj (by omega) (by omega) hs2
        omega
      rcases hcase with ⟨hR, f3⟩ | ⟨mm, hR, f3, f4, f5, f6⟩
      · skip
        rw [hR]
        refine v_istore C (lv1 := [(14, .int ((-1))), (13, .int (nI (tn (s 16 (q - 1))))), (12, .int (nI (q - 1))), (0, .ref (r 4)), (1, .ref (r 0)), (2, .ref (r 3)), (3, .int (nI (how))), (4, .int (nI (X0))), (5, .int (nI (mi))), (6, .int (nI (ot))), (7, .int (nI (zz))), (8, .int (bI (tn (s 17 mi) = 0))), (9, .int (nI (tn (s 16 mi)))), (10, .int (nI (cl))), (11, .int (nI (tn (s 22 cl))))]) dL_isTraded_660 rfl (by decide) rfl ?_
        refine v_iload C dL_isTraded_662 rfl 0 rfl ?_
        refine v_ldc C (v := (-1793000000)) dL_isTraded_664 rfl N_L_114 ?_
        refine v_icmp_eq C (t := 772) dL_isTraded_666 rfl rfl (fun h => absurd h (by decide)) (fun _ => ?_)
        refine v_iload C dL_isTraded_669 rfl 2 rfl ?_
        refine v_if_lt C (t := 776) dL_isTraded_671 rfl rfl (fun h => absurd h (nI_pos (by omega))) (fun _ => ?_)
        refine v_iload C dL_isTraded_674 rfl 0 rfl ?_
        refine v_iconst C (v := (-1)) dL_isTraded_676 rfl rfl ?_
        refine v_icmp_ne C (t := 695) dL_isTraded_677 rfl rfl (fun h => absurd h (by decide)) (fun _ => ?_)
        refine v_aload_n C dL_isTraded_680 rfl 3 rfl ?_
        refine v_iload C dL_isTraded_681 rfl 2 rfl ?_
        refine v_iconst C (v := 3) dL_isTraded_683 rfl rfl ?_
        refine q_m3 C hW6 hJ1 (i := q - 1) (by omega) (B + 11) (D + 143) ⟨⟨Nat.le_refl _, bl hKc (Nat.le_of_ble_eq_true rfl)⟩, Nat.le_refl _, bl hKn (Nat.le_of_ble_eq_true rfl)⟩ rfl dL_isTraded_684 rfl (fun b7 => ?_)
        refine v_iload C dL_isTraded_687 rfl 1 rfl ?_
        refine v_icN_ne C (t := 776) (tn (s1 16 (q - 1))) (tn (s 16 (q - 1))) rfl rfl (by omega) (by omega) dL_isTraded_689 rfl rfl (fun h => (by omega : False).elim) (fun h8 => ?_)
        refine v_goto C (q := 747) dL_isTraded_692 rfl ?_
        refine v_aload_n C dL_isTraded_747 rfl 3 rfl ?_
        refine v_iload C dL_isTraded_748 rfl 13 rfl ?_
        refine v_iconst C (v := 0) dL_isTraded_750 rfl rfl ?_
        refine q_c0 C hW6 hJ1 (i := cl) (by omega) (B + 13) (D + 155) ⟨⟨Nat.le_refl _, bl hKc (Nat.le_of_ble_eq_true rfl)⟩, Nat.le_refl _, bl hKn (Nat.le_of_ble_eq_true rfl)⟩ rfl dL_isTraded_751 rfl (fun b9 => ?_)
        refine v_iload C dL_isTraded_754 rfl 14 rfl ?_
        refine v_icN_ne C (t := 776) (tn (s1 22 cl)) (tn (s 22 cl)) rfl rfl (by omega) (by omega) dL_isTraded_756 rfl rfl (fun h => (by omega : False).elim) (fun h10 => ?_)
        refine v_aload_n C dL_isTraded_759 rfl 3 rfl ?_
        refine v_bipush C (v := 18) dL_isTraded_760 rfl rfl ?_
        refine v_iload C dL_isTraded_762 rfl 13 rfl ?_
        refine v_iconst C (v := 0) dL_isTraded_764 rfl rfl ?_
        refine v_iconst C (v := 0) dL_isTraded_765 rfl rfl ?_
        refine l_bars C (ax_suit (s := s1) (nm := nm) (nc := nc) (nr := nr) hst hG hW6 hJ1.bs (e := 2) (cd := -1793000000) (e4_2 (mi_of hW6.cnt.2.1 hcl (by omega)) (Or.inr (Or.inl (by rw [tn_nI (show cl < 2 ^ 31 by omega), f1]; decide)))) (by decide) xLIS_2) (B + 20) (D + 274) ⟨⟨Nat.le_refl _, bl hKc (Nat.le_of_ble_eq_true rfl)⟩, Nat.le_refl _, bl hKn (Nat.le_of_ble_eq_true rfl)⟩ rfl dL_isTraded_766 rfl ?_
        refine v_if_eq C (t := 776) dL_isTraded_769 rfl rfl (fun h => absurd h (by decide)) (fun _ => ?_)
        refine v_iconst C (v := 1) dL_isTraded_772 rfl rfl ?_
        refine v_goto C (q := 777) dL_isTraded_773 rfl ?_
        exact v_zret C rfl (bl hKc (Nat.le_of_ble_eq_true rfl)) (bl hKn (Nat.le_of_ble_eq_true rfl)) dL_isTraded_777 ⟨rfl, _, _, _, _, _, hW6, hJ1.mono (by omega), hT1, by omega, by omega⟩
      · skip
        rw [hR]
        refine v_istore C (lv1 := [(14, .int (nI (mm))), (13, .int (nI (tn (s 16 (q - 1))))), (12, .int (nI (q - 1))), (0, .ref (r 4)), (1, .ref (r 0)), (2, .ref (r 3)), (3, .int (nI (how))), (4, .int (nI (X0))), (5, .int (nI (mi))), (6, .int (nI (ot))), (7, .int (nI (zz))), (8, .int (bI (tn (s 17 mi) = 0))), (9, .int (nI (tn (s 16 mi)))), (10, .int (nI (cl))), (11, .int (nI (tn (s 22 cl))))]) dL_isTraded_660 rfl (by decide) rfl ?_
        refine v_iload C dL_isTraded_662 rfl 0 rfl ?_
        refine v_ldc C (v := (-1793000000)) dL_isTraded_664 rfl N_L_114 ?_
        have hn_ := nI_gtN (n := mm) (c := (-1793000000)) (by omega) (by decide)
        refine v_icmp_eq C (t := 772) dL_isTraded_666 rfl rfl (fun h => by first | exact absurd hn_ (by rw [h]; exact Int32.lt_irrefl) | exact absurd hn_ (by rw [← h]; exact Int32.lt_irrefl) | exact absurd hn_ (Int32.not_lt.mpr h) | exact absurd hn_ (Int32.not_lt.mpr (Int32.le_of_lt h))) (fun _ => ?_)
        clear hn_
        refine v_iload C dL_isTraded_669 rfl 2 rfl ?_
        refine v_if_lt C (t := 776) dL_isTraded_671 rfl rfl (fun h => absurd h (nI_pos (by omega))) (fun _ => ?_)
        refine v_iload C dL_isTraded_674 rfl 0 rfl ?_
        refine v_iconst C (v := (-1)) dL_isTraded_676 rfl rfl ?_
        have hn_ := nI_gtN (n := mm) (c := (-1)) (by omega) (by decide)
        refine v_icmp_ne C (t := 695) dL_isTraded_677 rfl rfl (fun _ => ?_) (fun h => by first | exact absurd (h ▸ hn_) (Int32.lt_irrefl) | exact absurd hn_ (by rw [h]; exact Int32.lt_irrefl) | exact absurd (Int32.le_of_lt hn_) h | exact absurd hn_ h)
        clear hn_
        refine v_iload C dL_isTraded_695 rfl 0 rfl ?_
        refine v_if_lt C (t := 776) dL_isTraded_697 rfl rfl (fun h => absurd h (nI_pos (by omega))) (fun _ => ?_)
        refine v_iload C dL_isTraded_700 rfl 0 rfl ?_
        refine v_aload_n C dL_isTraded_702 rfl 5 rfl ?_
        refine v_iload C dL_isTraded_703 rfl 13 rfl ?_
        refine v_mld C hW6 3 (by decide) cl (show cl < 60 by omega) dL_isTraded_705 rfl ?_
        refine xx_top (y := nI (tn (s 31 cl))) ((hT.2.2.2.2.1 cl hcl).1.trans (hJ.2.2.2.2.2.2.2.1 cl hcl).2.1.e) ?_
        refine v_icN_gt C (t := 776) mm (tn (s 31 cl)) rfl rfl (by omega) (by omega) dL_isTraded_706 rfl rfl (fun h => (by omega : False).elim) (fun h11 => ?_)
        refine v_iload C dL_isTraded_709 rfl 0 rfl ?_
        refine v_iload C dL_isTraded_711 rfl 1 rfl ?_
        refine v_icN_gt C (t := 776) mm (tn (s 16 (q - 1))) rfl rfl (by omega) (by omega) dL_isTraded_713 rfl rfl (fun h => (by omega : False).elim) (fun h12 => ?_)
        refine v_iload C dL_isTraded_716 rfl 0 rfl ?_
        refine v_aload_n C dL_isTraded_718 rfl 5 rfl ?_
        refine v_iload C dL_isTraded_719 rfl 13 rfl ?_
        refine v_mld C hW6 3 (by decide) cl (show cl < 60 by omega) dL_isTraded_721 rfl ?_
        refine xx_top (y := nI (tn (s 31 cl))) ((hT.2.2.2.2.1 cl hcl).1.trans (hJ.2.2.2.2.2.2.2.1 cl hcl).2.1.e) ?_
        refine v_icN_eq C (t := 732) mm (tn (s 31 cl)) rfl rfl (by omega) (by omega) dL_isTraded_722 rfl rfl (fun h13 => ?_) (fun h13 => ?_)
        · skip
          refine v_aload_n C dL_isTraded_732 rfl 3 rfl ?_
          refine v_iload C dL_isTraded_733 rfl 2 rfl ?_
          refine v_iconst C (v := 3) dL_isTraded_735 rfl rfl ?_
          refine q_m3 C hW6 hJ1 (i := q - 1) (by omega) (B + 11) (D + 143) ⟨⟨Nat.le_refl _, bl hKc (Nat.le_of_ble_eq_true rfl)⟩, Nat.le_refl _, bl hKn (Nat.le_of_ble_eq_true rfl)⟩ rfl dL_isTraded_736 rfl (fun b14 => ?_)
          refine v_iload C dL_isTraded_739 rfl 1 rfl ?_
          refine v_iload C dL_isTraded_741 rfl 0 rfl ?_
          refine v_isubN C (tn (s 16 (q - 1))) mm (by omega) rfl rfl dL_isTraded_743 rfl ?_
          refine v_icN_ne C (t := 776) (tn (s1 16 (q - 1))) ((tn (s 16 (q - 1))) - mm) rfl rfl (by omega) (by omega) dL_isTraded_744 rfl rfl (fun h => (by omega : False).elim) (fun h15 => ?_)
          refine v_aload_n C dL_isTraded_747 rfl 3 rfl ?_
          refine v_iload C dL_isTraded_748 rfl 13 rfl ?_
          refine v_iconst C (v := 0) dL_isTraded_750 rfl rfl ?_
          refine q_c0 C hW6 hJ1 (i := cl) (by omega) (B + 13) (D + 155) ⟨⟨Nat.le_refl _, bl hKc (Nat.le_of_ble_eq_true rfl)⟩, Nat.le_refl _, bl hKn (Nat.le_of_ble_eq_true rfl)⟩ rfl dL_isTraded_751 rfl (fun b16 => ?_)
          refine v_iload C dL_isTraded_754 rfl 14 rfl ?_
          refine v_icN_ne C (t := 776) (tn (s1 22 cl)) (tn (s 22 cl)) rfl rfl (by omega) (by omega) dL_isTraded_756 rfl rfl (fun h => (by omega : False).elim) (fun h17 => ?_)
          refine v_aload_n C dL_isTraded_759 rfl 3 rfl ?_
          refine v_bipush C (v := 18) dL_isTraded_760 rfl rfl ?_
          refine v_iload C dL_isTraded_762 rfl 13 rfl ?_
          refine v_iconst C (v := 0) dL_isTraded_764 rfl rfl ?_
          refine v_iconst C (v := 0) dL_isTraded_765 rfl rfl ?_
          refine l_bars C (ax_suit (s := s1) (nm := nm) (nc := nc) (nr := nr) hst hG hW6 hJ1.bs (e := 2) (cd := -1793000000) (e4_2 (mi_of hW6.cnt.2.1 hcl (by omega)) (Or.inr (Or.inl (by rw [tn_nI (show cl < 2 ^ 31 by omega), f1]; decide)))) (by decide) xLIS_2) (B + 20) (D + 274) ⟨⟨Nat.le_refl _, bl hKc (Nat.le_of_ble_eq_true rfl)⟩, Nat.le_refl _, bl hKn (Nat.le_of_ble_eq_true rfl)⟩ rfl dL_isTraded_766 rfl ?_
          refine v_if_eq C (t := 776) dL_isTraded_769 rfl rfl (fun h => absurd h (by decide)) (fun _ => ?_)
          refine v_iconst C (v := 1) dL_isTraded_772 rfl rfl ?_
          refine v_goto C (q := 777) dL_isTraded_773 rfl ?_
          exact v_zret C rfl (bl hKc (Nat.le_of_ble_eq_true rfl)) (bl hKn (Nat.le_of_ble_eq_true rfl)) dL_isTraded_777 ⟨rfl, _, _, _, _, _, hW6, hJ1.mono (by omega), hT1, by omega, by omega⟩
        · skip
          refine v_iload C dL_isTraded_725 rfl 0 rfl ?_
          refine v_iload C dL_isTraded_727 rfl 1 rfl ?_
          refine v_icN_ne C (t := 776) mm (tn (s 16 (q - 1))) rfl rfl (by omega) (by omega) dL_isTraded_729 rfl rfl (fun h => (by omega : False).elim) (fun h18 => ?_)
          refine v_aload_n C dL_isTraded_732 rfl 3 rfl ?_
          refine v_iload C dL_isTraded_733 rfl 2 rfl ?_
          refine v_iconst C (v := 3) dL_isTraded_735 rfl rfl ?_
          refine q_m3 C hW6 hJ1 (i := q - 1) (by omega) (B + 11) (D + 143) ⟨⟨Nat.le_refl _, bl hKc (Nat.le_of_ble_eq_true rfl)⟩, Nat.le_refl _, bl hKn (Nat.le_of_ble_eq_true rfl)⟩ rfl dL_isTraded_736 rfl (fun b19 => ?_)
          refine v_iload C dL_isTraded_739 rfl 1 rfl ?_
          refine v_iload C dL_isTraded_741 rfl 0 rfl ?_
          refine v_isubN C (tn (s 16 (q - 1))) mm (by omega) rfl rfl dL_isTraded_743 rfl ?_
          refine v_icN_ne C (t := 776) (tn (s1 16 (q - 1))) ((tn (s 16 (q - 1))) - mm) rfl rfl (by omega) (by omega) dL_isTraded_744 rfl rfl (fun h => (by omega : False).elim) (fun h20 => ?_)
          refine v_aload_n C dL_isTraded_747 rfl 3 rfl ?_
          refine v_iload C dL_isTraded_748 rfl 13 rfl ?_
          refine v_iconst C (v := 0) dL_isTraded_750 rfl rfl ?_
          refine q_c0 C hW6 hJ1 (i := cl) (by omega) (B + 13) (D + 155) ⟨⟨Nat.le_refl _, bl hKc (Nat.le_of_ble_eq_true rfl)⟩, Nat.le_refl _, bl hKn (Nat.le_of_ble_eq_true rfl)⟩ rfl dL_isTraded_751 rfl (fun b21 => ?_)
          refine v_iload C dL_isTraded_754 rfl 14 rfl ?_
          refine v_icN_ne C (t := 776) (tn (s1 22 cl)) (tn (s 22 cl)) rfl rfl (by omega) (by omega) dL_isTraded_756 rfl rfl (fun h => (by omega : False).elim) (fun h22 => ?_)
          refine v_aload_n C dL_isTraded_759 rfl 3 rfl ?_
          refine v_bipush C (v := 18) dL_isTraded_760 rfl rfl ?_
          refine v_iload C dL_isTraded_762 rfl 13 rfl ?_
          refine v_iconst C (v := 0) dL_isTraded_764 rfl rfl ?_
          refine v_iconst C (v := 0) dL_isTraded_765 rfl rfl ?_
          refine l_bars C (ax_suit (s := s1) (nm := nm) (nc := nc) (nr := nr) hst hG hW6 hJ1.bs (e := 2) (cd := -1793000000) (e4_2 (mi_of hW6.cnt.2.1 hcl (by omega)) (Or.inr (Or.inl (by rw [tn_nI (show cl < 2 ^ 31 by omega), f1]; decide)))) (by decide) xLIS_2) (B + 20) (D + 274) ⟨⟨Nat.le_refl _, bl hKc (Nat.le_of_ble_eq_true rfl)⟩, Nat.le_refl _, bl hKn (Nat.le_of_ble_eq_true rfl)⟩ rfl dL_isTraded_766 rfl ?_
          refine v_if_eq C (t := 776) dL_isTraded_769 rfl rfl (fun h => absurd h (by decide)) (fun _ => ?_)
          refine v_iconst C (v := 1) dL_isTraded_772 rfl rfl ?_
          refine v_goto C (q := 777) dL_isTraded_773 rfl ?_
          exact v_zret C rfl (bl hKc (Nat.le_of_ble_eq_true rfl)) (bl hKn (Nat.le_of_ble_eq_true rfl)) dL_isTraded_777 ⟨rfl, _, _, _, _, _, hW6, hJ1.mono (by omega), hT1, by omega, by omega⟩

theorem c_L_isTraded {l : Launch} {G : GG} {w : va_W} {r : Nat → Nat} {s t : SS} {nm nc nr k X0 how : Nat} (hst : l.stackTraces = false) (hG : GOK G) (hk : k ≤ 130) (hT : K9 s t nm nc nr k) (hX : X0 < 100000000) (hhow : how < 46) (hnm : 0 < nm) (hW : Wd G r s t nm nc nr w) (hJ : Js s nm nc nr k) : Mth l yL_isTraded cL_isTraded 17 (Option.some Jvm.ClassFile.FieldType.boolean) r_L_isTraded G w [.ref (r 4), .ref (r 0), .ref (r 3), .int (nI how), .int (nI X0)] (fun v w1 => v = some (.int 1) ∧ Nxt G r nm (k + 1) w1) nX := by
  refine mth_of rfl (Nat.le_of_ble_eq_true rfl) hst hG (fun X hX0 C0 => ?_)
  subst hX0
  have C : Cx X G cL_isTraded 17 RL (Option.some Jvm.ClassFile.FieldType.boolean) r_L_isTraded "isTraded" [] := C0
  clear C0
  show V X G 17 w 0 0 _ 0 [(0, .ref (r 4)), (1, .ref (r 0)), (2, .ref (r 3)), (3, .int (nI how)), (4, .int (nI X0))] []
  have hc : r_L_isTraded.cells = 30 := rfl
  have hd : r_L_isTraded.slots = 322 := rfl
  refine sg_trd_0 C hW hJ hk hT hX hhow hnm (by omega) (by omega) (fun mi hmi ot hot zz hzz => ?_) (fun mi hmi ot hot zz hzz => ?_) (fun mi hmi ot hot zz hzz => ?_)
  · refine sg_trd_B0 C hW hJ hk hT hX hhow hnm hmi hot hzz (by omega) (by omega) (fun i0 hi0 => ?_)
    exact sg_trd_B1 C hW hJ hk hT hX hhow hnm hmi hot hzz hi0 (by omega) (by omega)
  · exact sg_trd_E C hW hJ hk hT hX hhow hnm hmi hot hzz (by omega) (by omega)
  · refine sg_trd_C0 C hW hJ hk hT hX hhow hnm hmi hot hzz (by omega) (by omega) (fun cl hcl => ?_) (fun cl hcl => ?_)
    · refine sg_trd_T0 C hW hJ hk hT hX hhow hnm hmi hot hzz hcl (by omega) (by omega) (fun pa hpa => ?_)
      exact sg_trd_T1 C hW hJ hk hT hX hhow hnm hmi hot hzz hcl hpa (by omega) (by omega)
    · obtain ⟨q, hq, hq1, -⟩ := (hJ.2.2.2.2.2.2.2.1 cl hcl).1
      have hq2 : t 3 (30 + cl) = nI q := (hT.2.2.2.2.1 cl hcl).2.trans (by rw [hq1, Int32.sub_add_cancel])
      exact sg_trd_U C hW hJ hk hT hX hhow hnm hmi hot hzz hcl hq hq1 hq2 (by omega) (by omega)
