abbrev r_L_isDug : Room := { frames := 12, cells := 44, slots := 418, locals := 224 }
theorem sg_dug_0 {X : XS} {G : GG} {w : va_W} {Q : State → Prop} {r : Nat → Nat} {s t : SS} {nm nc nr k B D : Nat} {X0 how : Nat} (C : Cx X G cL_isDug 23 RL (Option.some Jvm.ClassFile.FieldType.boolean) r_L_isDug "isDug" []) (hW : Wd G r s t nm nc nr w) (hJ : Js s nm nc nr k) (hk : k ≤ 130) (hT : K9 s t nm nc nr k) (hX : X0 < 100000000) (hhow : how < 46) (hnm : 0 < nm) (hKc : B + 2 ≤ r_L_isDug.cells) (hKn : D + 12 ≤ r_L_isDug.slots) (kk0 : ∀ mi, mi < nm → ∀ yy, yy < 100000000 → V X G 23 w (B + 2) (D + 12) Q 38 [(0, .ref (r 4)), (1, .ref (r 0)), (2, .ref (r 2)), (3, .int (nI (how))), (4, .int (nI (X0))), (5, .int (nI (mi))), (6, .int (nI (yy))), (7, .int (bI (tn (s 17 mi) = 0)))] []) (kk1 : ∀ mi, mi < nm → ∀ yy, yy < 100000000 → V X G 23 w (B + 2) (D + 12) Q 529 [(0, .ref (r 4)), (1, .ref (r 0)), (2, .ref (r 2)), (3, .int (nI (how))), (4, .int (nI (X0))), (5, .int (nI (mi))), (6, .int (nI (yy))), (7, .int (bI (tn (s 17 mi) = 0)))] []) : V X G 23 w B D Q 0 [(0, .ref (r 4)), (1, .ref (r 0)), (2, .ref (r 2)), (3, .int (nI (how))), (4, .int (nI (X0)))] [] := by
  have hst : X.2.1.stackTraces = false := C.2.2.2.2.2.1
  have hG : GOK G := C.2.2.2.2.2.2.2.2.2.1
  have hm := hJ.1.1
  refine v_iload C dL_isDug_0 rfl 4 rfl ?_
  refine v_aload_n C dL_isDug_2 rfl 1 rfl ?_
  refine v_iconst C (v := 0) dL_isDug_3 rfl rfl ?_
  refine v_mld C hW 0 (by decide) 0 (show 0 < 6 by omega) dL_isDug_4 rfl ?_
  refine xx_top (y := nI (nm)) hT.1.1 ?_
  refine v_iremN C X0 nm rfl rfl (by omega) (by omega) (by omega) dL_isDug_5 rfl ?_
  have hmi : X0 % nm < nm := Nat.mod_lt _ hnm
  generalize X0 % nm = mi at hmi ⊢
  refine v_istore C (lv1 := [(5, .int (nI (mi))), (0, .ref (r 4)), (1, .ref (r 0)), (2, .ref (r 2)), (3, .int (nI (how))), (4, .int (nI (X0)))]) dL_isDug_6 rfl (by decide) rfl ?_
  refine v_iload C dL_isDug_8 rfl 5 rfl ?_
  refine v_bipush C (v := 12) dL_isDug_10 rfl rfl ?_
  refine v_idivN C X0 12 rfl rfl (by omega) (by omega) (by omega) dL_isDug_12 rfl ?_
  have hyy : X0 / 12 < 100000000 := by omega
  generalize X0 / 12 = yy at hyy ⊢
  refine v_istore C (lv1 := [(6, .int (nI (yy))), (5, .int (nI (mi))), (0, .ref (r 4)), (1, .ref (r 0)), (2, .ref (r 2)), (3, .int (nI (how))), (4, .int (nI (X0)))]) dL_isDug_13 rfl (by decide) rfl ?_
  refine v_aload_n C dL_isDug_15 rfl 2 rfl ?_
  refine v_iload C dL_isDug_16 rfl 1 rfl ?_
  refine v_iconst C (v := 4) dL_isDug_18 rfl rfl ?_
  refine q_m4 C hW hJ (i := mi) (by omega) (B + 2) (D + 12) ⟨⟨Nat.le_refl _, bl hKc (Nat.le_of_ble_eq_true rfl)⟩, Nat.le_refl _, bl hKn (Nat.le_of_ble_eq_true rfl)⟩ rfl dL_isDug_19 rfl (fun b1 => ?_)
  refine xx_sel (P := (tn (s 17 mi)) = 0) 30 [] ?_ (fun jj => ?_)
  · skip
    refine v_istore C (lv1 := [(7, .int (bI ((tn (s 17 mi)) = 0))), (6, .int (nI (yy))), (5, .int (nI (mi))), (0, .ref (r 4)), (1, .ref (r 0)), (2, .ref (r 2)), (3, .int (nI (how))), (4, .int (nI (X0)))]) dL_isDug_30 rfl (by decide) rfl ?_
    refine v_iload_n C dL_isDug_32 rfl 6 rfl ?_
    refine v_bipush C (v := 9) dL_isDug_33 rfl rfl ?_
    refine v_icN_ge C (t := 529) how 9 rfl rfl (by omega) (by omega) dL_isDug_35 rfl rfl (fun h3 => ?_) (fun h3 => ?_)
    · skip
      refine xx_lv [3, 4, 5, 6, 7, 2, 1, 0] (lv' := [(0, .ref (r 4)), (1, .ref (r 0)), (2, .ref (r 2)), (3, .int (nI (how))), (4, .int (nI (X0))), (5, .int (nI (mi))), (6, .int (nI (yy))), (7, .int (bI (tn (s 17 mi) = 0)))]) rfl ?_
      exact xx_mono (bm (Nat.le_of_ble_eq_true rfl)) (bm (Nat.le_of_ble_eq_true rfl)) (kk1 mi hmi yy hyy)
    · skip
      refine xx_lv [3, 4, 5, 6, 7, 2, 1, 0] (lv' := [(0, .ref (r 4)), (1, .ref (r 0)), (2, .ref (r 2)), (3, .int (nI (how))), (4, .int (nI (X0))), (5, .int (nI (mi))), (6, .int (nI (yy))), (7, .int (bI (tn (s 17 mi) = 0)))]) rfl ?_
      exact xx_mono (bm (Nat.le_of_ble_eq_true rfl)) (bm (Nat.le_of_ble_eq_true rfl)) (kk0 mi hmi yy hyy)
  refine v_ifN_ne C (t := 29) (tn (s 17 mi)) rfl (by omega) dL_isDug_22 rfl rfl (fun h2 => ?_) (fun h2 => ?_)
  · skip
    refine v_iconst C (v := 0) dL_isDug_29 rfl rfl ?_
    exact jj _ (bI_f (by first | assumption | omega)).symm
  · skip
    refine v_iconst C (v := 1) dL_isDug_25 rfl rfl ?_
    refine v_goto C (q := 30) dL_isDug_26 rfl ?_
    exact jj _ (bI_t (by first | assumption | omega)).symm

theorem sg_dug_D0 {X : XS} {G : GG} {w : va_W} {Q : State → Prop} {r : Nat → Nat} {s t : SS} {nm nc nr k B D : Nat} {X0 how : Nat} {mi yy : Nat} (C : Cx X G cL_isDug 23 RL (Option.some Jvm.ClassFile.FieldType.boolean) r_L_isDug "isDug" []) (hW : Wd G r s t nm nc nr w) (hJ : Js s nm nc nr k) (hk : k ≤ 130) (hT : K9 s t nm nc nr k) (hX : X0 < 100000000) (hhow : how < 46) (hnm : 0 < nm) (hmi : mi < nm) (hyy : yy < 100000000) (hKc : B + 6 ≤ r_L_isDug.cells) (hKn : D + 36 ≤ r_L_isDug.slots) (kk : ∀ ce, ce < 40 → ∀ it, it < nm → ∀ gg, gg < 4 → V X G 23 w (B + 6) (D + 36) Q 156 [(0, .ref (r 4)), (1, .ref (r 0)), (2, .ref (r 2)), (10, .int (nI (ce))), (11, .int (nI (it))), (12, .int (nI (gg)))] []) : V X G 23 w B D Q 38 [(0, .ref (r 4)), (1, .ref (r 0)), (2, .ref (r 2)), (3, .int (nI (how))), (4, .int (nI (X0))), (5, .int (nI (mi))), (6, .int (nI (yy))), (7, .int (bI (tn (s 17 mi) = 0)))] [] := by
  have hst : X.2.1.stackTraces = false := C.2.2.2.2.2.1
  have hG : GOK G := C.2.2.2.2.2.2.2.2.2.1
  have hm := hJ.1.1
  refine v_aload_n C dL_isDug_38 rfl 1 rfl ?_
  refine v_iconst C (v := 1) dL_isDug_39 rfl rfl ?_
  refine v_mld C hW 0 (by decide) 1 (show 1 < 6 by omega) dL_isDug_40 rfl ?_
  refine xx_top (y := nI (nc)) hT.1.2.1 ?_
  refine v_ifN_ne C (t := 48) nc rfl (by omega) dL_isDug_41 rfl rfl (fun h1 => ?_) (fun h1 => ?_)
  · skip
    refine v_iload C dL_isDug_48 rfl 6 rfl ?_
    refine v_aload_n C dL_isDug_50 rfl 1 rfl ?_
    refine v_iconst C (v := 1) dL_isDug_51 rfl rfl ?_
    refine v_mld C hW 0 (by decide) 1 (show 1 < 6 by omega) dL_isDug_52 rfl ?_
    refine xx_top (y := nI (nc)) hT.1.2.1 ?_
    refine v_iremN C yy nc rfl rfl (by omega) (by omega) (by omega) dL_isDug_53 rfl ?_
    have hcl : yy % nc < nc := Nat.mod_lt _ (by omega)
    generalize yy % nc = cl at hcl ⊢
    have h23 := hJ.c23 hcl
    have h22 := hJ.c22 hcl
    refine v_istore C (lv1 := [(8, .int (nI (cl))), (0, .ref (r 4)), (1, .ref (r 0)), (2, .ref (r 2)), (3, .int (nI (how))), (4, .int (nI (X0))), (5, .int (nI (mi))), (6, .int (nI (yy))), (7, .int (bI (tn (s 17 mi) = 0)))]) dL_isDug_54 rfl (by decide) rfl ?_
    refine v_iload C dL_isDug_56 rfl 0 rfl ?_
    refine v_if_lt C (t := 75) dL_isDug_58 rfl rfl (fun h => absurd h (nI_pos (by omega))) (fun _ => ?_)
    refine v_iload C dL_isDug_61 rfl 7 rfl ?_
    refine v_bipush C (v := 30) dL_isDug_63 rfl rfl ?_
    refine v_idivN C yy 30 rfl rfl (by omega) (by omega) (by omega) dL_isDug_65 rfl ?_
    refine v_iconst C (v := 4) dL_isDug_66 rfl rfl ?_
    refine v_iremN C (yy / 30) 4 rfl rfl (by omega) (by omega) (by omega) dL_isDug_67 rfl ?_
    refine xx_sel (P := 0 < ((yy / 30) % 4)) 76 [] ?_ (fun jj => ?_)
    · skip
      refine v_istore C (lv1 := [(9, .int (bI (0 < ((yy / 30) % 4)))), (8, .int (nI (cl))), (0, .ref (r 4)), (1, .ref (r 0)), (2, .ref (r 2)), (3, .int (nI (how))), (4, .int (nI (X0))), (5, .int (nI (mi))), (6, .int (nI (yy))), (7, .int (bI (tn (s 17 mi) = 0)))]) dL_isDug_76 rfl (by decide) rfl ?_
      refine v_iload C dL_isDug_78 rfl 0 rfl ?_
      refine v_ifB_eq C (t := 107) dL_isDug_80 rfl rfl (fun h3 => ?_) (fun h3 => ?_)
      · skip
        refine v_iload C dL_isDug_107 rfl 8 rfl ?_
        refine v_bipush C (v := 30) dL_isDug_109 rfl rfl ?_
        refine v_idivN C yy 30 rfl rfl (by omega) (by omega) (by omega) dL_isDug_111 rfl ?_
        refine v_bipush C (v := 40) dL_isDug_112 rfl rfl ?_
        refine v_iremN C (yy / 30) 40 rfl rfl (by omega) (by omega) (by omega) dL_isDug_114 rfl ?_
        refine v_istore C (lv1 := [(10, .int (nI ((yy / 30) % 40))), (9, .int (bI (0 < ((yy / 30) % 4)))), (8, .int (nI (cl))), (0, .ref (r 4)), (1, .ref (r 0)), (2, .ref (r 2)), (3, .int (nI (how))), (4, .int (nI (X0))), (5, .int (nI (mi))), (6, .int (nI (yy))), (7, .int (bI (tn (s 17 mi) = 0)))]) dL_isDug_115 rfl (by decide) rfl ?_
        refine v_iload C dL_isDug_117 rfl 1 rfl ?_
        refine v_ifB_eq C (t := 142) dL_isDug_119 rfl rfl (fun _ => ?_) (fun h => absurd h h3)
        refine v_iload C dL_isDug_142 rfl 8 rfl ?_
        refine v_istore C (lv1 := [(11, .int (nI (mi))), (10, .int (nI ((yy / 30) % 40))), (9, .int (bI (0 < ((yy / 30) % 4)))), (8, .int (nI (cl))), (0, .ref (r 4)), (1, .ref (r 0)), (2, .ref (r 2)), (3, .int (nI (how))), (4, .int (nI (X0))), (5, .int (nI (mi))), (6, .int (nI (yy))), (7, .int (bI (tn (s 17 mi) = 0)))]) dL_isDug_144 rfl (by decide) rfl ?_
        refine v_iload C dL_isDug_146 rfl 10 rfl ?_
        refine v_sipush C (v := 200) dL_isDug_148 rfl rfl ?_
        refine v_idivN C yy 200 rfl rfl (by omega) (by omega) (by omega) dL_isDug_151 rfl ?_
        refine v_iconst C (v := 4) dL_isDug_152 rfl rfl ?_
        refine v_iremN C (yy / 200) 4 rfl rfl (by omega) (by omega) (by omega) dL_isDug_153 rfl ?_
        refine v_istore C (lv1 := [(12, .int (nI ((yy / 200) % 4))), (11, .int (nI (mi))), (10, .int (nI ((yy / 30) % 40))), (9, .int (bI (0 < ((yy / 30) % 4)))), (8, .int (nI (cl))), (0, .ref (r 4)), (1, .ref (r 0)), (2, .ref (r 2)), (3, .int (nI (how))), (4, .int (nI (X0))), (5, .int (nI (mi))), (6, .int (nI (yy))), (7, .int (bI (tn (s 17 mi) = 0)))]) dL_isDug_154 rfl (by decide) rfl ?_
        refine xx_lv [5, 6, 7, 2, 1, 0] (lv' := [(0, .ref (r 4)), (1, .ref (r 0)), (2, .ref (r 2)), (10, .int (nI ((yy / 30) % 40))), (11, .int (nI (mi))), (12, .int (nI ((yy / 200) % 4)))]) rfl ?_
        exact xx_mono (Nat.le_add_right _ _) (Nat.le_add_right _ _) (kk _ (show (yy / 30) % 40 < 40 by omega) _ (show mi < nm by omega) _ (show (yy / 200) % 4 < 4 by omega))
      · skip
        refine v_aload_n C dL_isDug_83 rfl 2 rfl ?_
        refine v_iload C dL_isDug_84 rfl 1 rfl ?_
        refine v_iconst C (v := 1) dL_isDug_86 rfl rfl ?_
        refine q_c1 C hW hJ (i := cl) (by omega) (B + 2) (D + 12) ⟨⟨Nat.le_refl _, bl hKc (Nat.le_of_ble_eq_true rfl)⟩, Nat.le_refl _, bl hKn (Nat.le_of_ble_eq_true rfl)⟩ rfl dL_isDug_87 rfl (fun b4 => ?_)
        refine v_iload C dL_isDug_90 rfl 8 rfl ?_
        refine v_bipush C (v := 120) dL_isDug_92 rfl rfl ?_
        refine v_idivN C yy 120 rfl rfl (by omega) (by omega) (by omega) dL_isDug_94 rfl ?_
        refine v_aload_n C dL_isDug_95 rfl 2 rfl ?_
        refine v_iload C dL_isDug_96 rfl 1 rfl ?_
        refine v_iconst C (v := 2) dL_isDug_98 rfl rfl ?_
        refine q_c2 C hW hJ (i := cl) (by omega) (B + 4) (D + 24) ⟨⟨Nat.le_refl _, bl hKc (Nat.le_of_ble_eq_true rfl)⟩, Nat.le_refl _, bl hKn (Nat.le_of_ble_eq_true rfl)⟩ rfl dL_isDug_99 rfl (fun b5 => ?_)
        have hmod := Nat.mod_lt (yy / 120) (show 0 < tn (s 24 cl) by omega)
        refine v_iremN C (yy / 120) (tn (s 24 cl)) rfl rfl (by omega) (by omega) (by omega) dL_isDug_102 rfl ?_
        refine v_iaddN C (tn (s 23 cl)) ((yy / 120) % (tn (s 24 cl))) rfl rfl dL_isDug_103 rfl ?_
        refine v_goto C (q := 115) dL_isDug_104 rfl ?_
        refine v_istore C (lv1 := [(10, .int (nI ((tn (s 23 cl)) + ((yy / 120) % (tn (s 24 cl)))))), (9, .int (bI (0 < ((yy / 30) % 4)))), (8, .int (nI (cl))), (0, .ref (r 4)), (1, .ref (r 0)), (2, .ref (r 2)), (3, .int (nI (how))), (4, .int (nI (X0))), (5, .int (nI (mi))), (6, .int (nI (yy))), (7, .int (bI (tn (s 17 mi) = 0)))]) dL_isDug_115 rfl (by decide) rfl ?_
        refine v_iload C dL_isDug_117 rfl 1 rfl ?_
        refine v_ifB_eq C (t := 142) dL_isDug_119 rfl rfl (fun h => absurd h3 h) (fun _ => ?_)
        refine v_iload C dL_isDug_122 rfl 9 rfl ?_
        refine v_bipush C (v := 50) dL_isDug_124 rfl rfl ?_
        refine v_idivN C yy 50 rfl rfl (by omega) (by omega) (by omega) dL_isDug_126 rfl ?_
        refine v_iconst C (v := 5) dL_isDug_127 rfl rfl ?_
        refine v_iremN C (yy / 50) 5 rfl rfl (by omega) (by omega) (by omega) dL_isDug_128 rfl ?_
        refine v_ifN_le C (t := 142) ((yy / 50) % 5) rfl (by omega) dL_isDug_129 rfl rfl (fun h6 => ?_) (fun h6 => ?_)
        · skip
          refine v_iload C dL_isDug_142 rfl 8 rfl ?_
          refine v_istore C (lv1 := [(11, .int (nI (mi))), (10, .int (nI ((tn (s 23 cl)) + ((yy / 120) % (tn (s 24 cl)))))), (9, .int (bI (0 < ((yy / 30) % 4)))), (8, .int (nI (cl))), (0, .ref (r 4)), (1, .ref (r 0)), (2, .ref (r 2)), (3, .int (nI (how))), (4, .int (nI (X0))), (5, .int (nI (mi))), (6, .int (nI (yy))), (7, .int (bI (tn (s 17 mi) = 0)))]) dL_isDug_144 rfl (by decide) rfl ?_
          refine v_iload C dL_isDug_146 rfl 10 rfl ?_
          refine v_sipush C (v := 200) dL_isDug_148 rfl rfl ?_
          refine v_idivN C yy 200 rfl rfl (by omega) (by omega) (by omega) dL_isDug_151 rfl ?_
          refine v_iconst C (v := 4) dL_isDug_152 rfl rfl ?_
          refine v_iremN C (yy / 200) 4 rfl rfl (by omega) (by omega) (by omega) dL_isDug_153 rfl ?_
          refine v_istore C (lv1 := [(12, .int (nI ((yy / 200) % 4))), (11, .int (nI (mi))), (10, .int (nI ((tn (s 23 cl)) + ((yy / 120) % (tn (s 24 cl)))))), (9, .int (bI (0 < ((yy / 30) % 4)))), (8, .int (nI (cl))), (0, .ref (r 4)), (1, .ref (r 0)), (2, .ref (r 2)), (3, .int (nI (how))), (4, .int (nI (X0))), (5, .int (nI (mi))), (6, .int (nI (yy))), (7, .int (bI (tn (s 17 mi) = 0)))]) dL_isDug_154 rfl (by decide) rfl ?_
          refine xx_lv [5, 6, 7, 2, 1, 0] (lv' := [(0, .ref (r 4)), (1, .ref (r 0)), (2, .ref (r 2)), (10, .int (nI ((tn (s 23 cl)) + ((yy / 120) % (tn (s 24 cl)))))), (11, .int (nI (mi))), (12, .int (nI ((yy / 200) % 4)))]) rfl ?_
          exact xx_mono (bm (Nat.le_of_ble_eq_true rfl)) (bm (Nat.le_of_ble_eq_true rfl)) (kk _ (show (tn (s 23 cl)) + ((yy / 120) % (tn (s 24 cl))) < 40 by omega) _ (show mi < nm by omega) _ (show (yy / 200) % 4 < 4 by omega))
        · skip
          refine v_aload_n C dL_isDug_132 rfl 3 rfl ?_
          refine v_iload C dL_isDug_133 rfl 2 rfl ?_
          refine v_iconst C (v := 0) dL_isDug_135 rfl rfl ?_
          refine q_c0 C hW hJ (i := cl) (by omega) (B + 6) (D + 36) ⟨⟨Nat.le_refl _, bl hKc (Nat.le_of_ble_eq_true rfl)⟩, Nat.le_refl _, bl hKn (Nat.le_of_ble_eq_true rfl)⟩ rfl dL_isDug_136 rfl (fun b7 => ?_)
          refine v_goto C (q := 144) dL_isDug_139 rfl ?_
          refine v_istore C (lv1 := [(11, .int (nI (tn (s 22 cl)))), (10, .int (nI ((tn (s 23 cl)) + ((yy / 120) % (tn (s 24 cl)))))), (9, .int (bI (0 < ((yy / 30) % 4)))), (8, .int (nI (cl))), (0, .ref (r 4)), (1, .ref (r 0)), (2, .ref (r 2)), (3, .int (nI (how))), (4, .int (nI (X0))), (5, .int (nI (mi))), (6, .int (nI (yy))), (7, .int (bI (tn (s 17 mi) = 0)))]) dL_isDug_144 rfl (by decide) rfl ?_
          refine v_iload C dL_isDug_146 rfl 10 rfl ?_
          refine v_sipush C (v := 200) dL_isDug_148 rfl rfl ?_
          refine v_idivN C yy 200 rfl rfl (by omega) (by omega) (by omega) dL_isDug_151 rfl ?_
          refine v_iconst C (v := 4) dL_isDug_152 rfl rfl ?_
          refine v_iremN C (yy / 200) 4 rfl rfl (by omega) (by omega) (by omega) dL_isDug_153 rfl ?_
          refine v_istore C (lv1 := [(12, .int (nI ((yy / 200) % 4))), (11, .int (nI (tn (s 22 cl)))), (10, .int (nI ((tn (s 23 cl)) + ((yy / 120) % (tn (s 24 cl)))))), (9, .int (bI (0 < ((yy / 30) % 4)))), (8, .int (nI (cl))), (0, .ref (r 4)), (1, .ref (r 0)), (2, .ref (r 2)), (3, .int (nI (how))), (4, .int (nI (X0))), (5, .int (nI (mi))), (6, .int (nI (yy))), (7, .int (bI (tn (s 17 mi) = 0)))]) dL_isDug_154 rfl (by decide) rfl ?_
          refine xx_lv [5, 6, 7, 2, 1, 0] (lv' := [(0, .ref (r 4)), (1, .ref (r 0)), (2, .ref (r 2)), (10, .int (nI ((tn (s 23 cl)) + ((yy / 120) % (tn (s 24 cl)))))), (11, .int (nI (tn (s 22 cl)))), (12, .int (nI ((yy / 200) % 4)))]) rfl ?_
          exact xx_mono (bm (Nat.le_of_ble_eq_true rfl)) (bm (Nat.le_of_ble_eq_true rfl)) (kk _ (show (tn (s 23 cl)) + ((yy / 120) % (tn (s 24 cl))) < 40 by omega) _ (show tn (s 22 cl) < nm by omega) _ (show (yy / 200) % 4 < 4 by omega))
    refine v_ifN_le C (t := 75) ((yy / 30) % 4) rfl (by omega) dL_isDug_68 rfl rfl (fun h2 => ?_) (fun h2 => ?_)
    · skip
      refine v_iconst C (v := 0) dL_isDug_75 rfl rfl ?_
      exact jj _ (bI_f (by first | assumption | omega)).symm
    · skip
      refine v_iconst C (v := 1) dL_isDug_71 rfl rfl ?_
      refine v_goto C (q := 76) dL_isDug_72 rfl ?_
      exact jj _ (bI_t (by first | assumption | omega)).symm
  · skip
    refine v_iconst C (v := (-1)) dL_isDug_44 rfl rfl ?_
    refine v_goto C (q := 54) dL_isDug_45 rfl ?_
    refine v_istore C (lv1 := [(8, .int ((-1))), (0, .ref (r 4)), (1, .ref (r 0)), (2, .ref (r 2)), (3, .int (nI (how))), (4, .int (nI (X0))), (5, .int (nI (mi))), (6, .int (nI (yy))), (7, .int (bI (tn (s 17 mi) = 0)))]) dL_isDug_54 rfl (by decide) rfl ?_
    refine v_iload C dL_isDug_56 rfl 0 rfl ?_
    refine v_if_lt C (t := 75) dL_isDug_58 rfl rfl (fun _ => ?_) (fun h => absurd h (by decide))
    refine v_iconst C (v := 0) dL_isDug_75 rfl rfl ?_
    refine v_istore C (lv1 := [(9, .int (0)), (8, .int ((-1))), (0, .ref (r 4)), (1, .ref (r 0)), (2, .ref (r 2)), (3, .int (nI (how))), (4, .int (nI (X0))), (5, .int (nI (mi))), (6, .int (nI (yy))), (7, .int (bI (tn (s 17 mi) = 0)))]) dL_isDug_76 rfl (by decide) rfl ?_
    refine v_iload C dL_isDug_78 rfl 0 rfl ?_
    refine v_if_eq C (t := 107) dL_isDug_80 rfl rfl (fun _ => ?_) (fun h => absurd h (by decide))
    refine v_iload C dL_isDug_107 rfl 8 rfl ?_
    refine v_bipush C (v := 30) dL_isDug_109 rfl rfl ?_
    refine v_idivN C yy 30 rfl rfl (by omega) (by omega) (by omega) dL_isDug_111 rfl ?_
    refine v_bipush C (v := 40) dL_isDug_112 rfl rfl ?_
    refine v_iremN C (yy / 30) 40 rfl rfl (by omega) (by omega) (by omega) dL_isDug_114 rfl ?_
    refine v_istore C (lv1 := [(10, .int (nI ((yy / 30) % 40))), (9, .int (0)), (8, .int ((-1))), (0, .ref (r 4)), (1, .ref (r 0)), (2, .ref (r 2)), (3, .int (nI (how))), (4, .int (nI (X0))), (5, .int (nI (mi))), (6, .int (nI (yy))), (7, .int (bI (tn (s 17 mi) = 0)))]) dL_isDug_115 rfl (by decide) rfl ?_
    refine v_iload C dL_isDug_117 rfl 1 rfl ?_
    refine v_if_eq C (t := 142) dL_isDug_119 rfl rfl (fun _ => ?_) (fun h => absurd h (by decide))
    refine v_iload C dL_isDug_142 rfl 8 rfl ?_
    refine v_istore C (lv1 := [(11, .int (nI (mi))), (10, .int (nI ((yy / 30) % 40))), (9, .int (0)), (8, .int ((-1))), (0, .ref (r 4)), (1, .ref (r 0)), (2, .ref (r 2)), (3, .int (nI (how))), (4, .int (nI (X0))), (5, .int (nI (mi))), (6, .int (nI (yy))), (7, .int (bI (tn (s 17 mi) = 0)))]) dL_isDug_144 rfl (by decide) rfl ?_
    refine v_iload C dL_isDug_146 rfl 10 rfl ?_
    refine v_sipush C (v := 200) dL_isDug_148 rfl rfl ?_
    refine v_idivN C yy 200 rfl rfl (by omega) (by omega) (by omega) dL_isDug_151 rfl ?_
    refine v_iconst C (v := 4) dL_isDug_152 rfl rfl ?_
    refine v_iremN C (yy / 200) 4 rfl rfl (by omega) (by omega) (by omega) dL_isDug_153 rfl ?_
    refine v_istore C (lv1 := [(12, .int (nI ((yy / 200) % 4))), (11, .int (nI (mi))), (10, .int (nI ((yy / 30) % 40))), (9, .int (0)), (8, .int ((-1))), (0, .ref (r 4)), (1, .ref (r 0)), (2, .ref (r 2)), (3, .int (nI (how))), (4, .int (nI (X0))), (5, .int (nI (mi))), (6, .int (nI (yy))), (7, .int (bI (tn (s 17 mi) = 0)))]) dL_isDug_154 rfl (by decide) rfl ?_
    refine xx_lv [5, 6, 7, 2, 1, 0] (lv' := [(0, .ref (r 4)), (1, .ref (r 0)), (2, .ref (r 2)), (10, .int (nI ((yy / 30) % 40))), (11, .int (nI (mi))), (12, .int (nI ((yy / 200) % 4)))]) rfl ?_
    exact xx_mono (Nat.le_add_right _ _) (Nat.le_add_right _ _) (kk _ (show (yy / 30) % 40 < 40 by omega) _ (show mi < nm by omega) _ (show (yy / 200) % 4 < 4 by omega))

theorem sg_dug_D1 {X : XS} {G : GG} {w : va_W} {Q : State → Prop} {r : Nat → Nat} {s t : SS} {nm nc nr k B D : Nat} {X0 how : Nat} {ce it gg : Nat} (C : Cx X G cL_isDug 23 RL (Option.some Jvm.ClassFile.FieldType.boolean) r_L_isDug "isDug" []) (hW : Wd G r s t nm nc nr w) (hJ : Js s nm nc nr k) (hk : k ≤ 130) (hT : K9 s t nm nc nr k) (hX : X0 < 100000000) (hhow : how < 46) (hnm : 0 < nm) (hce : ce < 40) (hit : it < nm) (hgg : gg < 4) (hKc : B + 1 ≤ r_L_isDug.cells) (hKn : D + 6 ≤ r_L_isDug.slots) (kkA : heldC s (nI ce) nc = -1 → V X G 23 w (B + 1) (D + 6) Q 164 [(0, .ref (r 4)), (1, .ref (r 0)), (2, .ref (r 2)), (10, .int (nI (ce))), (11, .int (nI (it))), (12, .int (nI (gg))), (13, .int ((-1)))] []) (kkB : ∀ hj, hj < nc → heldC s (nI ce) nc = nI hj → V X G 23 w (B + 1) (D + 6) Q 164 [(0, .ref (r 4)), (1, .ref (r 0)), (2, .ref (r 2)), (10, .int (nI (ce))), (11, .int (nI (it))), (12, .int (nI (gg))), (13, .int (nI (hj)))] []) : V X G 23 w B D Q 156 [(0, .ref (r 4)), (1, .ref (r 0)), (2, .ref (r 2)), (10, .int (nI (ce))), (11, .int (nI (it))), (12, .int (nI (gg)))] [] := by
  have hst : X.2.1.stackTraces = false := C.2.2.2.2.2.1
  have hG : GOK G := C.2.2.2.2.2.2.2.2.2.1
  have hm := hJ.1.1
  refine v_aload_n C dL_isDug_156 rfl 0 rfl ?_
  refine v_iload C dL_isDug_157 rfl 3 rfl ?_
  refine q_holds C hW hJ (i := ce) (by omega) (B + 1) (D + 6) ⟨⟨Nat.le_refl _, bl hKc (Nat.le_of_ble_eq_true rfl)⟩, Nat.le_refl _, bl hKn (Nat.le_of_ble_eq_true rfl)⟩ rfl dL_isDug_159 rfl ?_
  rcases held_c hce hm.2.1 hJ.2.2.2.2.2.2.1 with ⟨hh, -⟩ | ⟨hj, hh1, hh, -⟩
  · skip
    refine xx_top (y := (-1)) hh ?_
    refine v_istore C (lv1 := [(13, .int ((-1))), (0, .ref (r 4)), (1, .ref (r 0)), (2, .ref (r 2)), (10, .int (nI (ce))), (11, .int (nI (it))), (12, .int (nI (gg)))]) dL_isDug_162 rfl (by decide) rfl ?_
    refine xx_lv [1, 2, 3, 4, 5, 6, 0] (lv' := [(0, .ref (r 4)), (1, .ref (r 0)), (2, .ref (r 2)), (10, .int (nI (ce))), (11, .int (nI (it))), (12, .int (nI (gg))), (13, .int ((-1)))]) rfl ?_
    exact xx_mono (bm (Nat.le_of_ble_eq_true rfl)) (bm (Nat.le_of_ble_eq_true rfl)) (kkA hh)
  · skip
    refine xx_top (y := nI (hj)) hh ?_
    refine v_istore C (lv1 := [(13, .int (nI (hj))), (0, .ref (r 4)), (1, .ref (r 0)), (2, .ref (r 2)), (10, .int (nI (ce))), (11, .int (nI (it))), (12, .int (nI (gg)))]) dL_isDug_162 rfl (by decide) rfl ?_
    refine xx_lv [1, 2, 3, 4, 5, 6, 0] (lv' := [(0, .ref (r 4)), (1, .ref (r 0)), (2, .ref (r 2)), (10, .int (nI (ce))), (11, .int (nI (it))), (12, .int (nI (gg))), (13, .int (nI (hj)))]) rfl ?_
    exact xx_mono (bm (Nat.le_of_ble_eq_true rfl)) (bm (Nat.le_of_ble_eq_true rfl)) (kkB hj hh1 hh)

theorem sg_dug_D2A {X : XS} {G : GG} {w : va_W} {Q : State → Prop} {r : Nat → Nat} {s t : SS} {nm nc nr k B D : Nat} {X0 how : Nat} {ce it gg : Nat} {wd : Nat} (C : Cx X G cL_isDug 23 RL (Option.some Jvm.ClassFile.FieldType.boolean) r_L_isDug "isDug" []) (hW : Wd G r s t nm nc nr w) (hJ : Js s nm nc nr k) (hk : k ≤ 130) (hT : K9 s t nm nc nr k) (hX : X0 < 100000000) (hhow : how < 46) (hnm : 0 < nm) (hce : ce < 40) (hit : it < nm) (hgg : gg < 4) (hw1 : t 2 it = nI wd) (hw2 : s 19 it = nI wd - 1) (hwd : wd ≤ 5001) (hh : heldC s (nI ce) nc = -1) (hKc : B + 11 ≤ r_L_isDug.cells) (hKn : D + 66 ≤ r_L_isDug.slots) (kk : V X G 23 w (B + 11) (D + 66) Q 299 [(0, .ref (r 4)), (1, .ref (r 0)), (2, .ref (r 2)), (10, .int (nI (ce))), (11, .int (nI (it))), (12, .int (nI (gg))), (13, .int ((-1))), (14, .int (nI (SN (s 9) 40))), (15, .int (nI (tn (s 6 0)))), (16, .int (nI (SN (s 13) nm))), (17, .int (nI (tn (s 13 it)))), (18, .int (nI (PS s it)))] [.int (bI (0 < tn (s 17 it) ∧ ¬ wd = tn (s 0 0) + 1 ∧ gg = 0 ∧ neN gg ≤ IW s nr it))]) : V X G 23 w B D Q 164 [(0, .ref (r 4)), (1, .ref (r 0)), (2, .ref (r 2)), (10, .int (nI (ce))), (11, .int (nI (it))), (12, .int (nI (gg))), (13, .int ((-1)))] [] := by
  have hst : X.2.1.stackTraces = false := C.2.2.2.2.2.1
  have hG : GOK G := C.2.2.2.2.2.2.2.2.2.1
  have hm := hJ.1.1
  have hne := neN_b gg
  have hiw := (hJ.miw it).2
  have h17b := (hJ.m17 hit).2
  have hps := (hJ.mps hit).2
  have hdy := hJ.1.2.1.2
  have h13b := (hJ.m13 hit).2
  refine v_aload_n C dL_isDug_164 rfl 0 rfl ?_
  refine v_iconst C (v := 0) dL_isDug_165 rfl rfl ?_
  refine q_g0 C hW hJ (B + 1) (D + 6) ⟨⟨Nat.le_refl _, bl hKc (Nat.le_of_ble_eq_true rfl)⟩, Nat.le_refl _, bl hKn (Nat.le_of_ble_eq_true rfl)⟩ rfl dL_isDug_166 rfl (fun b1 => ?_)
  refine v_istore C (lv1 := [(14, .int (nI (SN (s 9) 40))), (0, .ref (r 4)), (1, .ref (r 0)), (2, .ref (r 2)), (10, .int (nI (ce))), (11, .int (nI (it))), (12, .int (nI (gg))), (13, .int ((-1)))]) dL_isDug_169 rfl (by decide) rfl ?_
  refine v_aload_n C dL_isDug_171 rfl 1 rfl ?_
  refine v_iconst C (v := 1) dL_isDug_172 rfl rfl ?_
  refine q_g1 C hW hJ (B + 2) (D + 12) ⟨⟨Nat.le_refl _, bl hKc (Nat.le_of_ble_eq_true rfl)⟩, Nat.le_refl _, bl hKn (Nat.le_of_ble_eq_true rfl)⟩ rfl dL_isDug_173 rfl (fun b2 => ?_)
  refine v_istore C (lv1 := [(15, .int (nI (tn (s 6 0)))), (14, .int (nI (SN (s 9) 40))), (0, .ref (r 4)), (1, .ref (r 0)), (2, .ref (r 2)), (10, .int (nI (ce))), (11, .int (nI (it))), (12, .int (nI (gg))), (13, .int ((-1)))]) dL_isDug_176 rfl (by decide) rfl ?_
  refine v_aload_n C dL_isDug_178 rfl 2 rfl ?_
  refine v_iconst C (v := 2) dL_isDug_179 rfl rfl ?_
  refine q_g2 C hW hJ (B + 3) (D + 18) ⟨⟨Nat.le_refl _, bl hKc (Nat.le_of_ble_eq_true rfl)⟩, Nat.le_refl _, bl hKn (Nat.le_of_ble_eq_true rfl)⟩ rfl dL_isDug_180 rfl (fun b3 => ?_)
  refine v_istore C (lv1 := [(16, .int (nI (SN (s 13) nm))), (15, .int (nI (tn (s 6 0)))), (14, .int (nI (SN (s 9) 40))), (0, .ref (r 4)), (1, .ref (r 0)), (2, .ref (r 2)), (10, .int (nI (ce))), (11, .int (nI (it))), (12, .int (nI (gg))), (13, .int ((-1)))]) dL_isDug_183 rfl (by decide) rfl ?_
  refine v_aload_n C dL_isDug_185 rfl 3 rfl ?_
  refine v_iload C dL_isDug_186 rfl 7 rfl ?_
  refine v_iconst C (v := 0) dL_isDug_188 rfl rfl ?_
  refine q_m0 C hW hJ (i := it) (by omega) (B + 5) (D + 30) ⟨⟨Nat.le_refl _, bl hKc (Nat.le_of_ble_eq_true rfl)⟩, Nat.le_refl _, bl hKn (Nat.le_of_ble_eq_true rfl)⟩ rfl dL_isDug_189 rfl (fun b4 => ?_)
  refine v_istore C (lv1 := [(17, .int (nI (tn (s 13 it)))), (16, .int (nI (SN (s 13) nm))), (15, .int (nI (tn (s 6 0)))), (14, .int (nI (SN (s 9) 40))), (0, .ref (r 4)), (1, .ref (r 0)), (2, .ref (r 2)), (10, .int (nI (ce))), (11, .int (nI (it))), (12, .int (nI (gg))), (13, .int ((-1)))]) dL_isDug_192 rfl (by decide) rfl ?_
  refine v_aload_n C dL_isDug_194 rfl 4 rfl ?_
  refine v_iload C dL_isDug_195 rfl 8 rfl ?_
  refine v_bipush C (v := 7) dL_isDug_197 rfl rfl ?_
  refine q_m7 C hW hJ (i := it) (by omega) (B + 7) (D + 42) ⟨⟨Nat.le_refl _, bl hKc (Nat.le_of_ble_eq_true rfl)⟩, Nat.le_refl _, bl hKn (Nat.le_of_ble_eq_true rfl)⟩ rfl dL_isDug_199 rfl (fun b5 => ?_)
  refine v_istore C (lv1 := [(18, .int (nI (PS s it))), (17, .int (nI (tn (s 13 it)))), (16, .int (nI (SN (s 13) nm))), (15, .int (nI (tn (s 6 0)))), (14, .int (nI (SN (s 9) 40))), (0, .ref (r 4)), (1, .ref (r 0)), (2, .ref (r 2)), (10, .int (nI (ce))), (11, .int (nI (it))), (12, .int (nI (gg))), (13, .int ((-1)))]) dL_isDug_202 rfl (by decide) rfl ?_
  refine v_aload_n C dL_isDug_204 rfl 5 rfl ?_
  refine v_iload C dL_isDug_205 rfl 9 rfl ?_
  refine v_iconst C (v := 4) dL_isDug_207 rfl rfl ?_
  refine q_m4 C hW hJ (i := it) (by omega) (B + 9) (D + 54) ⟨⟨Nat.le_refl _, bl hKc (Nat.le_of_ble_eq_true rfl)⟩, Nat.le_refl _, bl hKn (Nat.le_of_ble_eq_true rfl)⟩ rfl dL_isDug_208 rfl (fun b6 => ?_)
  refine v_ifN_le C (t := 298) (tn (s 17 it)) rfl (by omega) dL_isDug_211 rfl rfl (fun h7 => ?_) (fun h7 => ?_)
  · skip
    refine v_iconst C (v := 0) dL_isDug_298 rfl rfl ?_
    refine xx_top (y := bI (0 < tn (s 17 it) ∧ ¬ wd = tn (s 0 0) + 1 ∧ gg = 0 ∧ neN gg ≤ IW s nr it)) (bI_f (by omega)).symm ?_
    refine xx_lv [5, 6, 7, 8, 9, 10, 11, 4, 3, 2, 1, 0] (lv' := [(0, .ref (r 4)), (1, .ref (r 0)), (2, .ref (r 2)), (10, .int (nI (ce))), (11, .int (nI (it))), (12, .int (nI (gg))), (13, .int ((-1))), (14, .int (nI (SN (s 9) 40))), (15, .int (nI (tn (s 6 0)))), (16, .int (nI (SN (s 13) nm))), (17, .int (nI (tn (s 13 it)))), (18, .int (nI (PS s it)))]) rfl ?_
    exact xx_mono (bm (Nat.le_of_ble_eq_true rfl)) (bm (Nat.le_of_ble_eq_true rfl)) (kk)
  · skip
    refine v_aload_n C dL_isDug_214 rfl 7 rfl ?_
    refine v_iload C dL_isDug_215 rfl 9 rfl ?_
    refine v_mld C hW 2 (by decide) it (show it < 24 by omega) dL_isDug_217 rfl ?_
    refine xx_top (y := nI (wd)) hw1 ?_
    refine v_aload_n C dL_isDug_218 rfl 5 rfl ?_
    refine q_day C hW hJ (B + 9) (D + 54) ⟨⟨Nat.le_refl _, bl hKc (Nat.le_of_ble_eq_true rfl)⟩, Nat.le_refl _, bl hKn (Nat.le_of_ble_eq_true rfl)⟩ rfl dL_isDug_219 rfl (fun b8 => ?_)
    refine v_iconst C (v := 1) dL_isDug_222 rfl rfl ?_
    refine v_iaddN C (tn (s 0 0)) 1 rfl rfl dL_isDug_223 rfl ?_
    refine v_icN_eq C (t := 298) wd ((tn (s 0 0)) + 1) rfl rfl (by omega) (by omega) dL_isDug_224 rfl rfl (fun h9 => ?_) (fun h9 => ?_)
    · skip
      refine v_iconst C (v := 0) dL_isDug_298 rfl rfl ?_
      refine xx_top (y := bI (0 < tn (s 17 it) ∧ ¬ wd = tn (s 0 0) + 1 ∧ gg = 0 ∧ neN gg ≤ IW s nr it)) (bI_f (by omega)).symm ?_
      refine xx_lv [5, 6, 7, 8, 9, 10, 11, 4, 3, 2, 1, 0] (lv' := [(0, .ref (r 4)), (1, .ref (r 0)), (2, .ref (r 2)), (10, .int (nI (ce))), (11, .int (nI (it))), (12, .int (nI (gg))), (13, .int ((-1))), (14, .int (nI (SN (s 9) 40))), (15, .int (nI (tn (s 6 0)))), (16, .int (nI (SN (s 13) nm))), (17, .int (nI (tn (s 13 it)))), (18, .int (nI (PS s it)))]) rfl ?_
      exact xx_mono (bm (Nat.le_of_ble_eq_true rfl)) (bm (Nat.le_of_ble_eq_true rfl)) (kk)
    · skip
      refine v_iload C dL_isDug_227 rfl 11 rfl ?_
      refine v_if_ge C (t := 240) dL_isDug_229 rfl rfl (fun h => absurd h (by decide)) (fun _ => ?_)
      refine v_iload C dL_isDug_232 rfl 10 rfl ?_
      refine v_ifN_ne C (t := 298) gg rfl (by omega) dL_isDug_234 rfl rfl (fun h10 => ?_) (fun h10 => ?_)
      · skip
        refine v_iconst C (v := 0) dL_isDug_298 rfl rfl ?_
        refine xx_top (y := bI (0 < tn (s 17 it) ∧ ¬ wd = tn (s 0 0) + 1 ∧ gg = 0 ∧ neN gg ≤ IW s nr it)) (bI_f (by omega)).symm ?_
        refine xx_lv [5, 6, 7, 8, 9, 10, 11, 4, 3, 2, 1, 0] (lv' := [(0, .ref (r 4)), (1, .ref (r 0)), (2, .ref (r 2)), (10, .int (nI (ce))), (11, .int (nI (it))), (12, .int (nI (gg))), (13, .int ((-1))), (14, .int (nI (SN (s 9) 40))), (15, .int (nI (tn (s 6 0)))), (16, .int (nI (SN (s 13) nm))), (17, .int (nI (tn (s 13 it)))), (18, .int (nI (PS s it)))]) rfl ?_
        exact xx_mono (bm (Nat.le_of_ble_eq_true rfl)) (bm (Nat.le_of_ble_eq_true rfl)) (kk)
      · skip
        refine v_goto C (q := 252) dL_isDug_237 rfl ?_
        refine v_aload_n C dL_isDug_252 rfl 5 rfl ?_
        refine v_iload C dL_isDug_253 rfl 9 rfl ?_
        refine v_iconst C (v := 5) dL_isDug_255 rfl rfl ?_
        refine q_m5 C hW hJ (i := it) (by omega) (B + 11) (D + 66) ⟨⟨Nat.le_refl _, bl hKc (Nat.le_of_ble_eq_true rfl)⟩, Nat.le_refl _, bl hKn (Nat.le_of_ble_eq_true rfl)⟩ rfl dL_isDug_256 rfl (fun b11 => ?_)
        refine v_iload C dL_isDug_259 rfl 10 rfl ?_
        refine v_ifN_ne C (t := 268) gg rfl (by omega) dL_isDug_261 rfl rfl (fun h12 => ?_) (fun h12 => ?_)
        · skip
          refine v_iload C dL_isDug_268 rfl 10 rfl ?_
          refine v_iconst C (v := 1) dL_isDug_270 rfl rfl ?_
          refine v_icN_ne C (t := 278) gg 1 rfl rfl (by omega) (by omega) dL_isDug_271 rfl rfl (fun h13 => ?_) (fun h13 => ?_)
          · skip
            refine v_iload C dL_isDug_278 rfl 10 rfl ?_
            refine v_iconst C (v := 2) dL_isDug_280 rfl rfl ?_
            refine v_icN_ne C (t := 289) gg 2 rfl rfl (by omega) (by omega) dL_isDug_281 rfl rfl (fun h14 => ?_) (fun h14 => ?_)
            · skip
              refine v_bipush C (v := 40) dL_isDug_289 rfl rfl ?_
              refine xx_top (y := nI (neN gg)) (congrArg nI (show 40 = neN gg by unfold neN; first | (rw [if_pos (by omega)]; done) | (rw [if_neg (by omega), if_pos (by omega)]; done) | (rw [if_neg (by omega), if_neg (by omega), if_pos (by omega)]; done) | (rw [if_neg (by omega), if_neg (by omega), if_neg (by omega)]; done))) ?_
              refine xx_sel (P := (neN gg) ≤ (IW s nr it)) 299 [] ?_ (fun jj => ?_)
              · skip
                refine xx_top (y := bI (0 < tn (s 17 it) ∧ ¬ wd = tn (s 0 0) + 1 ∧ gg = 0 ∧ neN gg ≤ IW s nr it)) (bI_iff (by omega)) ?_
                refine xx_lv [5, 6, 7, 8, 9, 10, 11, 4, 3, 2, 1, 0] (lv' := [(0, .ref (r 4)), (1, .ref (r 0)), (2, .ref (r 2)), (10, .int (nI (ce))), (11, .int (nI (it))), (12, .int (nI (gg))), (13, .int ((-1))), (14, .int (nI (SN (s 9) 40))), (15, .int (nI (tn (s 6 0)))), (16, .int (nI (SN (s 13) nm))), (17, .int (nI (tn (s 13 it)))), (18, .int (nI (PS s it)))]) rfl ?_
                exact xx_mono (bm (Nat.le_of_ble_eq_true rfl)) (bm (Nat.le_of_ble_eq_true rfl)) (kk)
              refine v_icN_lt C (t := 298) (IW s nr it) (neN gg) rfl rfl (by omega) (by omega) dL_isDug_291 rfl rfl (fun h15 => ?_) (fun h15 => ?_)
              · skip
                refine v_iconst C (v := 0) dL_isDug_298 rfl rfl ?_
                exact jj _ (bI_f (by first | assumption | omega)).symm
              · skip
                refine v_iconst C (v := 1) dL_isDug_294 rfl rfl ?_
                refine v_goto C (q := 299) dL_isDug_295 rfl ?_
                exact jj _ (bI_t (by first | assumption | omega)).symm
            · skip
              refine v_bipush C (v := 10) dL_isDug_284 rfl rfl ?_
              refine v_goto C (q := 291) dL_isDug_286 rfl ?_
              refine xx_top (y := nI (neN gg)) (congrArg nI (show 10 = neN gg by unfold neN; first | (rw [if_pos (by omega)]; done) | (rw [if_neg (by omega), if_pos (by omega)]; done) | (rw [if_neg (by omega), if_neg (by omega), if_pos (by omega)]; done) | (rw [if_neg (by omega), if_neg (by omega), if_neg (by omega)]; done))) ?_
              refine xx_sel (P := (neN gg) ≤ (IW s nr it)) 299 [] ?_ (fun jj => ?_)
              · skip
                refine xx_top (y := bI (0 < tn (s 17 it) ∧ ¬ wd = tn (s 0 0) + 1 ∧ gg = 0 ∧ neN gg ≤ IW s nr it)) (bI_iff (by omega)) ?_
                refine xx_lv [5, 6, 7, 8, 9, 10, 11, 4, 3, 2, 1, 0] (lv' := [(0, .ref (r 4)), (1, .ref (r 0)), (2, .ref (r 2)), (10, .int (nI (ce))), (11, .int (nI (it))), (12, .int (nI (gg))), (13, .int ((-1))), (14, .int (nI (SN (s 9) 40))), (15, .int (nI (tn (s 6 0)))), (16, .int (nI (SN (s 13) nm))), (17, .int (nI (tn (s 13 it)))), (18, .int (nI (PS s it)))]) rfl ?_
                exact xx_mono (bm (Nat.le_of_ble_eq_true rfl)) (bm (Nat.le_of_ble_eq_true rfl)) (kk)
              refine v_icN_lt C (t := 298) (IW s nr it) (neN gg) rfl rfl (by omega) (by omega) dL_isDug_291 rfl rfl (fun h16 => ?_) (fun h16 => ?_)
              · skip
                refine v_iconst C (v := 0) dL_isDug_298 rfl rfl ?_
                exact jj _ (bI_f (by first | assumption | omega)).symm
              · skip
                refine v_iconst C (v := 1) dL_isDug_294 rfl rfl ?_
                refine v_goto C (q := 299) dL_isDug_295 rfl ?_
                exact jj _ (bI_t (by first | assumption | omega)).symm
          · skip
            refine v_iconst C (v := 2) dL_isDug_274 rfl rfl ?_
            refine v_goto C (q := 291) dL_isDug_275 rfl ?_
            refine xx_top (y := nI (neN gg)) (congrArg nI (show 2 = neN gg by unfold neN; first | (rw [if_pos (by omega)]; done) | (rw [if_neg (by omega), if_pos (by omega)]; done) | (rw [if_neg (by omega), if_neg (by omega), if_pos (by omega)]; done) | (rw [if_neg (by omega), if_neg (by omega), if_neg (by omega)]; done))) ?_
            refine xx_sel (P := (neN gg) ≤ (IW s nr it)) 299 [] ?_ (fun jj => ?_)
            · skip
              refine xx_top (y := bI (0 < tn (s 17 it) ∧ ¬ wd = tn (s 0 0) + 1 ∧ gg = 0 ∧ neN gg ≤ IW s nr it)) (bI_iff (by omega)) ?_
              refine xx_lv [5, 6, 7, 8, 9, 10, 11, 4, 3, 2, 1, 0] (lv' := [(0, .ref (r 4)), (1, .ref (r 0)), (2, .ref (r 2)), (10, .int (nI (ce))), (11, .int (nI (it))), (12, .int (nI (gg))), (13, .int ((-1))), (14, .int (nI (SN (s 9) 40))), (15, .int (nI (tn (s 6 0)))), (16, .int (nI (SN (s 13) nm))), (17, .int (nI (tn (s 13 it)))), (18, .int (nI (PS s it)))]) rfl ?_
              exact xx_mono (bm (Nat.le_of_ble_eq_true rfl)) (bm (Nat.le_of_ble_eq_true rfl)) (kk)
            refine v_icN_lt C (t := 298) (IW s nr it) (neN gg) rfl rfl (by omega) (by omega) dL_isDug_291 rfl rfl (fun h17 => ?_) (fun h17 => ?_)
            · skip
              refine v_iconst C (v := 0) dL_isDug_298 rfl rfl ?_
              exact jj _ (bI_f (by first | assumption | omega)).symm
            · skip
              refine v_iconst C (v := 1) dL_isDug_294 rfl rfl ?_
              refine v_goto C (q := 299) dL_isDug_295 rfl ?_
              exact jj _ (bI_t (by first | assumption | omega)).symm
        · skip
          refine v_iconst C (v := 0) dL_isDug_264 rfl rfl ?_
          refine v_goto C (q := 291) dL_isDug_265 rfl ?_
          refine xx_top (y := nI (neN gg)) (congrArg nI (show 0 = neN gg by unfold neN; first | (rw [if_pos (by omega)]; done) | (rw [if_neg (by omega), if_pos (by omega)]; done) | (rw [if_neg (by omega), if_neg (by omega), if_pos (by omega)]; done) | (rw [if_neg (by omega), if_neg (by omega), if_neg (by omega)]; done))) ?_
          refine xx_sel (P := (neN gg) ≤ (IW s nr it)) 299 [] ?_ (fun jj => ?_)
          · skip
            refine xx_top (y := bI (0 < tn (s 17 it) ∧ ¬ wd = tn (s 0 0) + 1 ∧ gg = 0 ∧ neN gg ≤ IW s nr it)) (bI_iff (by omega)) ?_
            refine xx_lv [5, 6, 7, 8, 9, 10, 11, 4, 3, 2, 1, 0] (lv' := [(0, .ref (r 4)), (1, .ref (r 0)), (2, .ref (r 2)), (10, .int (nI (ce))), (11, .int (nI (it))), (12, .int (nI (gg))), (13, .int ((-1))), (14, .int (nI (SN (s 9) 40))), (15, .int (nI (tn (s 6 0)))), (16, .int (nI (SN (s 13) nm))), (17, .int (nI (tn (s 13 it)))), (18, .int (nI (PS s it)))]) rfl ?_
            exact xx_mono (bm (Nat.le_of_ble_eq_true rfl)) (bm (Nat.le_of_ble_eq_true rfl)) (kk)
          refine v_icN_lt C (t := 298) (IW s nr it) (neN gg) rfl rfl (by omega) (by omega) dL_isDug_291 rfl rfl (fun h18 => ?_) (fun h18 => ?_)
          · skip
            refine v_iconst C (v := 0) dL_isDug_298 rfl rfl ?_
            exact jj _ (bI_f (by first | assumption | omega)).symm
          · skip
            refine v_iconst C (v := 1) dL_isDug_294 rfl rfl ?_
            refine v_goto C (q := 299) dL_isDug_295 rfl ?_
            exact jj _ (bI_t (by first | assumption | omega)).symm

theorem sg_dug_D3A {X : XS} {G : GG} {w : va_W} {r : Nat → Nat} {s t : SS} {nm nc nr k B D : Nat} {X0 how : Nat} {ce it gg : Nat} {wd : Nat} (C : Cx X G cL_isDug 23 RL (Option.some Jvm.ClassFile.FieldType.boolean) r_L_isDug "isDug" []) (hW : Wd G r s t nm nc nr w) (hJ : Js s nm nc nr k) (hk : k ≤ 130) (hT : K9 s t nm nc nr k) (hX : X0 < 100000000) (hhow : how < 46) (hnm : 0 < nm) (hce : ce < 40) (hit : it < nm) (hgg : gg < 4) (hw1 : t 2 it = nI wd) (hw2 : s 19 it = nI wd - 1) (hwd : wd ≤ 5001) (hh : heldC s (nI ce) nc = -1) (hKc : B + 20 ≤ r_L_isDug.cells) (hKn : D + 274 ≤ r_L_isDug.slots)  : V X G 23 w B D (Tg X G r_L_isDug (fun v w1 => v = some (.int 1) ∧ Nxt G r nm (k + 1) w1) nX) 299 [(0, .ref (r 4)), (1, .ref (r 0)), (2, .ref (r 2)), (10, .int (nI (ce))), (11, .int (nI (it))), (12, .int (nI (gg))), (13, .int ((-1))), (14, .int (nI (SN (s 9) 40))), (15, .int (nI (tn (s 6 0)))), (16, .int (nI (SN (s 13) nm))), (17, .int (nI (tn (s 13 it)))), (18, .int (nI (PS s it)))] [.int (bI (0 < tn (s 17 it) ∧ ¬ wd = tn (s 0 0) + 1 ∧ gg = 0 ∧ neN gg ≤ IW s nr it))] := by
  have hst : X.2.1.stackTraces = false := C.2.2.2.2.2.1
  have hG : GOK G := C.2.2.2.2.2.2.2.2.2.1
  have hm := hJ.1.1
  have hps := (hJ.mps hit).2
  have hbb := best_b gg
  have h13b := (hJ.m13 hit).2
  refine v_istore C (lv1 := [(19, .int (bI (0 < tn (s 17 it) ∧ ¬ wd = tn (s 0 0) + 1 ∧ gg = 0 ∧ neN gg ≤ IW s nr it))), (0, .ref (r 4)), (1, .ref (r 0)), (2, .ref (r 2)), (10, .int (nI (ce))), (11, .int (nI (it))), (12, .int (nI (gg))), (13, .int ((-1))), (14, .int (nI (SN (s 9) 40))), (15, .int (nI (tn (s 6 0)))), (16, .int (nI (SN (s 13) nm))), (17, .int (nI (tn (s 13 it)))), (18, .int (nI (PS s it)))]) dL_isDug_299 rfl (by decide) rfl ?_
  refine v_aload_n C dL_isDug_301 rfl 1 rfl ?_
  refine v_bipush C (v := 7) dL_isDug_302 rfl rfl ?_
  refine v_iload C dL_isDug_304 rfl 5 rfl ?_
  refine v_iload C dL_isDug_306 rfl 4 rfl ?_
  refine v_iload C dL_isDug_308 rfl 6 rfl ?_
  refine v_iconst C (v := 0) dL_isDug_310 rfl rfl ?_
  by_cases hcan : 0 < tn (s 17 it) ∧ ¬ wd = tn (s 0 0) + 1 ∧ gg = 0 ∧ neN gg ≤ IW s nr it
  · skip
    have hP_ := P_work hJ hT hk hit hce hgg
    refine l_actK C (ao_work (s := s) (nm := nm) (nc := nc) (nr := nr) hst hG hW hJ.bs (e3_0 ⟨(mi_of hW.cnt.1 hit (by omega)), cell_in hce⟩ (met_in hgg) (fun q => ((wk_A hJ hit hgg hh hw2 hwd).mp q) hcan))) (B + 7) (D + 119) ⟨⟨Nat.le_refl _, bl hKc (Nat.le_of_ble_eq_true rfl)⟩, Nat.le_refl _, bl hKn (Nat.le_of_ble_eq_true rfl)⟩ rfl dL_isDug_311 rfl (fun v_ w2 hv1 => ?_)
    obtain ⟨rfl, hW3⟩ := hv1
    show V X G 23 _ _ _ _ _ _ [.int (workRC s (nI (ce)) (nI (gg)))]
    generalize workUC s nm nc (nI (it)) (nI (ce)) (nI (gg)) = s1 at hP_ hW3
    obtain ⟨got, hR, hbst, hJ1, hT1, f1, f2, f3, ⟨kept, f4, f5, f6⟩, f7, f8, f9⟩ := hP_
    refine xx_top (y := nI (got)) hR ?_
    refine v_istore C (lv1 := [(20, .int (nI (got))), (19, .int (bI (0 < tn (s 17 it) ∧ ¬ wd = tn (s 0 0) + 1 ∧ gg = 0 ∧ neN gg ≤ IW s nr it))), (0, .ref (r 4)), (1, .ref (r 0)), (2, .ref (r 2)), (10, .int (nI (ce))), (11, .int (nI (it))), (12, .int (nI (gg))), (13, .int ((-1))), (14, .int (nI (SN (s 9) 40))), (15, .int (nI (tn (s 6 0)))), (16, .int (nI (SN (s 13) nm))), (17, .int (nI (tn (s 13 it)))), (18, .int (nI (PS s it)))]) dL_isDug_314 rfl (by decide) rfl ?_
    refine v_iload C dL_isDug_316 rfl 1 rfl ?_
    refine v_ifB_ne C (t := 334) dL_isDug_318 rfl rfl (fun _ => ?_) (fun h => absurd hcan h)
    refine v_aload_n C dL_isDug_334 rfl 4 rfl ?_
    refine v_iload C dL_isDug_335 rfl 6 rfl ?_
    refine v_aload_n C dL_isDug_337 rfl 2 rfl ?_
    refine q_day C hW3 hJ1 (B + 7) (D + 119) ⟨⟨Nat.le_refl _, bl hKc (Nat.le_of_ble_eq_true rfl)⟩, Nat.le_refl _, bl hKn (Nat.le_of_ble_eq_true rfl)⟩ rfl dL_isDug_338 rfl (fun b4 => ?_)
    refine v_iconst C (v := 1) dL_isDug_341 rfl rfl ?_
    refine v_iaddN C (tn (s1 0 0)) 1 rfl rfl dL_isDug_342 rfl ?_
    refine xx_top (y := nI (tn (s 0 0) + 1)) (congrArg nI (by omega)) ?_
    refine v_mst C hW3 2 (by decide) it (show it < 24 by omega) dL_isDug_343 rfl (fun w5 hW6 => ?_)
    refine v_aload_n C dL_isDug_344 rfl 3 rfl ?_
    refine v_iconst C (v := 4) dL_isDug_345 rfl rfl ?_
    refine v_iconst C (v := 1) dL_isDug_346 rfl rfl ?_
    refine v_mst C hW6 0 (by decide) 4 (show 4 < 6 by omega) dL_isDug_347 rfl (fun w7 hW8 => ?_)
    refine xx_selI (x := nI (bestN gg)) 384 [] ?_ (fun jj => ?_)
    · skip
      refine v_istore C (lv1 := [(21, .int (nI (bestN gg))), (20, .int (nI (got))), (19, .int (bI (0 < tn (s 17 it) ∧ ¬ wd = tn (s 0 0) + 1 ∧ gg = 0 ∧ neN gg ≤ IW s nr it))), (0, .ref (r 4)), (1, .ref (r 0)), (2, .ref (r 2)), (10, .int (nI (ce))), (11, .int (nI (it))), (12, .int (nI (gg))), (13, .int ((-1))), (14, .int (nI (SN (s 9) 40))), (15, .int (nI (tn (s 6 0)))), (16, .int (nI (SN (s 13) nm))), (17, .int (nI (tn (s 13 it)))), (18, .int (nI (PS s it)))]) dL_isDug_384 rfl (by decide) rfl ?_
      refine v_aload_n C dL_isDug_386 rfl 3 rfl ?_
      refine v_iload C dL_isDug_387 rfl 7 rfl ?_
      refine v_iconst C (v := 0) dL_isDug_389 rfl rfl ?_
      refine q_m0 C hW8 hJ1 (i := it) (by omega) (B + 9) (D + 131) ⟨⟨Nat.le_refl _, bl hKc (Nat.le_of_ble_eq_true rfl)⟩, Nat.le_refl _, bl hKn (Nat.le_of_ble_eq_true rfl)⟩ rfl dL_isDug_390 rfl (fun b9 => ?_)
      refine v_iload C dL_isDug_393 rfl 13 rfl ?_
      refine v_isubN C (tn (s1 13 it)) (tn (s 13 it)) (by omega) rfl rfl dL_isDug_395 rfl ?_
      refine v_istore C (lv1 := [(22, .int (nI ((tn (s1 13 it)) - (tn (s 13 it))))), (21, .int (nI (bestN gg))), (20, .int (nI (got))), (19, .int (bI (0 < tn (s 17 it) ∧ ¬ wd = tn (s 0 0) + 1 ∧ gg = 0 ∧ neN gg ≤ IW s nr it))), (0, .ref (r 4)), (1, .ref (r 0)), (2, .ref (r 2)), (10, .int (nI (ce))), (11, .int (nI (it))), (12, .int (nI (gg))), (13, .int ((-1))), (14, .int (nI (SN (s 9) 40))), (15, .int (nI (tn (s 6 0)))), (16, .int (nI (SN (s 13) nm))), (17, .int (nI (tn (s 13 it)))), (18, .int (nI (PS s it)))]) dL_isDug_396 rfl (by decide) rfl ?_
      refine v_iload C dL_isDug_398 rfl 2 rfl ?_
      refine v_if_lt C (t := 527) dL_isDug_400 rfl rfl (fun h => absurd h (nI_pos (by omega))) (fun _ => ?_)
      refine v_iload C dL_isDug_403 rfl 2 rfl ?_
      refine v_iload C dL_isDug_405 rfl 1 rfl ?_
      refine v_icN_gt C (t := 527) got (bestN gg) rfl rfl (by omega) (by omega) dL_isDug_407 rfl rfl (fun h => (by omega : False).elim) (fun h10 => ?_)
      refine v_aload_n C dL_isDug_410 rfl 4 rfl ?_
      refine v_iconst C (v := 2) dL_isDug_411 rfl rfl ?_
      refine q_g2 C hW8 hJ1 (B + 10) (D + 137) ⟨⟨Nat.le_refl _, bl hKc (Nat.le_of_ble_eq_true rfl)⟩, Nat.le_refl _, bl hKn (Nat.le_of_ble_eq_true rfl)⟩ rfl dL_isDug_412 rfl (fun b11 => ?_)
      refine v_iload C dL_isDug_415 rfl 13 rfl ?_
      refine v_iload C dL_isDug_417 rfl 2 rfl ?_
      refine v_iaddN C (SN (s 13) nm) got rfl rfl dL_isDug_419 rfl ?_
      refine v_icN_ne C (t := 527) (SN (s1 13) nm) ((SN (s 13) nm) + got) rfl rfl (by omega) (by omega) dL_isDug_420 rfl rfl (fun h => (by omega : False).elim) (fun h12 => ?_)
      refine v_aload_n C dL_isDug_423 rfl 4 rfl ?_
      refine v_iconst C (v := 0) dL_isDug_424 rfl rfl ?_
      refine q_g0 C hW8 hJ1 (B + 11) (D + 143) ⟨⟨Nat.le_refl _, bl hKc (Nat.le_of_ble_eq_true rfl)⟩, Nat.le_refl _, bl hKn (Nat.le_of_ble_eq_true rfl)⟩ rfl dL_isDug_425 rfl (fun b13 => ?_)
      refine v_aload_n C dL_isDug_428 rfl 4 rfl ?_
      refine v_iconst C (v := 1) dL_isDug_429 rfl rfl ?_
      refine q_g1 C hW8 hJ1 (B + 12) (D + 149) ⟨⟨Nat.le_refl _, bl hKc (Nat.le_of_ble_eq_true rfl)⟩, Nat.le_refl _, bl hKn (Nat.le_of_ble_eq_true rfl)⟩ rfl dL_isDug_430 rfl (fun b14 => ?_)
      refine v_iaddN C (SN (s1 9) 40) (tn (s1 6 0)) rfl rfl dL_isDug_433 rfl ?_
      refine v_iload C dL_isDug_434 rfl 11 rfl ?_
      refine v_iload C dL_isDug_436 rfl 12 rfl ?_
      refine v_iaddN C (SN (s 9) 40) (tn (s 6 0)) rfl rfl dL_isDug_438 rfl ?_
      refine v_iload C dL_isDug_439 rfl 2 rfl ?_
      refine v_isubN C ((SN (s 9) 40) + (tn (s 6 0))) got (by omega) rfl rfl dL_isDug_441 rfl ?_
      refine v_icN_ne C (t := 527) ((SN (s1 9) 40) + (tn (s1 6 0))) (((SN (s 9) 40) + (tn (s 6 0))) - got) rfl rfl (by omega) (by omega) dL_isDug_442 rfl rfl (fun h => (by omega : False).elim) (fun h15 => ?_)
      refine v_iload C dL_isDug_445 rfl 7 rfl ?_
      refine v_bipush C (v := 39) dL_isDug_447 rfl rfl ?_
      refine v_icN_eq C (t := 462) ce 39 rfl rfl (by omega) (by omega) dL_isDug_449 rfl rfl (fun h16 => ?_) (fun h16 => ?_)
      · skip
        refine v_iload C dL_isDug_462 rfl 0 rfl ?_
        refine v_if_lt C (t := 527) dL_isDug_464 rfl rfl (fun h => absurd h (nI_pos (by omega))) (fun _ => ?_)
        refine v_bipush C (v := 100) dL_isDug_467 rfl rfl ?_
        refine v_iload C dL_isDug_469 rfl 0 rfl ?_
        refine v_imulN C 100 ((tn (s1 13 it)) - (tn (s 13 it))) rfl rfl dL_isDug_471 rfl ?_
        refine v_iload C dL_isDug_472 rfl 2 rfl ?_
        refine v_bipush C (v := 100) dL_isDug_474 rfl rfl ?_
        refine v_iload C dL_isDug_476 rfl 15 rfl ?_
        refine v_isubN C 100 (PS s it) (by omega) rfl rfl dL_isDug_478 rfl ?_
        refine v_imulN C got (100 - (PS s it)) rfl rfl dL_isDug_479 rfl ?_
        refine v_icN_lt C (t := 527) (100 * ((tn (s1 13 it)) - (tn (s 13 it)))) (got * (100 - (PS s it))) rfl rfl (by omega) (by omega) dL_isDug_480 rfl rfl (fun h => (by omega : False).elim) (fun h17 => ?_)
        refine v_iload C dL_isDug_483 rfl 0 rfl ?_
        refine v_iload C dL_isDug_485 rfl 2 rfl ?_
        refine v_icN_gt C (t := 527) ((tn (s1 13 it)) - (tn (s 13 it))) got rfl rfl (by omega) (by omega) dL_isDug_487 rfl rfl (fun h => (by omega : False).elim) (fun h18 => ?_)
        refine v_iload C dL_isDug_490 rfl 10 rfl ?_
        refine v_if_lt C (t := 509) dL_isDug_492 rfl rfl (fun _ => ?_) (fun h => absurd h (by decide))
        refine v_aload_n C dL_isDug_509 rfl 4 rfl ?_
        refine v_bipush C (v := 7) dL_isDug_510 rfl rfl ?_
        refine v_iload C dL_isDug_512 rfl 8 rfl ?_
        refine v_iload C dL_isDug_514 rfl 7 rfl ?_
        refine v_iconst C (v := 0) dL_isDug_516 rfl rfl ?_
        refine l_bars C (ax_work (s := s1) (nm := nm) (nc := nc) (nr := nr) hst hG hW8 hJ1.bs (e := 3) (cd := -1793000000) (e3_3 ⟨mi_of hW8.cnt.1 hit (by omega), cell_in hce⟩ (by decide) (Or.inr (Or.inl (by rw [tn_nI (show it < 2 ^ 31 by omega)]; exact f8)))) (by decide) xL3_3) (B + 19) (D + 268) ⟨⟨Nat.le_refl _, bl hKc (Nat.le_of_ble_eq_true rfl)⟩, Nat.le_refl _, bl hKn (Nat.le_of_ble_eq_true rfl)⟩ rfl dL_isDug_517 rfl ?_
        refine v_if_eq C (t := 527) dL_isDug_520 rfl rfl (fun h => absurd h (by decide)) (fun _ => ?_)
        refine v_iconst C (v := 1) dL_isDug_523 rfl rfl ?_
        refine v_goto C (q := 528) dL_isDug_524 rfl ?_
        exact v_zret C rfl (bl hKc (Nat.le_of_ble_eq_true rfl)) (bl hKn (Nat.le_of_ble_eq_true rfl)) dL_isDug_528 ⟨rfl, _, _, _, _, _, hW8, hJ1.mono (by omega), hT1 _ rfl, by omega, by omega⟩
      · skip
        refine v_aload_n C dL_isDug_452 rfl 4 rfl ?_
        refine v_iconst C (v := 1) dL_isDug_453 rfl rfl ?_
        refine q_g1 C hW8 hJ1 (B + 13) (D + 155) ⟨⟨Nat.le_refl _, bl hKc (Nat.le_of_ble_eq_true rfl)⟩, Nat.le_refl _, bl hKn (Nat.le_of_ble_eq_true rfl)⟩ rfl dL_isDug_454 rfl (fun b19 => ?_)
        refine v_iload C dL_isDug_457 rfl 12 rfl ?_
        refine v_icN_ne C (t := 527) (tn (s1 6 0)) (tn (s 6 0)) rfl rfl (by omega) (by omega) dL_isDug_459 rfl rfl (fun h => (by omega : False).elim) (fun h20 => ?_)
        refine v_iload C dL_isDug_462 rfl 0 rfl ?_
        refine v_if_lt C (t := 527) dL_isDug_464 rfl rfl (fun h => absurd h (nI_pos (by omega))) (fun _ => ?_)
        refine v_bipush C (v := 100) dL_isDug_467 rfl rfl ?_
        refine v_iload C dL_isDug_469 rfl 0 rfl ?_
        refine v_imulN C 100 ((tn (s1 13 it)) - (tn (s 13 it))) rfl rfl dL_isDug_471 rfl ?_
        refine v_iload C dL_isDug_472 rfl 2 rfl ?_
        refine v_bipush C (v := 100) dL_isDug_474 rfl rfl ?_
        refine v_iload C dL_isDug_476 rfl 15 rfl ?_
        refine v_isubN C 100 (PS s it) (by omega) rfl rfl dL_isDug_478 rfl ?_
        refine v_imulN C got (100 - (PS s it)) rfl rfl dL_isDug_479 rfl ?_
        refine v_icN_lt C (t := 527) (100 * ((tn (s1 13 it)) - (tn (s 13 it)))) (got * (100 - (PS s it))) rfl rfl (by omega) (by omega) dL_isDug_480 rfl rfl (fun h => (by omega : False).elim) (fun h21 => ?_)
        refine v_iload C dL_isDug_483 rfl 0 rfl ?_
        refine v_iload C dL_isDug_485 rfl 2 rfl ?_
        refine v_icN_gt C (t := 527) ((tn (s1 13 it)) - (tn (s 13 it))) got rfl rfl (by omega) (by omega) dL_isDug_487 rfl rfl (fun h => (by omega : False).elim) (fun h22 => ?_)
        refine v_iload C dL_isDug_490 rfl 10 rfl ?_
        refine v_if_lt C (t := 509) dL_isDug_492 rfl rfl (fun _ => ?_) (fun h => absurd h (by decide))
        refine v_aload_n C dL_isDug_509 rfl 4 rfl ?_
        refine v_bipush C (v := 7) dL_isDug_510 rfl rfl ?_
        refine v_iload C dL_isDug_512 rfl 8 rfl ?_
        refine v_iload C dL_isDug_514 rfl 7 rfl ?_
        refine v_iconst C (v := 0) dL_isDug_516 rfl rfl ?_
        refine l_bars C (ax_work (s := s1) (nm := nm) (nc := nc) (nr := nr) hst hG hW8 hJ1.bs (e := 3) (cd := -1793000000) (e3_3 ⟨mi_of hW8.cnt.1 hit (by omega), cell_in hce⟩ (by decide) (Or.inr (Or.inl (by rw [tn_nI (show it < 2 ^ 31 by omega)]; exact f8)))) (by decide) xL3_3) (B + 20) (D + 274) ⟨⟨Nat.le_refl _, bl hKc (Nat.le_of_ble_eq_true rfl)⟩, Nat.le_refl _, bl hKn (Nat.le_of_ble_eq_true rfl)⟩ rfl dL_isDug_517 rfl ?_
        refine v_if_eq C (t := 527) dL_isDug_520 rfl rfl (fun h => absurd h (by decide)) (fun _ => ?_)
        refine v_iconst C (v := 1) dL_isDug_523 rfl rfl ?_
        refine v_goto C (q := 528) dL_isDug_524 rfl ?_
        exact v_zret C rfl (bl hKc (Nat.le_of_ble_eq_true rfl)) (bl hKn (Nat.le_of_ble_eq_true rfl)) dL_isDug_528 ⟨rfl, _, _, _, _, _, hW8, hJ1.mono (by omega), hT1 _ rfl, by omega, by omega⟩
    · skip
      refine v_iload C dL_isDug_348 rfl 7 rfl ?_
      refine v_ifN_ne C (t := 358) gg rfl (by omega) dL_isDug_350 rfl rfl (fun h23 => ?_) (fun h23 => ?_)
      · skip
        refine v_iload C dL_isDug_358 rfl 7 rfl ?_
        refine v_iconst C (v := 1) dL_isDug_360 rfl rfl ?_
        refine v_icN_ne C (t := 369) gg 1 rfl rfl (by omega) (by omega) dL_isDug_361 rfl rfl (fun h24 => ?_) (fun h24 => ?_)
        · skip
          refine v_iload C dL_isDug_369 rfl 7 rfl ?_
          refine v_iconst C (v := 2) dL_isDug_371 rfl rfl ?_
          refine v_icN_ne C (t := 381) gg 2 rfl rfl (by omega) (by omega) dL_isDug_372 rfl rfl (fun h25 => ?_) (fun h25 => ?_)
          · skip
            refine v_sipush C (v := 1000) dL_isDug_381 rfl rfl ?_
            exact jj _ (congrArg nI (best_3 (by omega) (by omega) (by omega)))
          · skip
            refine v_sipush C (v := 320) dL_isDug_375 rfl rfl ?_
            refine v_goto C (q := 384) dL_isDug_378 rfl ?_
            exact jj _ (congrArg nI (best_2 (by omega)))
        · skip
          refine v_bipush C (v := 70) dL_isDug_364 rfl rfl ?_
          refine v_goto C (q := 384) dL_isDug_366 rfl ?_
          exact jj _ (congrArg nI (best_1 (by omega)))
      · skip
        refine v_bipush C (v := 18) dL_isDug_353 rfl rfl ?_
        refine v_goto C (q := 384) dL_isDug_355 rfl ?_
        exact jj _ (congrArg nI (best_0 (by omega)))
  · skip
    refine l_actK C (ax_work (s := s) (nm := nm) (nc := nc) (nr := nr) hst hG hW hJ.bs (e := 3) (cd := -1793000000) (e3_3 ⟨(mi_of hW.cnt.1 hit (by omega)), cell_in hce⟩ (met_in hgg) ((wk_A hJ hit hgg hh hw2 hwd).mpr hcan)) (by decide) xL3_3) (B + 7) (D + 119) ⟨⟨Nat.le_refl _, bl hKc (Nat.le_of_ble_eq_true rfl)⟩, Nat.le_refl _, bl hKn (Nat.le_of_ble_eq_true rfl)⟩ rfl dL_isDug_311 rfl (fun v_ w_ hv26 => ?_)
    obtain ⟨rfl, hw_, -⟩ := hv26
    rw [hw_]
    show V X G 23 _ _ _ _ _ _ [.int ((-1793000000))]
    refine v_istore C (lv1 := [(20, .int ((-1793000000))), (19, .int (bI (0 < tn (s 17 it) ∧ ¬ wd = tn (s 0 0) + 1 ∧ gg = 0 ∧ neN gg ≤ IW s nr it))), (0, .ref (r 4)), (1, .ref (r 0)), (2, .ref (r 2)), (10, .int (nI (ce))), (11, .int (nI (it))), (12, .int (nI (gg))), (13, .int ((-1))), (14, .int (nI (SN (s 9) 40))), (15, .int (nI (tn (s 6 0)))), (16, .int (nI (SN (s 13) nm))), (17, .int (nI (tn (s 13 it)))), (18, .int (nI (PS s it)))]) dL_isDug_314 rfl (by decide) rfl ?_
    refine v_iload C dL_isDug_316 rfl 1 rfl ?_
    refine v_ifB_ne C (t := 334) dL_isDug_318 rfl rfl (fun h => absurd h hcan) (fun _ => ?_)
    refine v_iload C dL_isDug_321 rfl 0 rfl ?_
    refine v_ldc C (v := (-1793000000)) dL_isDug_323 rfl N_L_114 ?_
    refine v_icmp_ne C (t := 332) dL_isDug_325 rfl rfl (fun h => absurd h (by decide)) (fun _ => ?_)
    refine v_iconst C (v := 1) dL_isDug_328 rfl rfl ?_
    refine v_goto C (q := 333) dL_isDug_329 rfl ?_
    exact v_zret C rfl (bl hKc (Nat.le_of_ble_eq_true rfl)) (bl hKn (Nat.le_of_ble_eq_true rfl)) dL_isDug_333 ⟨rfl, _, _, _, _, _, hW, hJ.mono (by omega), hT.mono (by omega), by omega, by omega⟩

theorem sg_dug_D2B {X : XS} {G : GG} {w : va_W} {Q : State → Prop} {r : Nat → Nat} {s t : SS} {nm nc nr k B D : Nat} {X0 how : Nat} {ce it gg : Nat} {wd : Nat} {hj : Nat} (C : Cx X G cL_isDug 23 RL (Option.some Jvm.ClassFile.FieldType.boolean) r_L_isDug "isDug" []) (hW : Wd G r s t nm nc nr w) (hJ : Js s nm nc nr k) (hk : k ≤ 130) (hT : K9 s t nm nc nr k) (hX : X0 < 100000000) (hhow : how < 46) (hnm : 0 < nm) (hce : ce < 40) (hit : it < nm) (hgg : gg < 4) (hw1 : t 2 it = nI wd) (hw2 : s 19 it = nI wd - 1) (hwd : wd ≤ 5001) (hh1 : hj < nc) (hh : heldC s (nI ce) nc = nI hj) (hKc : B + 13 ≤ r_L_isDug.cells) (hKn : D + 78 ≤ r_L_isDug.slots) (kk : V X G 23 w (B + 13) (D + 78) Q 299 [(0, .ref (r 4)), (1, .ref (r 0)), (2, .ref (r 2)), (10, .int (nI (ce))), (11, .int (nI (it))), (12, .int (nI (gg))), (13, .int (nI (hj))), (14, .int (nI (SN (s 9) 40))), (15, .int (nI (tn (s 6 0)))), (16, .int (nI (SN (s 13) nm))), (17, .int (nI (tn (s 13 it)))), (18, .int (nI (PS s it)))] [.int (bI (0 < tn (s 17 it) ∧ ¬ wd = tn (s 0 0) + 1 ∧ tn (s 22 hj) = it ∧ neN gg ≤ IW s nr it))]) : V X G 23 w B D Q 164 [(0, .ref (r 4)), (1, .ref (r 0)), (2, .ref (r 2)), (10, .int (nI (ce))), (11, .int (nI (it))), (12, .int (nI (gg))), (13, .int (nI (hj)))] [] := by
  have hst : X.2.1.stackTraces = false := C.2.2.2.2.2.1
  have hG : GOK G := C.2.2.2.2.2.2.2.2.2.1
  have hm := hJ.1.1
  have hne := neN_b gg
  have hiw := (hJ.miw it).2
  have h17b := (hJ.m17 hit).2
  have hps := (hJ.mps hit).2
  have hdy := hJ.1.2.1.2
  have h13b := (hJ.m13 hit).2
  have h22 := hJ.c22 hh1
  refine v_aload_n C dL_isDug_164 rfl 0 rfl ?_
  refine v_iconst C (v := 0) dL_isDug_165 rfl rfl ?_
  refine q_g0 C hW hJ (B + 1) (D + 6) ⟨⟨Nat.le_refl _, bl hKc (Nat.le_of_ble_eq_true rfl)⟩, Nat.le_refl _, bl hKn (Nat.le_of_ble_eq_true rfl)⟩ rfl dL_isDug_166 rfl (fun b1 => ?_)
  refine v_istore C (lv1 := [(14, .int (nI (SN (s 9) 40))), (0, .ref (r 4)), (1, .ref (r 0)), (2, .ref (r 2)), (10, .int (nI (ce))), (11, .int (nI (it))), (12, .int (nI (gg))), (13, .int (nI (hj)))]) dL_isDug_169 rfl (by decide) rfl ?_
  refine v_aload_n C dL_isDug_171 rfl 1 rfl ?_
  refine v_iconst C (v := 1) dL_isDug_172 rfl rfl ?_
  refine q_g1 C hW hJ (B + 2) (D + 12) ⟨⟨Nat.le_refl _, bl hKc (Nat.le_of_ble_eq_true rfl)⟩, Nat.le_refl _, bl hKn (Nat.le_of_ble_eq_true rfl)⟩ rfl dL_isDug_173 rfl (fun b2 => ?_)
  refine v_istore C (lv1 := [(15, .int (nI (tn (s 6 0)))), (14, .int (nI (SN (s 9) 40))), (0, .ref (r 4)), (1, .ref (r 0)), (2, .ref (r 2)), (10, .int (nI (ce))), (11, .int (nI (it))), (12, .int (nI (gg))), (13, .int (nI (hj)))]) dL_isDug_176 rfl (by decide) rfl ?_
  refine v_aload_n C dL_isDug_178 rfl 2 rfl ?_
  refine v_iconst C (v := 2) dL_isDug_179 rfl rfl ?_
  refine q_g2 C hW hJ (B + 3) (D + 18) ⟨⟨Nat.le_refl _, bl hKc (Nat.le_of_ble_eq_true rfl)⟩, Nat.le_refl _, bl hKn (Nat.le_of_ble_eq_true rfl)⟩ rfl dL_isDug_180 rfl (fun b3 => ?_)
  refine v_istore C (lv1 := [(16, .int (nI (SN (s 13) nm))), (15, .int (nI (tn (s 6 0)))), (14, .int (nI (SN (s 9) 40))), (0, .ref (r 4)), (1, .ref (r 0)), (2, .ref (r 2)), (10, .int (nI (ce))), (11, .int (nI (it))), (12, .int (nI (gg))), (13, .int (nI (hj)))]) dL_isDug_183 rfl (by decide) rfl ?_
  refine v_aload_n C dL_isDug_185 rfl 3 rfl ?_
  refine v_iload C dL_isDug_186 rfl 7 rfl ?_
  refine v_iconst C (v := 0) dL_isDug_188 rfl rfl ?_
  refine q_m0 C hW hJ (i := it) (by omega) (B + 5) (D + 30) ⟨⟨Nat.le_refl _, bl hKc (Nat.le_of_ble_eq_true rfl)⟩, Nat.le_refl _, bl hKn (Nat.le_of_ble_eq_true rfl)⟩ rfl dL_isDug_189 rfl (fun b4 => ?_)
  refine v_istore C (lv1 := [(17, .int (nI (tn (s 13 it)))), (16, .int (nI (SN (s 13) nm))), (15, .int (nI (tn (s 6 0)))), (14, .int (nI (SN (s 9) 40))), (0, .ref (r 4)), (1, .ref (r 0)), (2, .ref (r 2)), (10, .int (nI (ce))), (11, .int (nI (it))), (12, .int (nI (gg))), (13, .int (nI (hj)))]) dL_isDug_192 rfl (by decide) rfl ?_
  refine v_aload_n C dL_isDug_194 rfl 4 rfl ?_
  refine v_iload C dL_isDug_195 rfl 8 rfl ?_
  refine v_bipush C (v := 7) dL_isDug_197 rfl rfl ?_
  refine q_m7 C hW hJ (i := it) (by omega) (B + 7) (D + 42) ⟨⟨Nat.le_refl _, bl hKc (Nat.le_of_ble_eq_true rfl)⟩, Nat.le_refl _, bl hKn (Nat.le_of_ble_eq_true rfl)⟩ rfl dL_isDug_199 rfl (fun b5 => ?_)
  refine v_istore C (lv1 := [(18, .int (nI (PS s it))), (17, .int (nI (tn (s 13 it)))), (16, .int (nI (SN (s 13) nm))), (15, .int (nI (tn (s 6 0)))), (14, .int (nI (SN (s 9) 40))), (0, .ref (r 4)), (1, .ref (r 0)), (2, .ref (r 2)), (10, .int (nI (ce))), (11, .int (nI (it))), (12, .int (nI (gg))), (13, .int (nI (hj)))]) dL_isDug_202 rfl (by decide) rfl ?_
  refine v_aload_n C dL_isDug_204 rfl 5 rfl ?_
  refine v_iload C dL_isDug_205 rfl 9 rfl ?_
  refine v_iconst C (v := 4) dL_isDug_207 rfl rfl ?_
  refine q_m4 C hW hJ (i := it) (by omega) (B + 9) (D + 54) ⟨⟨Nat.le_refl _, bl hKc (Nat.le_of_ble_eq_true rfl)⟩, Nat.le_refl _, bl hKn (Nat.le_of_ble_eq_true rfl)⟩ rfl dL_isDug_208 rfl (fun b6 => ?_)
  refine v_ifN_le C (t := 298) (tn (s 17 it)) rfl (by omega) dL_isDug_211 rfl rfl (fun h7 => ?_) (fun h7 => ?_)
  · skip
    refine v_iconst C (v := 0) dL_isDug_298 rfl rfl ?_
    refine xx_top (y := bI (0 < tn (s 17 it) ∧ ¬ wd = tn (s 0 0) + 1 ∧ tn (s 22 hj) = it ∧ neN gg ≤ IW s nr it)) (bI_f (by omega)).symm ?_
    refine xx_lv [5, 6, 7, 8, 9, 10, 11, 4, 3, 2, 1, 0] (lv' := [(0, .ref (r 4)), (1, .ref (r 0)), (2, .ref (r 2)), (10, .int (nI (ce))), (11, .int (nI (it))), (12, .int (nI (gg))), (13, .int (nI (hj))), (14, .int (nI (SN (s 9) 40))), (15, .int (nI (tn (s 6 0)))), (16, .int (nI (SN (s 13) nm))), (17, .int (nI (tn (s 13 it)))), (18, .int (nI (PS s it)))]) rfl ?_
    exact xx_mono (bm (Nat.le_of_ble_eq_true rfl)) (bm (Nat.le_of_ble_eq_true rfl)) (kk)
  · skip
    refine v_aload_n C dL_isDug_214 rfl 7 rfl ?_
    refine v_iload C dL_isDug_215 rfl 9 rfl ?_
    refine v_mld C hW 2 (by decide) it (show it < 24 by omega) dL_isDug_217 rfl ?_
    refine xx_top (y := nI (wd)) hw1 ?_
    refine v_aload_n C dL_isDug_218 rfl 5 rfl ?_
    refine q_day C hW hJ (B + 9) (D + 54) ⟨⟨Nat.le_refl _, bl hKc (Nat.le_of_ble_eq_true rfl)⟩, Nat.le_refl _, bl hKn (Nat.le_of_ble_eq_true rfl)⟩ rfl dL_isDug_219 rfl (fun b8 => ?_)
    refine v_iconst C (v := 1) dL_isDug_222 rfl rfl ?_
    refine v_iaddN C (tn (s 0 0)) 1 rfl rfl dL_isDug_223 rfl ?_
    refine v_icN_eq C (t := 298) wd ((tn (s 0 0)) + 1) rfl rfl (by omega) (by omega) dL_isDug_224 rfl rfl (fun h9 => ?_) (fun h9 => ?_)
    · skip
      refine v_iconst C (v := 0) dL_isDug_298 rfl rfl ?_
      refine xx_top (y := bI (0 < tn (s 17 it) ∧ ¬ wd = tn (s 0 0) + 1 ∧ tn (s 22 hj) = it ∧ neN gg ≤ IW s nr it)) (bI_f (by omega)).symm ?_
      refine xx_lv [5, 6, 7, 8, 9, 10, 11, 4, 3, 2, 1, 0] (lv' := [(0, .ref (r 4)), (1, .ref (r 0)), (2, .ref (r 2)), (10, .int (nI (ce))), (11, .int (nI (it))), (12, .int (nI (gg))), (13, .int (nI (hj))), (14, .int (nI (SN (s 9) 40))), (15, .int (nI (tn (s 6 0)))), (16, .int (nI (SN (s 13) nm))), (17, .int (nI (tn (s 13 it)))), (18, .int (nI (PS s it)))]) rfl ?_
      exact xx_mono (bm (Nat.le_of_ble_eq_true rfl)) (bm (Nat.le_of_ble_eq_true rfl)) (kk)
    · skip
      refine v_iload C dL_isDug_227 rfl 11 rfl ?_
      refine v_if_ge C (t := 240) dL_isDug_229 rfl rfl (fun _ => ?_) (fun h => absurd (nI_pos' (by omega)) h)
      refine v_aload_n C dL_isDug_240 rfl 5 rfl ?_
      refine v_iload C dL_isDug_241 rfl 11 rfl ?_
      refine v_iconst C (v := 0) dL_isDug_243 rfl rfl ?_
      refine q_c0 C hW hJ (i := hj) (by omega) (B + 11) (D + 66) ⟨⟨Nat.le_refl _, bl hKc (Nat.le_of_ble_eq_true rfl)⟩, Nat.le_refl _, bl hKn (Nat.le_of_ble_eq_true rfl)⟩ rfl dL_isDug_244 rfl (fun b10 => ?_)
      refine v_iload C dL_isDug_247 rfl 9 rfl ?_
      refine v_icN_ne C (t := 298) (tn (s 22 hj)) it rfl rfl (by omega) (by omega) dL_isDug_249 rfl rfl (fun h11 => ?_) (fun h11 => ?_)
      · skip
        refine v_iconst C (v := 0) dL_isDug_298 rfl rfl ?_
        refine xx_top (y := bI (0 < tn (s 17 it) ∧ ¬ wd = tn (s 0 0) + 1 ∧ tn (s 22 hj) = it ∧ neN gg ≤ IW s nr it)) (bI_f (by omega)).symm ?_
        refine xx_lv [5, 6, 7, 8, 9, 10, 11, 4, 3, 2, 1, 0] (lv' := [(0, .ref (r 4)), (1, .ref (r 0)), (2, .ref (r 2)), (10, .int (nI (ce))), (11, .int (nI (it))), (12, .int (nI (gg))), (13, .int (nI (hj))), (14, .int (nI (SN (s 9) 40))), (15, .int (nI (tn (s 6 0)))), (16, .int (nI (SN (s 13) nm))), (17, .int (nI (tn (s 13 it)))), (18, .int (nI (PS s it)))]) rfl ?_
        exact xx_mono (bm (Nat.le_of_ble_eq_true rfl)) (bm (Nat.le_of_ble_eq_true rfl)) (kk)
      · skip
        refine v_aload_n C dL_isDug_252 rfl 5 rfl ?_
        refine v_iload C dL_isDug_253 rfl 9 rfl ?_
        refine v_iconst C (v := 5) dL_isDug_255 rfl rfl ?_
        refine q_m5 C hW hJ (i := it) (by omega) (B + 13) (D + 78) ⟨⟨Nat.le_refl _, bl hKc (Nat.le_of_ble_eq_true rfl)⟩, Nat.le_refl _, bl hKn (Nat.le_of_ble_eq_true rfl)⟩ rfl dL_isDug_256 rfl (fun b12 => ?_)
        refine v_iload C dL_isDug_259 rfl 10 rfl ?_
        refine v_ifN_ne C (t := 268) gg rfl (by omega) dL_isDug_261 rfl rfl (fun h13 => ?_) (fun h13 => ?_)
        · skip
          refine v_iload C dL_isDug_268 rfl 10 rfl ?_
          refine v_iconst C (v := 1) dL_isDug_270 rfl rfl ?_
          refine v_icN_ne C (t := 278) gg 1 rfl rfl (by omega) (by omega) dL_isDug_271 rfl rfl (fun h14 => ?_) (fun h14 => ?_)
          · skip
            refine v_iload C dL_isDug_278 rfl 10 rfl ?_
            refine v_iconst C (v := 2) dL_isDug_280 rfl rfl ?_
            refine v_icN_ne C (t := 289) gg 2 rfl rfl (by omega) (by omega) dL_isDug_281 rfl rfl (fun h15 => ?_) (fun h15 => ?_)
            · skip
              refine v_bipush C (v := 40) dL_isDug_289 rfl rfl ?_
              refine xx_top (y := nI (neN gg)) (congrArg nI (show 40 = neN gg by unfold neN; first | (rw [if_pos (by omega)]; done) | (rw [if_neg (by omega), if_pos (by omega)]; done) | (rw [if_neg (by omega), if_neg (by omega), if_pos (by omega)]; done) | (rw [if_neg (by omega), if_neg (by omega), if_neg (by omega)]; done))) ?_
              refine xx_sel (P := (neN gg) ≤ (IW s nr it)) 299 [] ?_ (fun jj => ?_)
              · skip
                refine xx_top (y := bI (0 < tn (s 17 it) ∧ ¬ wd = tn (s 0 0) + 1 ∧ tn (s 22 hj) = it ∧ neN gg ≤ IW s nr it)) (bI_iff (by omega)) ?_
                refine xx_lv [5, 6, 7, 8, 9, 10, 11, 4, 3, 2, 1, 0] (lv' := [(0, .ref (r 4)), (1, .ref (r 0)), (2, .ref (r 2)), (10, .int (nI (ce))), (11, .int (nI (it))), (12, .int (nI (gg))), (13, .int (nI (hj))), (14, .int (nI (SN (s 9) 40))), (15, .int (nI (tn (s 6 0)))), (16, .int (nI (SN (s 13) nm))), (17, .int (nI (tn (s 13 it)))), (18, .int (nI (PS s it)))]) rfl ?_
                exact xx_mono (bm (Nat.le_of_ble_eq_true rfl)) (bm (Nat.le_of_ble_eq_true rfl)) (kk)
              refine v_icN_lt C (t := 298) (IW s nr it) (neN gg) rfl rfl (by omega) (by omega) dL_isDug_291 rfl rfl (fun h16 => ?_) (fun h16 => ?_)
              · skip
                refine v_iconst C (v := 0) dL_isDug_298 rfl rfl ?_
                exact jj _ (bI_f (by first | assumption | omega)).symm
              · skip
                refine v_iconst C (v := 1) dL_isDug_294 rfl rfl ?_
                refine v_goto C (q := 299) dL_isDug_295 rfl ?_
                exact jj _ (bI_t (by first | assumption | omega)).symm
            · skip
              refine v_bipush C (v := 10) dL_isDug_284 rfl rfl ?_
              refine v_goto C (q := 291) dL_isDug_286 rfl ?_
              refine xx_top (y := nI (neN gg)) (congrArg nI (show 10 = neN gg by unfold neN; first | (rw [if_pos (by omega)]; done) | (rw [if_neg (by omega), if_pos (by omega)]; done) | (rw [if_neg (by omega), if_neg (by omega), if_pos (by omega)]; done) | (rw [if_neg (by omega), if_neg (by omega), if_neg (by omega)]; done))) ?_
              refine xx_sel (P := (neN gg) ≤ (IW s nr it)) 299 [] ?_ (fun jj => ?_)
              · skip
                refine xx_top (y := bI (0 < tn (s 17 it) ∧ ¬ wd = tn (s 0 0) + 1 ∧ tn (s 22 hj) = it ∧ neN gg ≤ IW s nr it)) (bI_iff (by omega)) ?_
                refine xx_lv [5, 6, 7, 8, 9, 10, 11, 4, 3, 2, 1, 0] (lv' := [(0, .ref (r 4)), (1, .ref (r 0)), (2, .ref (r 2)), (10, .int (nI (ce))), (11, .int (nI (it))), (12, .int (nI (gg))), (13, .int (nI (hj))), (14, .int (nI (SN (s 9) 40))), (15, .int (nI (tn (s 6 0)))), (16, .int (nI (SN (s 13) nm))), (17, .int (nI (tn (s 13 it)))), (18, .int (nI (PS s it)))]) rfl ?_
                exact xx_mono (bm (Nat.le_of_ble_eq_true rfl)) (bm (Nat.le_of_ble_eq_true rfl)) (kk)
              refine v_icN_lt C (t := 298) (IW s nr it) (neN gg) rfl rfl (by omega) (by omega) dL_isDug_291 rfl rfl (fun h17 => ?_) (fun h17 => ?_)
              · skip
                refine v_iconst C (v := 0) dL_isDug_298 rfl rfl ?_
                exact jj _ (bI_f (by first | assumption | omega)).symm
              · skip
                refine v_iconst C (v := 1) dL_isDug_294 rfl rfl ?_
                refine v_goto C (q := 299) dL_isDug_295 rfl ?_
                exact jj _ (bI_t (by first | assumption | omega)).symm
          · skip
            refine v_iconst C (v := 2) dL_isDug_274 rfl rfl ?_
            refine v_goto C (q := 291) dL_isDug_275 rfl ?_
            refine xx_top (y := nI (neN gg)) (congrArg nI (show 2 = neN gg by unfold neN; first | (rw [if_pos (by omega)]; done) | (rw [if_neg (by omega), if_pos (by omega)]; done) | (rw [if_neg (by omega), if_neg (by omega), if_pos (by omega)]; done) | (rw [if_neg (by omega), if_neg (by omega), if_neg (by omega)]; done))) ?_
            refine xx_sel (P := (neN gg) ≤ (IW s nr it)) 299 [] ?_ (fun jj => ?_)
            · skip
              refine xx_top (y := bI (0 < tn (s 17 it) ∧ ¬ wd = tn (s 0 0) + 1 ∧ tn (s 22 hj) = it ∧ neN gg ≤ IW s nr it)) (bI_iff (by omega)) ?_
              refine xx_lv [5, 6, 7, 8, 9, 10, 11, 4, 3, 2, 1, 0] (lv' := [(0, .ref (r 4)), (1, .ref (r 0)), (2, .ref (r 2)), (10, .int (nI (ce))), (11, .int (nI (it))), (12, .int (nI (gg))), (13, .int (nI (hj))), (14, .int (nI (SN (s 9) 40))), (15, .int (nI (tn (s 6 0)))), (16, .int (nI (SN (s 13) nm))), (17, .int (nI (tn (s 13 it)))), (18, .int (nI (PS s it)))]) rfl ?_
              exact xx_mono (bm (Nat.le_of_ble_eq_true rfl)) (bm (Nat.le_of_ble_eq_true rfl)) (kk)
            refine v_icN_lt C (t := 298) (IW s nr it) (neN gg) rfl rfl (by omega) (by omega) dL_isDug_291 rfl rfl (fun h18 => ?_) (fun h18 => ?_)
            · skip
              refine v_iconst C (v := 0) dL_isDug_298 rfl rfl ?_
              exact jj _ (bI_f (by first | assumption | omega)).symm
            · skip
              refine v_iconst C (v := 1) dL_isDug_294 rfl rfl ?_
              refine v_goto C (q := 299) dL_isDug_295 rfl ?_
              exact jj _ (bI_t (by first | assumption | omega)).symm
        · skip
          refine v_iconst C (v := 0) dL_isDug_264 rfl rfl ?_
          refine v_goto C (q := 291) dL_isDug_265 rfl ?_
          refine xx_top (y := nI (neN gg)) (congrArg nI (show 0 = neN gg by unfold neN; first | (rw [if_pos (by omega)]; done) | (rw [if_neg (by omega), if_pos (by omega)]; done) | (rw [if_neg (by omega), if_neg (by omega), if_pos (by omega)]; done) | (rw [if_neg (by omega), if_neg (by omega), if_neg (by omega)]; done))) ?_
          refine xx_sel (P := (neN gg) ≤ (IW s nr it)) 299 [] ?_ (fun jj => ?_)
          · skip
            refine xx_top (y := bI (0 < tn (s 17 it) ∧ ¬ wd = tn (s 0 0) + 1 ∧ tn (s 22 hj) = it ∧ neN gg ≤ IW s nr it)) (bI_iff (by omega)) ?_
            refine xx_lv [5, 6, 7, 8, 9, 10, 11, 4, 3, 2, 1, 0] (lv' := [(0, .ref (r 4)), (1, .ref (r 0)), (2, .ref (r 2)), (10, .int (nI (ce))), (11, .int (nI (it))), (12, .int (nI (gg))), (13, .int (nI (hj))), (14, .int (nI (SN (s 9) 40))), (15, .int (nI (tn (s 6 0)))), (16, .int (nI (SN (s 13) nm))), (17, .int (nI (tn (s 13 it)))), (18, .int (nI (PS s it)))]) rfl ?_
            exact xx_mono (bm (Nat.le_of_ble_eq_true rfl)) (bm (Nat.le_of_ble_eq_true rfl)) (kk)
          refine v_icN_lt C (t := 298) (IW s nr it) (neN gg) rfl rfl (by omega) (by omega) dL_isDug_291 rfl rfl (fun h19 => ?_) (fun h19 => ?_)
          · skip
            refine v_iconst C (v := 0) dL_isDug_298 rfl rfl ?_
            exact jj _ (bI_f (by first | assumption | omega)).symm
          · skip
            refine v_iconst C (v := 1) dL_isDug_294 rfl rfl ?_
            refine v_goto C (q := 299) dL_isDug_295 rfl ?_
            exact jj _ (bI_t (by first | assumption | omega)).symm

theorem sg_dug_D3B {X : XS} {G : GG} {w : va_W} {r : Nat → Nat} {s t : SS} {nm nc nr k B D : Nat} {X0 how : Nat} {ce it gg : Nat} {wd : Nat} {hj : Nat} (C : Cx X G cL_isDug 23 RL (Option.some Jvm.ClassFile.FieldType.boolean) r_L_isDug "isDug" []) (hW : Wd G r s t nm nc nr w) (hJ : Js s nm nc nr k) (hk : k ≤ 130) (hT : K9 s t nm nc nr k) (hX : X0 < 100000000) (hhow : how < 46) (hnm : 0 < nm) (hce : ce < 40) (hit : it < nm) (hgg : gg < 4) (hw1 : t 2 it = nI wd) (hw2 : s 19 it = nI wd - 1) (hwd : wd ≤ 5001) (hh1 : hj < nc) (hh : heldC s (nI ce) nc = nI hj) (hKc : B + 22 ≤ r_L_isDug.cells) (hKn : D + 286 ≤ r_L_isDug.slots)  : V X G 23 w B D (Tg X G r_L_isDug (fun v w1 => v = some (.int 1) ∧ Nxt G r nm (k + 1) w1) nX) 299 [(0, .ref (r 4)), (1, .ref (r 0)), (2, .ref (r 2)), (10, .int (nI (ce))), (11, .int (nI (it))), (12, .int (nI (gg))), (13, .int (nI (hj))), (14, .int (nI (SN (s 9) 40))), (15, .int (nI (tn (s 6 0)))), (16, .int (nI (SN (s 13) nm))), (17, .int (nI (tn (s 13 it)))), (18, .int (nI (PS s it)))] [.int (bI (0 < tn (s 17 it) ∧ ¬ wd = tn (s 0 0) + 1 ∧ tn (s 22 hj) = it ∧ neN gg ≤ IW s nr it))] := by
  have hst : X.2.1.stackTraces = false := C.2.2.2.2.2.1
  have hG : GOK G := C.2.2.2.2.2.2.2.2.2.1
  have hm := hJ.1.1
  have hps := (hJ.mps hit).2
  have hbb := best_b gg
  have h13b := (hJ.m13 hit).2
  have h22 := hJ.c22 hh1
  refine v_istore C (lv1 := [(19, .int (bI (0 < tn (s 17 it) ∧ ¬ wd = tn (s 0 0) + 1 ∧ tn (s 22 hj) = it ∧ neN gg ≤ IW s nr it))), (0, .ref (r 4)), (1, .ref (r 0)), (2, .ref (r 2)), (10, .int (nI (ce))), (11, .int (nI (it))), (12, .int (nI (gg))), (13, .int (nI (hj))), (14, .int (nI (SN (s 9) 40))), (15, .int (nI (tn (s 6 0)))), (16, .int (nI (SN (s 13) nm))), (17, .int (nI (tn (s 13 it)))), (18, .int (nI (PS s it)))]) dL_isDug_299 rfl (by decide) rfl ?_
  refine v_aload_n C dL_isDug_301 rfl 1 rfl ?_
  refine v_bipush C (v := 7) dL_isDug_302 rfl rfl ?_
  refine v_iload C dL_isDug_304 rfl 5 rfl ?_
  refine v_iload C dL_isDug_306 rfl 4 rfl ?_
  refine v_iload C dL_isDug_308 rfl 6 rfl ?_
  refine v_iconst C (v := 0) dL_isDug_310 rfl rfl ?_
  by_cases hcan : 0 < tn (s 17 it) ∧ ¬ wd = tn (s 0 0) + 1 ∧ tn (s 22 hj) = it ∧ neN gg ≤ IW s nr it
  · skip
    have hP_ := P_work hJ hT hk hit hce hgg
    refine l_actK C (ao_work (s := s) (nm := nm) (nc := nc) (nr := nr) hst hG hW hJ.bs (e3_0 ⟨(mi_of hW.cnt.1 hit (by omega)), cell_in hce⟩ (met_in hgg) (fun q => ((wk_B hJ hit hgg hh1 hh hw2 hwd).mp q) hcan))) (B + 7) (D + 119) ⟨⟨Nat.le_refl _, bl hKc (Nat.le_of_ble_eq_true rfl)⟩, Nat.le_refl _, bl hKn (Nat.le_of_ble_eq_true rfl)⟩ rfl dL_isDug_311 rfl (fun v_ w2 hv1 => ?_)
    obtain ⟨rfl, hW3⟩ := hv1
    show V X G 23 _ _ _ _ _ _ [.int (workRC s (nI (ce)) (nI (gg)))]
    generalize workUC s nm nc (nI (it)) (nI (ce)) (nI (gg)) = s1 at hP_ hW3
    obtain ⟨got, hR, hbst, hJ1, hT1, f1, f2, f3, ⟨kept, f4, f5, f6⟩, f7, f8, f9⟩ := hP_
    refine xx_top (y := nI (got)) hR ?_
    refine v_istore C (lv1 := [(20, .int (nI (got))), (19, .int (bI (0 < tn (s 17 it) ∧ ¬ wd = tn (s 0 0) + 1 ∧ tn (s 22 hj) = it ∧ neN gg ≤ IW s nr it))), (0, .ref (r 4)), (1, .ref (r 0)), (2, .ref (r 2)), (10, .int (nI (ce))), (11, .int (nI (it))), (12, .int (nI (gg))), (13, .int (nI (hj))), (14, .int (nI (SN (s 9) 40))), (15, .int (nI (tn (s 6 0)))), (16, .int (nI (SN (s 13) nm))), (17, .int (nI (tn (s 13 it)))), (18, .int (nI (PS s it)))]) dL_isDug_314 rfl (by decide) rfl ?_
    refine v_iload C dL_isDug_316 rfl 1 rfl ?_
    refine v_ifB_ne C (t := 334) dL_isDug_318 rfl rfl (fun _ => ?_) (fun h => absurd hcan h)
    refine v_aload_n C dL_isDug_334 rfl 4 rfl ?_
    refine v_iload C dL_isDug_335 rfl 6 rfl ?_
    refine v_aload_n C dL_isDug_337 rfl 2 rfl ?_
    refine q_day C hW3 hJ1 (B + 7) (D + 119) ⟨⟨Nat.le_refl _, bl hKc (Nat.le_of_ble_eq_true rfl)⟩, Nat.le_refl _, bl hKn (Nat.le_of_ble_eq_true rfl)⟩ rfl dL_isDug_338 rfl (fun b4 => ?_)
    refine v_iconst C (v := 1) dL_isDug_341 rfl rfl ?_
    refine v_iaddN C (tn (s1 0 0)) 1 rfl rfl dL_isDug_342 rfl ?_
    refine xx_top (y := nI (tn (s 0 0) + 1)) (congrArg nI (by omega)) ?_
    refine v_mst C hW3 2 (by decide) it (show it < 24 by omega) dL_isDug_343 rfl (fun w5 hW6 => ?_)
    refine v_aload_n C dL_isDug_344 rfl 3 rfl ?_
    refine v_iconst C (v := 4) dL_isDug_345 rfl rfl ?_
    refine v_iconst C (v := 1) dL_isDug_346 rfl rfl ?_
    refine v_mst C hW6 0 (by decide) 4 (show 4 < 6 by omega) dL_isDug_347 rfl (fun w7 hW8 => ?_)
    refine xx_selI (x := nI (bestN gg)) 384 [] ?_ (fun jj => ?_)
    · skip
      refine v_istore C (lv1 := [(21, .int (nI (bestN gg))), (20, .int (nI (got))), (19, .int (bI (0 < tn (s 17 it) ∧ ¬ wd = tn (s 0 0) + 1 ∧ tn (s 22 hj) = it ∧ neN gg ≤ IW s nr it))), (0, .ref (r 4)), (1, .ref (r 0)), (2, .ref (r 2)), (10, .int (nI (ce))), (11, .int (nI (it))), (12, .int (nI (gg))), (13, .int (nI (hj))), (14, .int (nI (SN (s 9) 40))), (15, .int (nI (tn (s 6 0)))), (16, .int (nI (SN (s 13) nm))), (17, .int (nI (tn (s 13 it)))), (18, .int (nI (PS s it)))]) dL_isDug_384 rfl (by decide) rfl ?_
      refine v_aload_n C dL_isDug_386 rfl 3 rfl ?_
      refine v_iload C dL_isDug_387 rfl 7 rfl ?_
      refine v_iconst C (v := 0) dL_isDug_389 rfl rfl ?_
      refine q_m0 C hW8 hJ1 (i := it) (by omega) (B + 9) (D + 131) ⟨⟨Nat.le_refl _, bl hKc (Nat.le_of_ble_eq_true rfl)⟩, Nat.le_refl _, bl hKn (Nat.le_of_ble_eq_true rfl)⟩ rfl dL_isDug_390 rfl (fun b9 => ?_)
      refine v_iload C dL_isDug_393 rfl 13 rfl ?_
      refine v_isubN C (tn (s1 13 it)) (tn (s 13 it)) (by omega) rfl rfl dL_isDug_395 rfl ?_
      refine v_istore C (lv1 := [(22, .int (nI ((tn (s1 13 it)) - (tn (s 13 it))))), (21, .int (nI (bestN gg))), (20, .int (nI (got))), (19, .int (bI (0 < tn (s 17 it) ∧ ¬ wd = tn (s 0 0) + 1 ∧ tn (s 22 hj) = it ∧ neN gg ≤ IW s nr it))), (0, .ref (r 4)), (1, .ref (r 0)), (2, .ref (r 2)), (10, .int (nI (ce))), (11, .int (nI (it))), (12, .int (nI (gg))), (13, .int (nI (hj))), (14, .int (nI (SN (s 9) 40))), (15, .int (nI (tn (s 6 0)))), (16, .int (nI (SN (s 13) nm))), (17, .int (nI (tn (s 13 it)))), (18, .int (nI (PS s it)))]) dL_isDug_396 rfl (by decide) rfl ?_
      refine v_iload C dL_isDug_398 rfl 2 rfl ?_
      refine v_if_lt C (t := 527) dL_isDug_400 rfl rfl (fun h => absurd h (nI_pos (by omega))) (fun _ => ?_)
      refine v_iload C dL_isDug_403 rfl 2 rfl ?_
      refine v_iload C dL_isDug_405 rfl 1 rfl ?_
      refine v_icN_gt C (t := 527) got (bestN gg) rfl rfl (by omega) (by omega) dL_isDug_407 rfl rfl (fun h => (by omega : False).elim) (fun h10 => ?_)
      refine v_aload_n C dL_isDug_410 rfl 4 rfl ?_
      refine v_iconst C (v := 2) dL_isDug_411 rfl rfl ?_
      refine q_g2 C hW8 hJ1 (B + 10) (D + 137) ⟨⟨Nat.le_refl _, bl hKc (Nat.le_of_ble_eq_true rfl)⟩, Nat.le_refl _, bl hKn (Nat.le_of_ble_eq_true rfl)⟩ rfl dL_isDug_412 rfl (fun b11 => ?_)
      refine v_iload C dL_isDug_415 rfl 13 rfl ?_
      refine v_iload C dL_isDug_417 rfl 2 rfl ?_
      refine v_iaddN C (SN (s 13) nm) got rfl rfl dL_isDug_419 rfl ?_
      refine v_icN_ne C (t := 527) (SN (s1 13) nm) ((SN (s 13) nm) + got) rfl rfl (by omega) (by omega) dL_isDug_420 rfl rfl (fun h => (by omega : False).elim) (fun h12 => ?_)
      refine v_aload_n C dL_isDug_423 rfl 4 rfl ?_
      refine v_iconst C (v := 0) dL_isDug_424 rfl rfl ?_
      refine q_g0 C hW8 hJ1 (B + 11) (D + 143) ⟨⟨Nat.le_refl _, bl hKc (Nat.le_of_ble_eq_true rfl)⟩, Nat.le_refl _, bl hKn (Nat.le_of_ble_eq_true rfl)⟩ rfl dL_isDug_425 rfl (fun b13 => ?_)
      refine v_aload_n C dL_isDug_428 rfl 4 rfl ?_
      refine v_iconst C (v := 1) dL_isDug_429 rfl rfl ?_
      refine q_g1 C hW8 hJ1 (B + 12) (D + 149) ⟨⟨Nat.le_refl _, bl hKc (Nat.le_of_ble_eq_true rfl)⟩, Nat.le_refl _, bl hKn (Nat.le_of_ble_eq_true rfl)⟩ rfl dL_isDug_430 rfl (fun b14 => ?_)
      refine v_iaddN C (SN (s1 9) 40) (tn (s1 6 0)) rfl rfl dL_isDug_433 rfl ?_
      refine v_iload C dL_isDug_434 rfl 11 rfl ?_
      refine v_iload C dL_isDug_436 rfl 12 rfl ?_
      refine v_iaddN C (SN (s 9) 40) (tn (s 6 0)) rfl rfl dL_isDug_438 rfl ?_
      refine v_iload C dL_isDug_439 rfl 2 rfl ?_
      refine v_isubN C ((SN (s 9) 40) + (tn (s 6 0))) got (by omega) rfl rfl dL_isDug_441 rfl ?_
      refine v_icN_ne C (t := 527) ((SN (s1 9) 40) + (tn (s1 6 0))) (((SN (s 9) 40) + (tn (s 6 0))) - got) rfl rfl (by omega) (by omega) dL_isDug_442 rfl rfl (fun h => (by omega : False).elim) (fun h15 => ?_)
      refine v_iload C dL_isDug_445 rfl 7 rfl ?_
      refine v_bipush C (v := 39) dL_isDug_447 rfl rfl ?_
      refine v_icN_eq C (t := 462) ce 39 rfl rfl (by omega) (by omega) dL_isDug_449 rfl rfl (fun h16 => ?_) (fun h16 => ?_)
      · skip
        refine v_iload C dL_isDug_462 rfl 0 rfl ?_
        refine v_if_lt C (t := 527) dL_isDug_464 rfl rfl (fun h => absurd h (nI_pos (by omega))) (fun _ => ?_)
        refine v_bipush C (v := 100) dL_isDug_467 rfl rfl ?_
        refine v_iload C dL_isDug_469 rfl 0 rfl ?_
        refine v_imulN C 100 ((tn (s1 13 it)) - (tn (s 13 it))) rfl rfl dL_isDug_471 rfl ?_
        refine v_iload C dL_isDug_472 rfl 2 rfl ?_
        refine v_bipush C (v := 100) dL_isDug_474 rfl rfl ?_
        refine v_iload C dL_isDug_476 rfl 15 rfl ?_
        refine v_isubN C 100 (PS s it) (by omega) rfl rfl dL_isDug_478 rfl ?_
        refine v_imulN C got (100 - (PS s it)) rfl rfl dL_isDug_479 rfl ?_
        refine v_icN_lt C (t := 527) (100 * ((tn (s1 13 it)) - (tn (s 13 it)))) (got * (100 - (PS s it))) rfl rfl (by omega) (by omega) dL_isDug_480 rfl rfl (fun h => (by omega : False).elim) (fun h17 => ?_)
        refine v_iload C dL_isDug_483 rfl 0 rfl ?_
        refine v_iload C dL_isDug_485 rfl 2 rfl ?_
        refine v_icN_gt C (t := 527) ((tn (s1 13 it)) - (tn (s 13 it))) got rfl rfl (by omega) (by omega) dL_isDug_487 rfl rfl (fun h => (by omega : False).elim) (fun h18 => ?_)
        have f7h := f7 hj hh1 hh
        refine v_iload C dL_isDug_490 rfl 10 rfl ?_
        refine v_if_lt C (t := 509) dL_isDug_492 rfl rfl (fun h => absurd h (nI_pos (by omega))) (fun _ => ?_)
        refine v_aload_n C dL_isDug_495 rfl 4 rfl ?_
        refine v_iload C dL_isDug_496 rfl 10 rfl ?_
        refine v_iconst C (v := 4) dL_isDug_498 rfl rfl ?_
        refine q_c4 C hW8 hJ1 (i := hj) (by omega) (B + 14) (D + 161) ⟨⟨Nat.le_refl _, bl hKc (Nat.le_of_ble_eq_true rfl)⟩, Nat.le_refl _, bl hKn (Nat.le_of_ble_eq_true rfl)⟩ rfl dL_isDug_499 rfl (fun b19 => ?_)
        refine v_aload_n C dL_isDug_502 rfl 4 rfl ?_
        refine q_day C hW8 hJ1 (B + 14) (D + 161) ⟨⟨Nat.le_refl _, bl hKc (Nat.le_of_ble_eq_true rfl)⟩, Nat.le_refl _, bl hKn (Nat.le_of_ble_eq_true rfl)⟩ rfl dL_isDug_503 rfl (fun b20 => ?_)
        refine v_icN_ne C (t := 527) (tn (s1 26 hj)) (tn (s1 0 0)) rfl rfl (by omega) (by omega) dL_isDug_506 rfl rfl (fun h => (by omega : False).elim) (fun h21 => ?_)
        refine v_aload_n C dL_isDug_509 rfl 4 rfl ?_
        refine v_bipush C (v := 7) dL_isDug_510 rfl rfl ?_
        refine v_iload C dL_isDug_512 rfl 8 rfl ?_
        refine v_iload C dL_isDug_514 rfl 7 rfl ?_
        refine v_iconst C (v := 0) dL_isDug_516 rfl rfl ?_
        refine l_bars C (ax_work (s := s1) (nm := nm) (nc := nc) (nr := nr) hst hG hW8 hJ1.bs (e := 3) (cd := -1793000000) (e3_3 ⟨mi_of hW8.cnt.1 hit (by omega), cell_in hce⟩ (by decide) (Or.inr (Or.inl (by rw [tn_nI (show it < 2 ^ 31 by omega)]; exact f8)))) (by decide) xL3_3) (B + 21) (D + 280) ⟨⟨Nat.le_refl _, bl hKc (Nat.le_of_ble_eq_true rfl)⟩, Nat.le_refl _, bl hKn (Nat.le_of_ble_eq_true rfl)⟩ rfl dL_isDug_517 rfl ?_
        refine v_if_eq C (t := 527) dL_isDug_520 rfl rfl (fun h => absurd h (by decide)) (fun _ => ?_)
        refine v_iconst C (v := 1) dL_isDug_523 rfl rfl ?_
        refine v_goto C (q := 528) dL_isDug_524 rfl ?_
        exact v_zret C rfl (bl hKc (Nat.le_of_ble_eq_true rfl)) (bl hKn (Nat.le_of_ble_eq_true rfl)) dL_isDug_528 ⟨rfl, _, _, _, _, _, hW8, hJ1.mono (by omega), hT1 _ rfl, by omega, by omega⟩
      · skip
        refine v_aload_n C dL_isDug_452 rfl 4 rfl ?_
        refine v_iconst C (v := 1) dL_isDug_453 rfl rfl ?_
        refine q_g1 C hW8 hJ1 (B + 13) (D + 155) ⟨⟨Nat.le_refl _, bl hKc (Nat.le_of_ble_eq_true rfl)⟩, Nat.le_refl _, bl hKn (Nat.le_of_ble_eq_true rfl)⟩ rfl dL_isDug_454 rfl (fun b22 => ?_)
        refine v_iload C dL_isDug_457 rfl 12 rfl ?_
        refine v_icN_ne C (t := 527) (tn (s1 6 0)) (tn (s 6 0)) rfl rfl (by omega) (by omega) dL_isDug_459 rfl rfl (fun h => (by omega : False).elim) (fun h23 => ?_)
        refine v_iload C dL_isDug_462 rfl 0 rfl ?_
        refine v_if_lt C (t := 527) dL_isDug_464 rfl rfl (fun h => absurd h (nI_pos (by omega))) (fun _ => ?_)
        refine v_bipush C (v := 100) dL_isDug_467 rfl rfl ?_
        refine v_iload C dL_isDug_469 rfl 0 rfl ?_
        refine v_imulN C 100 ((tn (s1 13 it)) - (tn (s 13 it))) rfl rfl dL_isDug_471 rfl ?_
        refine v_iload C dL_isDug_472 rfl 2 rfl ?_
        refine v_bipush C (v := 100) dL_isDug_474 rfl rfl ?_
        refine v_iload C dL_isDug_476 rfl 15 rfl ?_
        refine v_isubN C 100 (PS s it) (by omega) rfl rfl dL_isDug_478 rfl ?_
        refine v_imulN C got (100 - (PS s it)) rfl rfl dL_isDug_479 rfl ?_
        refine v_icN_lt C (t := 527) (100 * ((tn (s1 13 it)) - (tn (s 13 it)))) (got * (100 - (PS s it))) rfl rfl (by omega) (by omega) dL_isDug_480 rfl rfl (fun h => (by omega : False).elim) (fun h24 => ?_)
        refine v_iload C dL_isDug_483 rfl 0 rfl ?_
        refine v_iload C dL_isDug_485 rfl 2 rfl ?_
        refine v_icN_gt C (t := 527) ((tn (s1 13 it)) - (tn (s 13 it))) got rfl rfl (by omega) (by omega) dL_isDug_487 rfl rfl (fun h => (by omega : False).elim) (fun h25 => ?_)
        have f7h := f7 hj hh1 hh
        refine v_iload C dL_isDug_490 rfl 10 rfl ?_
        refine v_if_lt C (t := 509) dL_isDug_492 rfl rfl (fun h => absurd h (nI_pos (by omega))) (fun _ => ?_)
        refine v_aload_n C dL_isDug_495 rfl 4 rfl ?_
        refine v_iload C dL_isDug_496 rfl 10 rfl ?_
        refine v_iconst C (v := 4) dL_isDug_498 rfl rfl ?_
        refine q_c4 C hW8 hJ1 (i := hj) (by omega) (B + 15) (D + 167) ⟨⟨Nat.le_refl _, bl hKc (Nat.le_of_ble_eq_true rfl)⟩, Nat.le_refl _, bl hKn (Nat.le_of_ble_eq_true rfl)⟩ rfl dL_isDug_499 rfl (fun b26 => ?_)
        refine v_aload_n C dL_isDug_502 rfl 4 rfl ?_
        refine q_day C hW8 hJ1 (B + 15) (D + 167) ⟨⟨Nat.le_refl _, bl hKc (Nat.le_of_ble_eq_true rfl)⟩, Nat.le_refl _, bl hKn (Nat.le_of_ble_eq_true rfl)⟩ rfl dL_isDug_503 rfl (fun b27 => ?_)
        refine v_icN_ne C (t := 527) (tn (s1 26 hj)) (tn (s1 0 0)) rfl rfl (by omega) (by omega) dL_isDug_506 rfl rfl (fun h => (by omega : False).elim) (fun h28 => ?_)
        refine v_aload_n C dL_isDug_509 rfl 4 rfl ?_
        refine v_bipush C (v := 7) dL_isDug_510 rfl rfl ?_
        refine v_iload C dL_isDug_512 rfl 8 rfl ?_
        refine v_iload C dL_isDug_514 rfl 7 rfl ?_
        refine v_iconst C (v := 0) dL_isDug_516 rfl rfl ?_
        refine l_bars C (ax_work (s := s1) (nm := nm) (nc := nc) (nr := nr) hst hG hW8 hJ1.bs (e := 3) (cd := -1793000000) (e3_3 ⟨mi_of hW8.cnt.1 hit (by omega), cell_in hce⟩ (by decide) (Or.inr (Or.inl (by rw [tn_nI (show it < 2 ^ 31 by omega)]; exact f8)))) (by decide) xL3_3) (B + 22) (D + 286) ⟨⟨Nat.le_refl _, bl hKc (Nat.le_of_ble_eq_true rfl)⟩, Nat.le_refl _, bl hKn (Nat.le_of_ble_eq_true rfl)⟩ rfl dL_isDug_517 rfl ?_
        refine v_if_eq C (t := 527) dL_isDug_520 rfl rfl (fun h => absurd h (by decide)) (fun _ => ?_)
        refine v_iconst C (v := 1) dL_isDug_523 rfl rfl ?_
        refine v_goto C (q := 528) dL_isDug_524 rfl ?_
        exact v_zret C rfl (bl hKc (Nat.le_of_ble_eq_true rfl)) (bl hKn (Nat.le_of_ble_eq_true rfl)) dL_isDug_528 ⟨rfl, _, _, _, _, _, hW8, hJ1.mono (by omega), hT1 _ rfl, by omega, by omega⟩
    · skip
      refine v_iload C dL_isDug_348 rfl 7 rfl ?_
      refine v_ifN_ne C (t := 358) gg rfl (by omega) dL_isDug_350 rfl rfl (fun h29 => ?_) (fun h29 => ?_)
      · skip
        refine v_iload C dL_isDug_358 rfl 7 rfl ?_
        refine v_iconst C (v := 1) dL_isDug_360 rfl rfl ?_
        refine v_icN_ne C (t := 369) gg 1 rfl rfl (by omega) (by omega) dL_isDug_361 rfl rfl (fun h30 => ?_) (fun h30 => ?_)
        · skip
          refine v_iload C dL_isDug_369 rfl 7 rfl ?_
          refine v_iconst C (v := 2) dL_isDug_371 rfl rfl ?_
          refine v_icN_ne C (t := 381) gg 2 rfl rfl (by omega) (by omega) dL_isDug_372 rfl rfl (fun h31 => ?_) (fun h31 => ?_)
          · skip
            refine v_sipush C (v := 1000) dL_isDug_381 rfl rfl ?_
            exact jj _ (congrArg nI (best_3 (by omega) (by omega) (by omega)))
          · skip
            refine v_sipush C (v := 320) dL_isDug_375 rfl rfl ?_
            refine v_goto C (q := 384) dL_isDug_378 rfl ?_
            exact jj _ (congrArg nI (best_2 (by omega)))
        · skip
          refine v_bipush C (v := 70) dL_isDug_364 rfl rfl ?_
          refine v_goto C (q := 384) dL_isDug_366 rfl ?_
          exact jj _ (congrArg nI (best_1 (by omega)))
      · skip
        refine v_bipush C (v := 18) dL_isDug_353 rfl rfl ?_
        refine v_goto C (q := 384) dL_isDug_355 rfl ?_
        exact jj _ (congrArg nI (best_0 (by omega)))
  · skip
    refine l_actK C (ax_work (s := s) (nm := nm) (nc := nc) (nr := nr) hst hG hW hJ.bs (e := 3) (cd := -1793000000) (e3_3 ⟨(mi_of hW.cnt.1 hit (by omega)), cell_in hce⟩ (met_in hgg) ((wk_B hJ hit hgg hh1 hh hw2 hwd).mpr hcan)) (by decide) xL3_3) (B + 7) (D + 119) ⟨⟨Nat.le_refl _, bl hKc (Nat.le_of_ble_eq_true rfl)⟩, Nat.le_refl _, bl hKn (Nat.le_of_ble_eq_true rfl)⟩ rfl dL_isDug_311 rfl (fun v_ w_ hv32 => ?_)
    obtain ⟨rfl, hw_, -⟩ := hv32
    rw [hw_]
    show V X G 23 _ _ _ _ _ _ [.int ((-1793000000))]
    refine v_istore C (lv1 := [(20, .int ((-1793000000))), (19, .int (bI (0 < tn (s 17 it) ∧ ¬ wd = tn (s 0 0) + 1 ∧ tn (s 22 hj) = it ∧ neN gg ≤ IW s nr it))), (0, .ref (r 4)), (1, .ref (r 0)), (2, .ref (r 2)), (10, .int (nI (ce))), (11, .int (nI (it))), (12, .int (nI (gg))), (13, .int (nI (hj))), (14, .int (nI (SN (s 9) 40))), (15, .int (nI (tn (s 6 0)))), (16, .int (nI (SN (s 13) nm))), (17, .int (nI (tn (s 13 it)))), (18, .int (nI (PS s it)))]) dL_isDug_314 rfl (by decide) rfl ?_
    refine v_iload C dL_isDug_316 rfl 1 rfl ?_
    refine v_ifB_ne C (t := 334) dL_isDug_318 rfl rfl (fun h => absurd h hcan) (fun _ => ?_)
    refine v_iload C dL_isDug_321 rfl 0 rfl ?_
    refine v_ldc C (v := (-1793000000)) dL_isDug_323 rfl N_L_114 ?_
    refine v_icmp_ne C (t := 332) dL_isDug_325 rfl rfl (fun h => absurd h (by decide)) (fun _ => ?_)
    refine v_iconst C (v := 1) dL_isDug_328 rfl rfl ?_
    refine v_goto C (q := 333) dL_isDug_329 rfl ?_
    exact v_zret C rfl (bl hKc (Nat.le_of_ble_eq_true rfl)) (bl hKn (Nat.le_of_ble_eq_true rfl)) dL_isDug_333 ⟨rfl, _, _, _, _, _, hW, hJ.mono (by omega), hT.mono (by omega), by omega, by omega⟩

theorem sg_dug_E {X : XS} {G : GG} {w : va_W} {Q : State → Prop} {r : Nat → Nat} {s t : SS} {nm nc nr k B D : Nat} {X0 how : Nat} {mi yy : Nat} (C : Cx X G cL_isDug 23 RL (Option.some Jvm.ClassFile.FieldType.boolean) r_L_isDug "isDug" []) (hW : Wd G r s t nm nc nr w) (hJ : Js s nm nc nr k) (hk : k ≤ 130) (hT : K9 s t nm nc nr k) (hX : X0 < 100000000) (hhow : how < 46) (hnm : 0 < nm) (hmi : mi < nm) (hyy : yy < 100000000) (hKc : B + 4 ≤ r_L_isDug.cells) (hKn : D + 24 ≤ r_L_isDug.slots) (kk0 : V X G 23 w (B + 4) (D + 24) Q 553 [(0, .ref (r 4)), (1, .ref (r 0)), (2, .ref (r 2)), (3, .int (nI (how))), (4, .int (nI (X0))), (5, .int (nI (mi))), (6, .int (nI (yy))), (7, .int (bI (tn (s 17 mi) = 0))), (8, .int (nI (tn (s 13 mi)))), (9, .int (nI (tn (s 14 mi))))] []) (kk1 : V X G 23 w (B + 4) (D + 24) Q 697 [(0, .ref (r 4)), (1, .ref (r 0)), (2, .ref (r 2)), (3, .int (nI (how))), (4, .int (nI (X0))), (5, .int (nI (mi))), (6, .int (nI (yy))), (7, .int (bI (tn (s 17 mi) = 0))), (8, .int (nI (tn (s 13 mi)))), (9, .int (nI (tn (s 14 mi))))] []) (kk2 : V X G 23 w (B + 4) (D + 24) Q 765 [(0, .ref (r 4)), (1, .ref (r 0)), (2, .ref (r 2)), (3, .int (nI (how))), (4, .int (nI (X0))), (5, .int (nI (mi))), (6, .int (nI (yy))), (7, .int (bI (tn (s 17 mi) = 0))), (8, .int (nI (tn (s 13 mi)))), (9, .int (nI (tn (s 14 mi))))] []) : V X G 23 w B D Q 529 [(0, .ref (r 4)), (1, .ref (r 0)), (2, .ref (r 2)), (3, .int (nI (how))), (4, .int (nI (X0))), (5, .int (nI (mi))), (6, .int (nI (yy))), (7, .int (bI (tn (s 17 mi) = 0)))] [] := by
  have hst : X.2.1.stackTraces = false := C.2.2.2.2.2.1
  have hG : GOK G := C.2.2.2.2.2.2.2.2.2.1
  have hm := hJ.1.1
  refine v_aload_n C dL_isDug_529 rfl 0 rfl ?_
  refine v_iload C dL_isDug_530 rfl 5 rfl ?_
  refine v_iconst C (v := 0) dL_isDug_532 rfl rfl ?_
  refine q_m0 C hW hJ (i := mi) (by omega) (B + 2) (D + 12) ⟨⟨Nat.le_refl _, bl hKc (Nat.le_of_ble_eq_true rfl)⟩, Nat.le_refl _, bl hKn (Nat.le_of_ble_eq_true rfl)⟩ rfl dL_isDug_533 rfl (fun b1 => ?_)
  refine v_istore C (lv1 := [(8, .int (nI (tn (s 13 mi)))), (0, .ref (r 4)), (1, .ref (r 0)), (2, .ref (r 2)), (3, .int (nI (how))), (4, .int (nI (X0))), (5, .int (nI (mi))), (6, .int (nI (yy))), (7, .int (bI (tn (s 17 mi) = 0)))]) dL_isDug_536 rfl (by decide) rfl ?_
  refine v_aload_n C dL_isDug_538 rfl 1 rfl ?_
  refine v_iload C dL_isDug_539 rfl 6 rfl ?_
  refine v_iconst C (v := 1) dL_isDug_541 rfl rfl ?_
  refine q_m1 C hW hJ (i := mi) (by omega) (B + 4) (D + 24) ⟨⟨Nat.le_refl _, bl hKc (Nat.le_of_ble_eq_true rfl)⟩, Nat.le_refl _, bl hKn (Nat.le_of_ble_eq_true rfl)⟩ rfl dL_isDug_542 rfl (fun b2 => ?_)
  refine v_istore C (lv1 := [(9, .int (nI (tn (s 14 mi)))), (8, .int (nI (tn (s 13 mi)))), (0, .ref (r 4)), (1, .ref (r 0)), (2, .ref (r 2)), (3, .int (nI (how))), (4, .int (nI (X0))), (5, .int (nI (mi))), (6, .int (nI (yy))), (7, .int (bI (tn (s 17 mi) = 0)))]) dL_isDug_545 rfl (by decide) rfl ?_
  refine v_iload_n C dL_isDug_547 rfl 5 rfl ?_
  refine v_bipush C (v := 11) dL_isDug_548 rfl rfl ?_
  refine v_icN_ge C (t := 691) how 11 rfl rfl (by omega) (by omega) dL_isDug_550 rfl rfl (fun h3 => ?_) (fun h3 => ?_)
  · skip
    refine v_iload_n C dL_isDug_691 rfl 5 rfl ?_
    refine v_bipush C (v := 13) dL_isDug_692 rfl rfl ?_
    refine v_icN_ge C (t := 765) how 13 rfl rfl (by omega) (by omega) dL_isDug_694 rfl rfl (fun h4 => ?_) (fun h4 => ?_)
    · skip
      refine xx_lv [2, 3, 4, 5, 6, 7, 8, 9, 1, 0] (lv' := [(0, .ref (r 4)), (1, .ref (r 0)), (2, .ref (r 2)), (3, .int (nI (how))), (4, .int (nI (X0))), (5, .int (nI (mi))), (6, .int (nI (yy))), (7, .int (bI (tn (s 17 mi) = 0))), (8, .int (nI (tn (s 13 mi)))), (9, .int (nI (tn (s 14 mi))))]) rfl ?_
      exact xx_mono (bm (Nat.le_of_ble_eq_true rfl)) (bm (Nat.le_of_ble_eq_true rfl)) (kk2)
    · skip
      refine xx_lv [2, 3, 4, 5, 6, 7, 8, 9, 1, 0] (lv' := [(0, .ref (r 4)), (1, .ref (r 0)), (2, .ref (r 2)), (3, .int (nI (how))), (4, .int (nI (X0))), (5, .int (nI (mi))), (6, .int (nI (yy))), (7, .int (bI (tn (s 17 mi) = 0))), (8, .int (nI (tn (s 13 mi)))), (9, .int (nI (tn (s 14 mi))))]) rfl ?_
      exact xx_mono (bm (Nat.le_of_ble_eq_true rfl)) (bm (Nat.le_of_ble_eq_true rfl)) (kk1)
  · skip
    refine xx_lv [2, 3, 4, 5, 6, 7, 8, 9, 1, 0] (lv' := [(0, .ref (r 4)), (1, .ref (r 0)), (2, .ref (r 2)), (3, .int (nI (how))), (4, .int (nI (X0))), (5, .int (nI (mi))), (6, .int (nI (yy))), (7, .int (bI (tn (s 17 mi) = 0))), (8, .int (nI (tn (s 13 mi)))), (9, .int (nI (tn (s 14 mi))))]) rfl ?_
    exact xx_mono (bm (Nat.le_of_ble_eq_true rfl)) (bm (Nat.le_of_ble_eq_true rfl)) (kk0)

theorem sg_dug_S0 {X : XS} {G : GG} {w : va_W} {Q : State → Prop} {r : Nat → Nat} {s t : SS} {nm nc nr k B D : Nat} {X0 how : Nat} {mi yy : Nat} (C : Cx X G cL_isDug 23 RL (Option.some Jvm.ClassFile.FieldType.boolean) r_L_isDug "isDug" []) (hW : Wd G r s t nm nc nr w) (hJ : Js s nm nc nr k) (hk : k ≤ 130) (hT : K9 s t nm nc nr k) (hX : X0 < 100000000) (hhow : how < 46) (hnm : 0 < nm) (hmi : mi < nm) (hyy : yy < 100000000) (hKc : B + 0 ≤ r_L_isDug.cells) (hKn : D + 0 ≤ r_L_isDug.slots) (kk : ∀ ce, ce < 40 → ∀ i0, i0 < 10000 → V X G 23 w (B + 0) (D + 0) Q 582 [(0, .ref (r 4)), (1, .ref (r 0)), (2, .ref (r 2)), (3, .int (nI (how))), (4, .int (nI (X0))), (5, .int (nI (mi))), (6, .int (nI (yy))), (7, .int (bI (tn (s 17 mi) = 0))), (8, .int (nI (tn (s 13 mi)))), (9, .int (nI (tn (s 14 mi)))), (10, .int (nI (ce)))] [.int (nI (i0)), .int (1)]) : V X G 23 w B D Q 553 [(0, .ref (r 4)), (1, .ref (r 0)), (2, .ref (r 2)), (3, .int (nI (how))), (4, .int (nI (X0))), (5, .int (nI (mi))), (6, .int (nI (yy))), (7, .int (bI (tn (s 17 mi) = 0))), (8, .int (nI (tn (s 13 mi)))), (9, .int (nI (tn (s 14 mi))))] [] := by
  have hst : X.2.1.stackTraces = false := C.2.2.2.2.2.1
  have hG : GOK G := C.2.2.2.2.2.2.2.2.2.1
  have hm := hJ.1.1
  refine v_iload C dL_isDug_553 rfl 6 rfl ?_
  refine v_bipush C (v := 40) dL_isDug_555 rfl rfl ?_
  refine v_iremN C yy 40 rfl rfl (by omega) (by omega) (by omega) dL_isDug_557 rfl ?_
  have hce : yy % 40 < 40 := by omega
  generalize yy % 40 = ce at hce ⊢
  refine v_istore C (lv1 := [(10, .int (nI (ce))), (0, .ref (r 4)), (1, .ref (r 0)), (2, .ref (r 2)), (3, .int (nI (how))), (4, .int (nI (X0))), (5, .int (nI (mi))), (6, .int (nI (yy))), (7, .int (bI (tn (s 17 mi) = 0))), (8, .int (nI (tn (s 13 mi)))), (9, .int (nI (tn (s 14 mi))))]) dL_isDug_558 rfl (by decide) rfl ?_
  refine v_iconst C (v := 1) dL_isDug_560 rfl rfl ?_
  refine v_iload C dL_isDug_561 rfl 7 rfl ?_
  refine v_bipush C (v := 40) dL_isDug_563 rfl rfl ?_
  refine v_idivN C yy 40 rfl rfl (by omega) (by omega) (by omega) dL_isDug_565 rfl ?_
  refine v_iload C dL_isDug_566 rfl 7 rfl ?_
  refine v_iconst C (v := 5) dL_isDug_568 rfl rfl ?_
  refine v_iremN C yy 5 rfl rfl (by omega) (by omega) (by omega) dL_isDug_569 rfl ?_
  refine v_ifN_ne C (t := 579) (yy % 5) rfl (by omega) dL_isDug_570 rfl rfl (fun h1 => ?_) (fun h1 => ?_)
  · skip
    refine v_bipush C (v := 60) dL_isDug_579 rfl rfl ?_
    refine v_iremN C (yy / 40) 60 rfl rfl (by omega) (by omega) (by omega) dL_isDug_581 rfl ?_
    refine xx_lv [1, 2, 3, 4, 5, 6, 7, 8, 9, 10, 0] (lv' := [(0, .ref (r 4)), (1, .ref (r 0)), (2, .ref (r 2)), (3, .int (nI (how))), (4, .int (nI (X0))), (5, .int (nI (mi))), (6, .int (nI (yy))), (7, .int (bI (tn (s 17 mi) = 0))), (8, .int (nI (tn (s 13 mi)))), (9, .int (nI (tn (s 14 mi)))), (10, .int (nI (ce)))]) rfl ?_
    exact xx_mono (Nat.le_add_right _ _) (Nat.le_add_right _ _) (kk ce hce ((yy / 40) % 60) (by omega))
  · skip
    refine v_sipush C (v := 10000) dL_isDug_573 rfl rfl ?_
    refine v_goto C (q := 581) dL_isDug_576 rfl ?_
    refine v_iremN C (yy / 40) 10000 rfl rfl (by omega) (by omega) (by omega) dL_isDug_581 rfl ?_
    refine xx_lv [1, 2, 3, 4, 5, 6, 7, 8, 9, 10, 0] (lv' := [(0, .ref (r 4)), (1, .ref (r 0)), (2, .ref (r 2)), (3, .int (nI (how))), (4, .int (nI (X0))), (5, .int (nI (mi))), (6, .int (nI (yy))), (7, .int (bI (tn (s 17 mi) = 0))), (8, .int (nI (tn (s 13 mi)))), (9, .int (nI (tn (s 14 mi)))), (10, .int (nI (ce)))]) rfl ?_
    exact xx_mono (Nat.le_add_right _ _) (Nat.le_add_right _ _) (kk ce hce ((yy / 40) % 10000) (by omega))

theorem sg_dug_S1 {X : XS} {G : GG} {w : va_W} {r : Nat → Nat} {s t : SS} {nm nc nr k B D : Nat} {X0 how : Nat} {mi yy : Nat} {ce i0 : Nat} (C : Cx X G cL_isDug 23 RL (Option.some Jvm.ClassFile.FieldType.boolean) r_L_isDug "isDug" []) (hW : Wd G r s t nm nc nr w) (hJ : Js s nm nc nr k) (hk : k ≤ 130) (hT : K9 s t nm nc nr k) (hX : X0 < 100000000) (hhow : how < 46) (hnm : 0 < nm) (hmi : mi < nm) (hyy : yy < 100000000) (hce : ce < 40) (hi0 : i0 < 10000) (hKc : B + 12 ≤ r_L_isDug.cells) (hKn : D + 149 ≤ r_L_isDug.slots)  : V X G 23 w B D (Tg X G r_L_isDug (fun v w1 => v = some (.int 1) ∧ Nxt G r nm (k + 1) w1) nX) 582 [(0, .ref (r 4)), (1, .ref (r 0)), (2, .ref (r 2)), (3, .int (nI (how))), (4, .int (nI (X0))), (5, .int (nI (mi))), (6, .int (nI (yy))), (7, .int (bI (tn (s 17 mi) = 0))), (8, .int (nI (tn (s 13 mi)))), (9, .int (nI (tn (s 14 mi)))), (10, .int (nI (ce)))] [.int (nI (i0)), .int (1)] := by
  have hst : X.2.1.stackTraces = false := C.2.2.2.2.2.1
  have hG : GOK G := C.2.2.2.2.2.2.2.2.2.1
  have hm := hJ.1.1
  have h13b := (hJ.m13 hmi).2
  have h14b := (hJ.m14 hmi).2
  have h9b := (hJ.g9 hce).2
  have htt := hJ.tt
  have hs9 : SN (s 9) 40 ≤ tot s nm := by unfold tot; omega
  refine v_iaddN C 1 i0 rfl rfl dL_isDug_582 rfl ?_
  refine v_istore C (lv1 := [(11, .int (nI (1 + i0))), (0, .ref (r 4)), (1, .ref (r 0)), (2, .ref (r 2)), (3, .int (nI (how))), (4, .int (nI (X0))), (5, .int (nI (mi))), (6, .int (nI (yy))), (7, .int (bI (tn (s 17 mi) = 0))), (8, .int (nI (tn (s 13 mi)))), (9, .int (nI (tn (s 14 mi)))), (10, .int (nI (ce)))]) dL_isDug_583 rfl (by decide) rfl ?_
  refine v_aload_n C dL_isDug_585 rfl 1 rfl ?_
  refine v_iconst C (v := 0) dL_isDug_586 rfl rfl ?_
  refine q_g0 C hW hJ (B + 1) (D + 6) ⟨⟨Nat.le_refl _, bl hKc (Nat.le_of_ble_eq_true rfl)⟩, Nat.le_refl _, bl hKn (Nat.le_of_ble_eq_true rfl)⟩ rfl dL_isDug_587 rfl (fun b1 => ?_)
  refine v_istore C (lv1 := [(12, .int (nI (SN (s 9) 40))), (11, .int (nI (1 + i0))), (0, .ref (r 4)), (1, .ref (r 0)), (2, .ref (r 2)), (3, .int (nI (how))), (4, .int (nI (X0))), (5, .int (nI (mi))), (6, .int (nI (yy))), (7, .int (bI (tn (s 17 mi) = 0))), (8, .int (nI (tn (s 13 mi)))), (9, .int (nI (tn (s 14 mi)))), (10, .int (nI (ce)))]) dL_isDug_590 rfl (by decide) rfl ?_
  refine v_aload_n C dL_isDug_592 rfl 2 rfl ?_
  refine v_bipush C (v := 9) dL_isDug_593 rfl rfl ?_
  refine v_iload C dL_isDug_595 rfl 7 rfl ?_
  refine v_iload C dL_isDug_597 rfl 12 rfl ?_
  refine v_iload C dL_isDug_599 rfl 1 rfl ?_
  refine v_iconst C (v := 0) dL_isDug_601 rfl rfl ?_
  by_cases hd : tn (s 17 mi) = 0
  · skip
    refine l_actK C (ax_salt (s := s) (nm := nm) (nc := nc) (nr := nr) hst hG hW hJ.bs (e := 3) (cd := -1793000000) (e3_3 ⟨(mi_of hW.cnt.1 hmi (by omega)), cell_in hce⟩ ⟨nI_le (a := 1) (by omega) (by omega), nI_le (b := 10000) (by omega) (by omega)⟩ (by rw [tn_nI (show mi < 2 ^ 31 by omega), (hJ.m17 hmi).1.eq0, (hJ.m13 hmi).1.ltc (n := 1 + i0) (by omega)]; omega)) (by decide) xL3_3) (B + 8) (D + 125) ⟨⟨Nat.le_refl _, bl hKc (Nat.le_of_ble_eq_true rfl)⟩, Nat.le_refl _, bl hKn (Nat.le_of_ble_eq_true rfl)⟩ rfl dL_isDug_602 rfl (fun v_ w_ hv2 => ?_)
    obtain ⟨rfl, hw_, -⟩ := hv2
    rw [hw_]
    show V X G 23 _ _ _ _ _ _ [.int ((-1793000000))]
    refine v_istore C (lv1 := [(13, .int ((-1793000000))), (12, .int (nI (SN (s 9) 40))), (11, .int (nI (1 + i0))), (0, .ref (r 4)), (1, .ref (r 0)), (2, .ref (r 2)), (3, .int (nI (how))), (4, .int (nI (X0))), (5, .int (nI (mi))), (6, .int (nI (yy))), (7, .int (bI (tn (s 17 mi) = 0))), (8, .int (nI (tn (s 13 mi)))), (9, .int (nI (tn (s 14 mi)))), (10, .int (nI (ce)))]) dL_isDug_605 rfl (by decide) rfl ?_
    refine v_iload C dL_isDug_607 rfl 10 rfl ?_
    refine v_ifB_ne C (t := 619) dL_isDug_609 rfl rfl (fun _ => ?_) (fun h => absurd hd h)
    refine v_iload C dL_isDug_619 rfl 0 rfl ?_
    refine v_ldc C (v := (-1793000000)) dL_isDug_621 rfl N_L_114 ?_
    refine v_icmp_ne C (t := 630) dL_isDug_623 rfl rfl (fun h => absurd h (by decide)) (fun _ => ?_)
    refine v_iconst C (v := 1) dL_isDug_626 rfl rfl ?_
    refine v_goto C (q := 631) dL_isDug_627 rfl ?_
    exact v_zret C rfl (bl hKc (Nat.le_of_ble_eq_true rfl)) (bl hKn (Nat.le_of_ble_eq_true rfl)) dL_isDug_631 ⟨rfl, _, _, _, _, _, hW, hJ.mono (by omega), hT.mono (by omega), by omega, by omega⟩
  · skip
    by_cases hhas : 1 + i0 ≤ tn (s 13 mi)
    · skip
      have hP_ := P_salt hJ hT hk (x := mi) (c := ce) (m := 1 + i0) hmi hce (by omega)
      refine l_actK C (ao_salt (s := s) (nm := nm) (nc := nc) (nr := nr) hst hG hW hJ.bs (e3_0 ⟨(mi_of hW.cnt.1 hmi (by omega)), cell_in hce⟩ ⟨nI_le (a := 1) (by omega) (by omega), nI_le (b := 10000) (by omega) (by omega)⟩ (by rw [tn_nI (show mi < 2 ^ 31 by omega), (hJ.m17 hmi).1.eq0, (hJ.m13 hmi).1.ltc (n := 1 + i0) (by omega)]; omega))) (B + 8) (D + 125) ⟨⟨Nat.le_refl _, bl hKc (Nat.le_of_ble_eq_true rfl)⟩, Nat.le_refl _, bl hKn (Nat.le_of_ble_eq_true rfl)⟩ rfl dL_isDug_602 rfl (fun v_ w4 hv3 => ?_)
      obtain ⟨rfl, hW5⟩ := hv3
      show V X G 23 _ _ _ _ _ _ [.int (grF (saltUC s nc (nI (mi)) (nI (ce)) (nI (1 + i0))) (nI (ce)))]
      refine xx_top (y := nI (tn (s 9 ce) + (1 + i0))) hP_.2.2.1 ?_
      generalize saltUC s nc (nI (mi)) (nI (ce)) (nI (1 + i0)) = s1 at hP_ hW5
      obtain ⟨hJ1, hT1, -, f1, f2, f3⟩ := hP_
      refine v_istore C (lv1 := [(13, .int (nI (tn (s 9 ce) + (1 + i0)))), (12, .int (nI (SN (s 9) 40))), (11, .int (nI (1 + i0))), (0, .ref (r 4)), (1, .ref (r 0)), (2, .ref (r 2)), (3, .int (nI (how))), (4, .int (nI (X0))), (5, .int (nI (mi))), (6, .int (nI (yy))), (7, .int (bI (tn (s 17 mi) = 0))), (8, .int (nI (tn (s 13 mi)))), (9, .int (nI (tn (s 14 mi)))), (10, .int (nI (ce)))]) dL_isDug_605 rfl (by decide) rfl ?_
      refine v_iload C dL_isDug_607 rfl 10 rfl ?_
      refine v_ifB_ne C (t := 619) dL_isDug_609 rfl rfl (fun h => absurd h hd) (fun _ => ?_)
      refine v_iload C dL_isDug_612 rfl 11 rfl ?_
      refine v_iload C dL_isDug_614 rfl 2 rfl ?_
      refine v_icN_ge C (t := 632) (tn (s 13 mi)) (1 + i0) rfl rfl (by omega) (by omega) dL_isDug_616 rfl rfl (fun _ => ?_) (fun h => ((by omega : False)).elim)
      refine v_aload_n C dL_isDug_632 rfl 4 rfl ?_
      refine v_iconst C (v := 4) dL_isDug_633 rfl rfl ?_
      refine v_iconst C (v := 1) dL_isDug_634 rfl rfl ?_
      refine v_mst C hW5 0 (by decide) 4 (show 4 < 6 by omega) dL_isDug_635 rfl (fun w6 hW7 => ?_)
      refine v_iload C dL_isDug_636 rfl 0 rfl ?_
      refine v_iload C dL_isDug_638 rfl 2 rfl ?_
      refine v_icN_lt C (t := 689) (tn (s 9 ce) + (1 + i0)) (1 + i0) rfl rfl (by omega) (by omega) dL_isDug_640 rfl rfl (fun h => (by omega : False).elim) (fun h8 => ?_)
      refine v_iload C dL_isDug_643 rfl 0 rfl ?_
      refine v_bipush C (v := 100) dL_isDug_645 rfl rfl ?_
      refine v_idivN C (tn (s 9 ce) + (1 + i0)) 100 rfl rfl (by omega) (by omega) (by omega) dL_isDug_647 rfl ?_
      refine v_aload_n C dL_isDug_648 rfl 3 rfl ?_
      refine v_iload C dL_isDug_649 rfl 13 rfl ?_
      refine q_sample C hW7 hJ1 (i := ce) (by omega) (B + 9) (D + 131) ⟨⟨Nat.le_refl _, bl hKc (Nat.le_of_ble_eq_true rfl)⟩, Nat.le_refl _, bl hKn (Nat.le_of_ble_eq_true rfl)⟩ rfl dL_isDug_651 rfl (fun b9 => ?_)
      refine v_icN_ne C (t := 689) ((tn (s 9 ce) + (1 + i0)) / 100) (tn (s1 9 ce) / 100) rfl rfl (by omega) (by omega) dL_isDug_654 rfl rfl (fun h => (by omega : False).elim) (fun h10 => ?_)
      refine v_aload_n C dL_isDug_657 rfl 3 rfl ?_
      refine v_iconst C (v := 0) dL_isDug_658 rfl rfl ?_
      refine q_g0 C hW7 hJ1 (B + 10) (D + 137) ⟨⟨Nat.le_refl _, bl hKc (Nat.le_of_ble_eq_true rfl)⟩, Nat.le_refl _, bl hKn (Nat.le_of_ble_eq_true rfl)⟩ rfl dL_isDug_659 rfl (fun b11 => ?_)
      refine v_iload C dL_isDug_662 rfl 1 rfl ?_
      refine v_iload C dL_isDug_664 rfl 2 rfl ?_
      refine v_iaddN C (SN (s 9) 40) (1 + i0) rfl rfl dL_isDug_666 rfl ?_
      refine v_icN_ne C (t := 689) (SN (s1 9) 40) ((SN (s 9) 40) + (1 + i0)) rfl rfl (by omega) (by omega) dL_isDug_667 rfl rfl (fun h => (by omega : False).elim) (fun h12 => ?_)
      refine v_aload_n C dL_isDug_670 rfl 3 rfl ?_
      refine v_iload C dL_isDug_671 rfl 8 rfl ?_
      refine v_iconst C (v := 0) dL_isDug_673 rfl rfl ?_
      refine q_m0 C hW7 hJ1 (i := mi) (by omega) (B + 12) (D + 149) ⟨⟨Nat.le_refl _, bl hKc (Nat.le_of_ble_eq_true rfl)⟩, Nat.le_refl _, bl hKn (Nat.le_of_ble_eq_true rfl)⟩ rfl dL_isDug_674 rfl (fun b13 => ?_)
      refine v_iload C dL_isDug_677 rfl 11 rfl ?_
      refine v_iload C dL_isDug_679 rfl 2 rfl ?_
      refine v_isubN C (tn (s 13 mi)) (1 + i0) (by omega) rfl rfl dL_isDug_681 rfl ?_
      refine v_icN_ne C (t := 689) (tn (s1 13 mi)) ((tn (s 13 mi)) - (1 + i0)) rfl rfl (by omega) (by omega) dL_isDug_682 rfl rfl (fun h => (by omega : False).elim) (fun h14 => ?_)
      refine v_iconst C (v := 1) dL_isDug_685 rfl rfl ?_
      refine v_goto C (q := 690) dL_isDug_686 rfl ?_
      exact v_zret C rfl (bl hKc (Nat.le_of_ble_eq_true rfl)) (bl hKn (Nat.le_of_ble_eq_true rfl)) dL_isDug_690 ⟨rfl, _, _, _, _, _, hW7, hJ1.mono (by omega), hT1 _ rfl, by omega, by omega⟩
    · skip
      refine l_actK C (ax_salt (s := s) (nm := nm) (nc := nc) (nr := nr) hst hG hW hJ.bs (e := 3) (cd := -1793000000) (e3_3 ⟨(mi_of hW.cnt.1 hmi (by omega)), cell_in hce⟩ ⟨nI_le (a := 1) (by omega) (by omega), nI_le (b := 10000) (by omega) (by omega)⟩ (by rw [tn_nI (show mi < 2 ^ 31 by omega), (hJ.m17 hmi).1.eq0, (hJ.m13 hmi).1.ltc (n := 1 + i0) (by omega)]; omega)) (by decide) xL3_3) (B + 8) (D + 125) ⟨⟨Nat.le_refl _, bl hKc (Nat.le_of_ble_eq_true rfl)⟩, Nat.le_refl _, bl hKn (Nat.le_of_ble_eq_true rfl)⟩ rfl dL_isDug_602 rfl (fun v_ w_ hv15 => ?_)
      obtain ⟨rfl, hw_, -⟩ := hv15
      rw [hw_]
      show V X G 23 _ _ _ _ _ _ [.int ((-1793000000))]
      refine v_istore C (lv1 := [(13, .int ((-1793000000))), (12, .int (nI (SN (s 9) 40))), (11, .int (nI (1 + i0))), (0, .ref (r 4)), (1, .ref (r 0)), (2, .ref (r 2)), (3, .int (nI (how))), (4, .int (nI (X0))), (5, .int (nI (mi))), (6, .int (nI (yy))), (7, .int (bI (tn (s 17 mi) = 0))), (8, .int (nI (tn (s 13 mi)))), (9, .int (nI (tn (s 14 mi)))), (10, .int (nI (ce)))]) dL_isDug_605 rfl (by decide) rfl ?_
      refine v_iload C dL_isDug_607 rfl 10 rfl ?_
      refine v_ifB_ne C (t := 619) dL_isDug_609 rfl rfl (fun h => absurd h hd) (fun _ => ?_)
      refine v_iload C dL_isDug_612 rfl 11 rfl ?_
      refine v_iload C dL_isDug_614 rfl 2 rfl ?_
      refine v_icN_ge C (t := 632) (tn (s 13 mi)) (1 + i0) rfl rfl (by omega) (by omega) dL_isDug_616 rfl rfl (fun h => ((by omega : False)).elim) (fun _ => ?_)
      refine v_iload C dL_isDug_619 rfl 0 rfl ?_
      refine v_ldc C (v := (-1793000000)) dL_isDug_621 rfl N_L_114 ?_
      refine v_icmp_ne C (t := 630) dL_isDug_623 rfl rfl (fun h => absurd h (by decide)) (fun _ => ?_)
      refine v_iconst C (v := 1) dL_isDug_626 rfl rfl ?_
      refine v_goto C (q := 631) dL_isDug_627 rfl ?_
      exact v_zret C rfl (bl hKc (Nat.le_of_ble_eq_true rfl)) (bl hKn (Nat.le_of_ble_eq_true rfl)) dL_isDug_631 ⟨rfl, _, _, _, _, _, hW, hJ.mono (by omega), hT.mono (by omega), by omega, by omega⟩

theorem sg_dug_B0 {X : XS} {G : GG} {w : va_W} {Q : State → Prop} {r : Nat → Nat} {s t : SS} {nm nc nr k B D : Nat} {X0 how : Nat} {mi yy : Nat} (C : Cx X G cL_isDug 23 RL (Option.some Jvm.ClassFile.FieldType.boolean) r_L_isDug "isDug" []) (hW : Wd G r s t nm nc nr w) (hJ : Js s nm nc nr k) (hk : k ≤ 130) (hT : K9 s t nm nc nr k) (hX : X0 < 100000000) (hhow : how < 46) (hnm : 0 < nm) (hmi : mi < nm) (hyy : yy < 100000000) (hKc : B + 0 ≤ r_L_isDug.cells) (hKn : D + 0 ≤ r_L_isDug.slots) (kk : ∀ i0, i0 < 10000 → V X G 23 w (B + 0) (D + 0) Q 716 [(0, .ref (r 4)), (1, .ref (r 0)), (2, .ref (r 2)), (3, .int (nI (how))), (4, .int (nI (X0))), (5, .int (nI (mi))), (6, .int (nI (yy))), (7, .int (bI (tn (s 17 mi) = 0))), (8, .int (nI (tn (s 13 mi)))), (9, .int (nI (tn (s 14 mi))))] [.int (nI (i0)), .int (1)]) : V X G 23 w B D Q 697 [(0, .ref (r 4)), (1, .ref (r 0)), (2, .ref (r 2)), (3, .int (nI (how))), (4, .int (nI (X0))), (5, .int (nI (mi))), (6, .int (nI (yy))), (7, .int (bI (tn (s 17 mi) = 0))), (8, .int (nI (tn (s 13 mi)))), (9, .int (nI (tn (s 14 mi))))] [] := by
  have hst : X.2.1.stackTraces = false := C.2.2.2.2.2.1
  have hG : GOK G := C.2.2.2.2.2.2.2.2.2.1
  have hm := hJ.1.1
  refine v_iconst C (v := 1) dL_isDug_697 rfl rfl ?_
  refine v_iload C dL_isDug_698 rfl 6 rfl ?_
  refine v_iload C dL_isDug_700 rfl 6 rfl ?_
  refine v_iconst C (v := 4) dL_isDug_702 rfl rfl ?_
  refine v_iremN C yy 4 rfl rfl (by omega) (by omega) (by omega) dL_isDug_703 rfl ?_
  refine v_ifN_ne C (t := 713) (yy % 4) rfl (by omega) dL_isDug_704 rfl rfl (fun h1 => ?_) (fun h1 => ?_)
  · skip
    refine v_bipush C (v := 12) dL_isDug_713 rfl rfl ?_
    refine v_iremN C yy 12 rfl rfl (by omega) (by omega) (by omega) dL_isDug_715 rfl ?_
    refine xx_lv [0, 1, 2, 3, 4, 5, 6, 7, 8, 9] (lv' := [(0, .ref (r 4)), (1, .ref (r 0)), (2, .ref (r 2)), (3, .int (nI (how))), (4, .int (nI (X0))), (5, .int (nI (mi))), (6, .int (nI (yy))), (7, .int (bI (tn (s 17 mi) = 0))), (8, .int (nI (tn (s 13 mi)))), (9, .int (nI (tn (s 14 mi))))]) rfl ?_
    exact xx_mono (Nat.le_add_right _ _) (Nat.le_add_right _ _) (kk (yy % 12) (by omega))
  · skip
    refine v_sipush C (v := 10000) dL_isDug_707 rfl rfl ?_
    refine v_goto C (q := 715) dL_isDug_710 rfl ?_
    refine v_iremN C yy 10000 rfl rfl (by omega) (by omega) (by omega) dL_isDug_715 rfl ?_
    refine xx_lv [0, 1, 2, 3, 4, 5, 6, 7, 8, 9] (lv' := [(0, .ref (r 4)), (1, .ref (r 0)), (2, .ref (r 2)), (3, .int (nI (how))), (4, .int (nI (X0))), (5, .int (nI (mi))), (6, .int (nI (yy))), (7, .int (bI (tn (s 17 mi) = 0))), (8, .int (nI (tn (s 13 mi)))), (9, .int (nI (tn (s 14 mi))))]) rfl ?_
    exact xx_mono (Nat.le_add_right _ _) (Nat.le_add_right _ _) (kk (yy % 10000) (by omega))

theorem sg_dug_B1 {X : XS} {G : GG} {w : va_W} {r : Nat → Nat} {s t : SS} {nm nc nr k B D : Nat} {X0 how : Nat} {mi yy : Nat} {i0 : Nat} (C : Cx X G cL_isDug 23 RL (Option.some Jvm.ClassFile.FieldType.boolean) r_L_isDug "isDug" []) (hW : Wd G r s t nm nc nr w) (hJ : Js s nm nc nr k) (hk : k ≤ 130) (hT : K9 s t nm nc nr k) (hX : X0 < 100000000) (hhow : how < 46) (hnm : 0 < nm) (hmi : mi < nm) (hyy : yy < 100000000) (hi0 : i0 < 10000) (hKc : B + 7 ≤ r_L_isDug.cells) (hKn : D + 119 ≤ r_L_isDug.slots)  : V X G 23 w B D (Tg X G r_L_isDug (fun v w1 => v = some (.int 1) ∧ Nxt G r nm (k + 1) w1) nX) 716 [(0, .ref (r 4)), (1, .ref (r 0)), (2, .ref (r 2)), (3, .int (nI (how))), (4, .int (nI (X0))), (5, .int (nI (mi))), (6, .int (nI (yy))), (7, .int (bI (tn (s 17 mi) = 0))), (8, .int (nI (tn (s 13 mi)))), (9, .int (nI (tn (s 14 mi))))] [.int (nI (i0)), .int (1)] := by
  have hst : X.2.1.stackTraces = false := C.2.2.2.2.2.1
  have hG : GOK G := C.2.2.2.2.2.2.2.2.2.1
  have hm := hJ.1.1
  have h13b := (hJ.m13 hmi).2
  have h14b := (hJ.m14 hmi).2
  refine v_iaddN C 1 i0 rfl rfl dL_isDug_716 rfl ?_
  refine v_istore C (lv1 := [(10, .int (nI (1 + i0))), (0, .ref (r 4)), (1, .ref (r 0)), (2, .ref (r 2)), (3, .int (nI (how))), (4, .int (nI (X0))), (5, .int (nI (mi))), (6, .int (nI (yy))), (7, .int (bI (tn (s 17 mi) = 0))), (8, .int (nI (tn (s 13 mi)))), (9, .int (nI (tn (s 14 mi))))]) dL_isDug_717 rfl (by decide) rfl ?_
  refine v_aload_n C dL_isDug_719 rfl 1 rfl ?_
  refine v_bipush C (v := 10) dL_isDug_720 rfl rfl ?_
  refine v_iload C dL_isDug_722 rfl 6 rfl ?_
  refine v_iload C dL_isDug_724 rfl 0 rfl ?_
  refine v_iconst C (v := 0) dL_isDug_726 rfl rfl ?_
  refine v_iconst C (v := 0) dL_isDug_727 rfl rfl ?_
  by_cases hd : tn (s 17 mi) = 0
  · skip
    refine l_actK C (ax_brass (s := s) (nm := nm) (nc := nc) (nr := nr) hst hG hW hJ.bs (e := 3) (cd := -1793000000) (e3_3 (mi_of hW.cnt.1 hmi (by omega)) ⟨nI_le (a := 1) (by omega) (by omega), nI_le (b := 10000) (by omega) (by omega)⟩ (by rw [tn_nI (show mi < 2 ^ 31 by omega), (hJ.m17 hmi).1.eq0, (hJ.m14 hmi).1.e, nI_add, show (100000 : Int32) = nI 100000 from rfl, nI_ltI (by omega) (by omega)]; omega)) (by decide) xL3_3) (B + 7) (D + 119) ⟨⟨Nat.le_refl _, bl hKc (Nat.le_of_ble_eq_true rfl)⟩, Nat.le_refl _, bl hKn (Nat.le_of_ble_eq_true rfl)⟩ rfl dL_isDug_728 rfl (fun v_ w_ hv1 => ?_)
    obtain ⟨rfl, hw_, -⟩ := hv1
    rw [hw_]
    show V X G 23 _ _ _ _ _ _ [.int ((-1793000000))]
    refine v_iload C dL_isDug_731 rfl 8 rfl ?_
    refine v_ifB_ne C (t := 746) dL_isDug_733 rfl rfl (fun _ => ?_) (fun h => absurd hd h)
    refine v_ldc C (v := (-1793000000)) dL_isDug_746 rfl N_L_114 ?_
    refine v_goto C (q := 756) dL_isDug_748 rfl ?_
    refine v_icmp_ne C (t := 763) dL_isDug_756 rfl rfl (fun h => absurd h (by decide)) (fun _ => ?_)
    refine v_iconst C (v := 1) dL_isDug_759 rfl rfl ?_
    refine v_goto C (q := 764) dL_isDug_760 rfl ?_
    exact v_zret C rfl (bl hKc (Nat.le_of_ble_eq_true rfl)) (bl hKn (Nat.le_of_ble_eq_true rfl)) dL_isDug_764 ⟨rfl, _, _, _, _, _, hW, hJ.mono (by omega), hT.mono (by omega), by omega, by omega⟩
  · skip
    by_cases hover : 100000 < tn (s 14 mi) + (1 + i0)
    · skip
      refine l_actK C (ax_brass (s := s) (nm := nm) (nc := nc) (nr := nr) hst hG hW hJ.bs (e := 3) (cd := -1793000000) (e3_3 (mi_of hW.cnt.1 hmi (by omega)) ⟨nI_le (a := 1) (by omega) (by omega), nI_le (b := 10000) (by omega) (by omega)⟩ (by rw [tn_nI (show mi < 2 ^ 31 by omega), (hJ.m17 hmi).1.eq0, (hJ.m14 hmi).1.e, nI_add, show (100000 : Int32) = nI 100000 from rfl, nI_ltI (by omega) (by omega)]; omega)) (by decide) xL3_3) (B + 7) (D + 119) ⟨⟨Nat.le_refl _, bl hKc (Nat.le_of_ble_eq_true rfl)⟩, Nat.le_refl _, bl hKn (Nat.le_of_ble_eq_true rfl)⟩ rfl dL_isDug_728 rfl (fun v_ w_ hv2 => ?_)
      obtain ⟨rfl, hw_, -⟩ := hv2
      rw [hw_]
      show V X G 23 _ _ _ _ _ _ [.int ((-1793000000))]
      refine v_iload C dL_isDug_731 rfl 8 rfl ?_
      refine v_ifB_ne C (t := 746) dL_isDug_733 rfl rfl (fun h => absurd h hd) (fun _ => ?_)
      refine v_iload C dL_isDug_736 rfl 10 rfl ?_
      refine v_iload C dL_isDug_738 rfl 0 rfl ?_
      refine v_iaddN C (tn (s 14 mi)) (1 + i0) rfl rfl dL_isDug_740 rfl ?_
      refine v_ldc C (v := 100000) dL_isDug_741 rfl N_L_153 ?_
      refine v_icN_le C (t := 751) ((tn (s 14 mi)) + (1 + i0)) 100000 rfl rfl (by omega) (by omega) dL_isDug_743 rfl rfl (fun h => ((by omega : False)).elim) (fun _ => ?_)
      refine v_ldc C (v := (-1793000000)) dL_isDug_746 rfl N_L_114 ?_
      refine v_goto C (q := 756) dL_isDug_748 rfl ?_
      refine v_icmp_ne C (t := 763) dL_isDug_756 rfl rfl (fun h => absurd h (by decide)) (fun _ => ?_)
      refine v_iconst C (v := 1) dL_isDug_759 rfl rfl ?_
      refine v_goto C (q := 764) dL_isDug_760 rfl ?_
      exact v_zret C rfl (bl hKc (Nat.le_of_ble_eq_true rfl)) (bl hKn (Nat.le_of_ble_eq_true rfl)) dL_isDug_764 ⟨rfl, _, _, _, _, _, hW, hJ.mono (by omega), hT.mono (by omega), by omega, by omega⟩
    · skip
      have hP_ := P_brass hJ hT (x := mi) (m := 1 + i0) hmi (by omega)
      refine l_actK C (ao_brass (s := s) (nm := nm) (nc := nc) (nr := nr) hst hG hW hJ.bs (e3_0 (mi_of hW.cnt.1 hmi (by omega)) ⟨nI_le (a := 1) (by omega) (by omega), nI_le (b := 10000) (by omega) (by omega)⟩ (by rw [tn_nI (show mi < 2 ^ 31 by omega), (hJ.m17 hmi).1.eq0, (hJ.m14 hmi).1.e, nI_add, show (100000 : Int32) = nI 100000 from rfl, nI_ltI (by omega) (by omega)]; omega))) (B + 7) (D + 119) ⟨⟨Nat.le_refl _, bl hKc (Nat.le_of_ble_eq_true rfl)⟩, Nat.le_refl _, bl hKn (Nat.le_of_ble_eq_true rfl)⟩ rfl dL_isDug_728 rfl (fun v_ w4 hv3 => ?_)
      obtain ⟨rfl, hW5⟩ := hv3
      show V X G 23 _ _ _ _ _ _ [.int (brassR s (nI (mi)) (nI (1 + i0)))]
      refine xx_top (y := nI (tn (s 14 mi) + (1 + i0))) (by unfold brassR; rw [tn_nI (show mi < 2 ^ 31 by omega)]; exact hP_.2.2) ?_
      generalize brassU s (nI (mi)) (nI (1 + i0)) = s1 at hP_ hW5
      obtain ⟨hJ1, hT1, -⟩ := hP_
      refine v_iload C dL_isDug_731 rfl 8 rfl ?_
      refine v_ifB_ne C (t := 746) dL_isDug_733 rfl rfl (fun h => absurd h hd) (fun _ => ?_)
      refine v_iload C dL_isDug_736 rfl 10 rfl ?_
      refine v_iload C dL_isDug_738 rfl 0 rfl ?_
      refine v_iaddN C (tn (s 14 mi)) (1 + i0) rfl rfl dL_isDug_740 rfl ?_
      refine v_ldc C (v := 100000) dL_isDug_741 rfl N_L_153 ?_
      refine v_icN_le C (t := 751) ((tn (s 14 mi)) + (1 + i0)) 100000 rfl rfl (by omega) (by omega) dL_isDug_743 rfl rfl (fun _ => ?_) (fun h => ((by omega : False)).elim)
      refine v_iload C dL_isDug_751 rfl 10 rfl ?_
      refine v_iload C dL_isDug_753 rfl 0 rfl ?_
      refine v_iaddN C (tn (s 14 mi)) (1 + i0) rfl rfl dL_isDug_755 rfl ?_
      refine v_icN_ne C (t := 763) (tn (s 14 mi) + (1 + i0)) ((tn (s 14 mi)) + (1 + i0)) rfl rfl (by omega) (by omega) dL_isDug_756 rfl rfl (fun h => ((by omega : False)).elim) (fun _ => ?_)
      refine v_iconst C (v := 1) dL_isDug_759 rfl rfl ?_
      refine v_goto C (q := 764) dL_isDug_760 rfl ?_
      exact v_zret C rfl (bl hKc (Nat.le_of_ble_eq_true rfl)) (bl hKn (Nat.le_of_ble_eq_true rfl)) dL_isDug_764 ⟨rfl, _, _, _, _, _, hW5, hJ1.mono (by omega), hT1, by omega, by omega⟩

theorem sg_dug_Q0 {X : XS} {G : GG} {w : va_W} {Q : State → Prop} {r : Nat → Nat} {s t : SS} {nm nc nr k B D : Nat} {X0 how : Nat} {mi yy : Nat} (C : Cx X G cL_isDug 23 RL (Option.some Jvm.ClassFile.FieldType.boolean) r_L_isDug "isDug" []) (hW : Wd G r s t nm nc nr w) (hJ : Js s nm nc nr k) (hk : k ≤ 130) (hT : K9 s t nm nc nr k) (hX : X0 < 100000000) (hhow : how < 46) (hnm : 0 < nm) (hmi : mi < nm) (hyy : yy < 100000000) (hKc : B + 0 ≤ r_L_isDug.cells) (hKn : D + 0 ≤ r_L_isDug.slots) (kk : ∀ d, 1 ≤ d → d ≤ 900000 → V X G 23 w (B + 0) (D + 0) Q 798 [(0, .ref (r 4)), (1, .ref (r 0)), (2, .ref (r 2)), (3, .int (nI (how))), (4, .int (nI (X0))), (5, .int (nI (mi))), (6, .int (nI (yy))), (7, .int (bI (tn (s 17 mi) = 0))), (8, .int (nI (tn (s 13 mi)))), (9, .int (nI (tn (s 14 mi))))] [.int (nI (d))]) : V X G 23 w B D Q 765 [(0, .ref (r 4)), (1, .ref (r 0)), (2, .ref (r 2)), (3, .int (nI (how))), (4, .int (nI (X0))), (5, .int (nI (mi))), (6, .int (nI (yy))), (7, .int (bI (tn (s 17 mi) = 0))), (8, .int (nI (tn (s 13 mi)))), (9, .int (nI (tn (s 14 mi))))] [] := by
  have hst : X.2.1.stackTraces = false := C.2.2.2.2.2.1
  have hG : GOK G := C.2.2.2.2.2.2.2.2.2.1
  have hm := hJ.1.1
  have h13b := (hJ.m13 hmi).2
  have h14b := (hJ.m14 hmi).2
  refine v_iload C dL_isDug_765 rfl 6 rfl ?_
  refine v_iconst C (v := 4) dL_isDug_767 rfl rfl ?_
  refine v_iremN C yy 4 rfl rfl (by omega) (by omega) (by omega) dL_isDug_768 rfl ?_
  refine v_ifN_ne C (t := 788) (yy % 4) rfl (by omega) dL_isDug_769 rfl rfl (fun h1 => ?_) (fun h1 => ?_)
  · skip
    refine v_iconst C (v := 1) dL_isDug_788 rfl rfl ?_
    refine v_iload C dL_isDug_789 rfl 6 rfl ?_
    refine v_iconst C (v := 4) dL_isDug_791 rfl rfl ?_
    refine v_idivN C yy 4 rfl rfl (by omega) (by omega) (by omega) dL_isDug_792 rfl ?_
    refine v_sipush C (v := 300) dL_isDug_793 rfl rfl ?_
    refine v_iremN C (yy / 4) 300 rfl rfl (by omega) (by omega) (by omega) dL_isDug_796 rfl ?_
    refine v_iaddN C 1 ((yy / 4) % 300) rfl rfl dL_isDug_797 rfl ?_
    refine xx_lv [0, 1, 2, 3, 4, 5, 6, 7, 8, 9] (lv' := [(0, .ref (r 4)), (1, .ref (r 0)), (2, .ref (r 2)), (3, .int (nI (how))), (4, .int (nI (X0))), (5, .int (nI (mi))), (6, .int (nI (yy))), (7, .int (bI (tn (s 17 mi) = 0))), (8, .int (nI (tn (s 13 mi)))), (9, .int (nI (tn (s 14 mi))))]) rfl ?_
    exact xx_mono (Nat.le_add_right _ _) (Nat.le_add_right _ _) (kk (1 + ((yy / 4) % 300)) (by omega) (by omega))
  · skip
    refine v_iload C dL_isDug_772 rfl 8 rfl ?_
    refine v_iload C dL_isDug_774 rfl 9 rfl ?_
    refine v_iaddN C (tn (s 13 mi)) (tn (s 14 mi)) rfl rfl dL_isDug_776 rfl ?_
    refine v_ifN_le C (t := 788) ((tn (s 13 mi)) + (tn (s 14 mi))) rfl (by omega) dL_isDug_777 rfl rfl (fun h2 => ?_) (fun h2 => ?_)
    · skip
      refine v_iconst C (v := 1) dL_isDug_788 rfl rfl ?_
      refine v_iload C dL_isDug_789 rfl 6 rfl ?_
      refine v_iconst C (v := 4) dL_isDug_791 rfl rfl ?_
      refine v_idivN C yy 4 rfl rfl (by omega) (by omega) (by omega) dL_isDug_792 rfl ?_
      refine v_sipush C (v := 300) dL_isDug_793 rfl rfl ?_
      refine v_iremN C (yy / 4) 300 rfl rfl (by omega) (by omega) (by omega) dL_isDug_796 rfl ?_
      refine v_iaddN C 1 ((yy / 4) % 300) rfl rfl dL_isDug_797 rfl ?_
      refine xx_lv [0, 1, 2, 3, 4, 5, 6, 7, 8, 9] (lv' := [(0, .ref (r 4)), (1, .ref (r 0)), (2, .ref (r 2)), (3, .int (nI (how))), (4, .int (nI (X0))), (5, .int (nI (mi))), (6, .int (nI (yy))), (7, .int (bI (tn (s 17 mi) = 0))), (8, .int (nI (tn (s 13 mi)))), (9, .int (nI (tn (s 14 mi))))]) rfl ?_
      exact xx_mono (Nat.le_add_right _ _) (Nat.le_add_right _ _) (kk (1 + ((yy / 4) % 300)) (by omega) (by omega))
    · skip
      refine v_iload C dL_isDug_780 rfl 8 rfl ?_
      refine v_iload C dL_isDug_782 rfl 9 rfl ?_
      refine v_iaddN C (tn (s 13 mi)) (tn (s 14 mi)) rfl rfl dL_isDug_784 rfl ?_
      refine v_goto C (q := 798) dL_isDug_785 rfl ?_
      refine xx_lv [0, 1, 2, 3, 4, 5, 6, 7, 8, 9] (lv' := [(0, .ref (r 4)), (1, .ref (r 0)), (2, .ref (r 2)), (3, .int (nI (how))), (4, .int (nI (X0))), (5, .int (nI (mi))), (6, .int (nI (yy))), (7, .int (bI (tn (s 17 mi) = 0))), (8, .int (nI (tn (s 13 mi)))), (9, .int (nI (tn (s 14 mi))))]) rfl ?_
      exact xx_mono (Nat.le_add_right _ _) (Nat.le_add_right _ _) (kk ((tn (s 13 mi)) + (tn (s 14 mi))) (by omega) (by omega))

theorem sg_dug_Q1 {X : XS} {G : GG} {w : va_W} {r : Nat → Nat} {s t : SS} {nm nc nr k B D : Nat} {X0 how : Nat} {mi yy : Nat} {d : Nat} (C : Cx X G cL_isDug 23 RL (Option.some Jvm.ClassFile.FieldType.boolean) r_L_isDug "isDug" []) (hW : Wd G r s t nm nc nr w) (hJ : Js s nm nc nr k) (hk : k ≤ 130) (hT : K9 s t nm nc nr k) (hX : X0 < 100000000) (hhow : how < 46) (hnm : 0 < nm) (hmi : mi < nm) (hyy : yy < 100000000) (hd1 : 1 ≤ d) (hd2 : d ≤ 900000) (hKc : B + 23 ≤ r_L_isDug.cells) (hKn : D + 215 ≤ r_L_isDug.slots)  : V X G 23 w B D (Tg X G r_L_isDug (fun v w1 => v = some (.int 1) ∧ Nxt G r nm (k + 1) w1) nX) 798 [(0, .ref (r 4)), (1, .ref (r 0)), (2, .ref (r 2)), (3, .int (nI (how))), (4, .int (nI (X0))), (5, .int (nI (mi))), (6, .int (nI (yy))), (7, .int (bI (tn (s 17 mi) = 0))), (8, .int (nI (tn (s 13 mi)))), (9, .int (nI (tn (s 14 mi))))] [.int (nI (d))] := by
  have hst : X.2.1.stackTraces = false := C.2.2.2.2.2.1
  have hG : GOK G := C.2.2.2.2.2.2.2.2.2.1
  have hm := hJ.1.1
  have h13b := (hJ.m13 hmi).2
  have h14b := (hJ.m14 hmi).2
  have h16b := (hJ.m16 hmi).2
  have h18b := (hJ.m18 hmi).2
  have htt := hJ.tt
  have h7b : tn (s 7 0) ≤ tot s nm := by unfold tot; omega
  refine v_istore C (lv1 := [(10, .int (nI (d))), (0, .ref (r 4)), (1, .ref (r 0)), (2, .ref (r 2)), (3, .int (nI (how))), (4, .int (nI (X0))), (5, .int (nI (mi))), (6, .int (nI (yy))), (7, .int (bI (tn (s 17 mi) = 0))), (8, .int (nI (tn (s 13 mi)))), (9, .int (nI (tn (s 14 mi))))]) dL_isDug_798 rfl (by decide) rfl ?_
  refine v_aload_n C dL_isDug_800 rfl 1 rfl ?_
  refine v_iload C dL_isDug_801 rfl 6 rfl ?_
  refine v_iconst C (v := 3) dL_isDug_803 rfl rfl ?_
  refine q_m3 C hW hJ (i := mi) (by omega) (B + 2) (D + 12) ⟨⟨Nat.le_refl _, bl hKc (Nat.le_of_ble_eq_true rfl)⟩, Nat.le_refl _, bl hKn (Nat.le_of_ble_eq_true rfl)⟩ rfl dL_isDug_804 rfl (fun b1 => ?_)
  refine v_istore C (lv1 := [(11, .int (nI (tn (s 16 mi)))), (10, .int (nI (d))), (0, .ref (r 4)), (1, .ref (r 0)), (2, .ref (r 2)), (3, .int (nI (how))), (4, .int (nI (X0))), (5, .int (nI (mi))), (6, .int (nI (yy))), (7, .int (bI (tn (s 17 mi) = 0))), (8, .int (nI (tn (s 13 mi)))), (9, .int (nI (tn (s 14 mi))))]) dL_isDug_807 rfl (by decide) rfl ?_
  refine v_aload_n C dL_isDug_809 rfl 2 rfl ?_
  refine v_iload C dL_isDug_810 rfl 7 rfl ?_
  refine v_bipush C (v := 6) dL_isDug_812 rfl rfl ?_
  refine q_m6 C hW hJ (i := mi) (by omega) (B + 4) (D + 24) ⟨⟨Nat.le_refl _, bl hKc (Nat.le_of_ble_eq_true rfl)⟩, Nat.le_refl _, bl hKn (Nat.le_of_ble_eq_true rfl)⟩ rfl dL_isDug_814 rfl (fun b2 => ?_)
  refine v_istore C (lv1 := [(12, .int (nI (tn (s 18 mi)))), (11, .int (nI (tn (s 16 mi)))), (10, .int (nI (d))), (0, .ref (r 4)), (1, .ref (r 0)), (2, .ref (r 2)), (3, .int (nI (how))), (4, .int (nI (X0))), (5, .int (nI (mi))), (6, .int (nI (yy))), (7, .int (bI (tn (s 17 mi) = 0))), (8, .int (nI (tn (s 13 mi)))), (9, .int (nI (tn (s 14 mi))))]) dL_isDug_817 rfl (by decide) rfl ?_
  refine v_aload_n C dL_isDug_819 rfl 3 rfl ?_
  refine v_iconst C (v := 3) dL_isDug_820 rfl rfl ?_
  refine q_g3 C hW hJ (B + 5) (D + 30) ⟨⟨Nat.le_refl _, bl hKc (Nat.le_of_ble_eq_true rfl)⟩, Nat.le_refl _, bl hKn (Nat.le_of_ble_eq_true rfl)⟩ rfl dL_isDug_821 rfl (fun b3 => ?_)
  refine v_istore C (lv1 := [(13, .int (nI (tn (s 7 0)))), (12, .int (nI (tn (s 18 mi)))), (11, .int (nI (tn (s 16 mi)))), (10, .int (nI (d))), (0, .ref (r 4)), (1, .ref (r 0)), (2, .ref (r 2)), (3, .int (nI (how))), (4, .int (nI (X0))), (5, .int (nI (mi))), (6, .int (nI (yy))), (7, .int (bI (tn (s 17 mi) = 0))), (8, .int (nI (tn (s 13 mi)))), (9, .int (nI (tn (s 14 mi))))]) dL_isDug_824 rfl (by decide) rfl ?_
  refine v_aload_n C dL_isDug_826 rfl 4 rfl ?_
  refine v_bipush C (v := 11) dL_isDug_827 rfl rfl ?_
  refine v_iload C dL_isDug_829 rfl 9 rfl ?_
  refine v_iload C dL_isDug_831 rfl 3 rfl ?_
  refine v_iconst C (v := 0) dL_isDug_833 rfl rfl ?_
  refine v_iconst C (v := 0) dL_isDug_834 rfl rfl ?_
  by_cases hd : tn (s 17 mi) = 0
  · skip
    refine l_actK C (ax_sell (s := s) (nm := nm) (nc := nc) (nr := nr) hst hG hW hJ.bs (e := 3) (cd := -1793000000) (e3_3 (mi_of hW.cnt.1 hmi (by omega)) ⟨nI_le (a := 1) (by omega) (by omega), nI_le (b := 1000000) (by omega) (by omega)⟩ (by rw [tn_nI (show mi < 2 ^ 31 by omega), (hJ.m17 hmi).1.eq0, ((hJ.m13 hmi).1.add (hJ.m14 hmi).1 (by omega)).1.ltc (n := d) (by omega), ((hJ.m13 hmi).1.add (hJ.m14 hmi).1 (by omega)).2]; omega)) (by decide) xL3_3) (B + 12) (D + 149) ⟨⟨Nat.le_refl _, bl hKc (Nat.le_of_ble_eq_true rfl)⟩, Nat.le_refl _, bl hKn (Nat.le_of_ble_eq_true rfl)⟩ rfl dL_isDug_835 rfl (fun v_ w_ hv4 => ?_)
    obtain ⟨rfl, hw_, -⟩ := hv4
    rw [hw_]
    show V X G 23 _ _ _ _ _ _ [.int ((-1793000000))]
    refine v_istore C (lv1 := [(14, .int ((-1793000000))), (13, .int (nI (tn (s 7 0)))), (12, .int (nI (tn (s 18 mi)))), (11, .int (nI (tn (s 16 mi)))), (10, .int (nI (d))), (0, .ref (r 4)), (1, .ref (r 0)), (2, .ref (r 2)), (3, .int (nI (how))), (4, .int (nI (X0))), (5, .int (nI (mi))), (6, .int (nI (yy))), (7, .int (bI (tn (s 17 mi) = 0))), (8, .int (nI (tn (s 13 mi)))), (9, .int (nI (tn (s 14 mi))))]) dL_isDug_838 rfl (by decide) rfl ?_
    refine v_iload C dL_isDug_840 rfl 12 rfl ?_
    refine v_ifB_ne C (t := 855) dL_isDug_842 rfl rfl (fun _ => ?_) (fun h => absurd hd h)
    refine v_iload C dL_isDug_855 rfl 0 rfl ?_
    refine v_ldc C (v := (-1793000000)) dL_isDug_857 rfl N_L_114 ?_
    refine v_icmp_ne C (t := 866) dL_isDug_859 rfl rfl (fun h => absurd h (by decide)) (fun _ => ?_)
    refine v_iconst C (v := 1) dL_isDug_862 rfl rfl ?_
    refine v_goto C (q := 867) dL_isDug_863 rfl ?_
    exact v_zret C rfl (bl hKc (Nat.le_of_ble_eq_true rfl)) (bl hKn (Nat.le_of_ble_eq_true rfl)) dL_isDug_867 ⟨rfl, _, _, _, _, _, hW, hJ.mono (by omega), hT.mono (by omega), by omega, by omega⟩
  · skip
    by_cases hless : tn (s 13 mi) + tn (s 14 mi) < d
    · skip
      refine l_actK C (ax_sell (s := s) (nm := nm) (nc := nc) (nr := nr) hst hG hW hJ.bs (e := 3) (cd := -1793000000) (e3_3 (mi_of hW.cnt.1 hmi (by omega)) ⟨nI_le (a := 1) (by omega) (by omega), nI_le (b := 1000000) (by omega) (by omega)⟩ (by rw [tn_nI (show mi < 2 ^ 31 by omega), (hJ.m17 hmi).1.eq0, ((hJ.m13 hmi).1.add (hJ.m14 hmi).1 (by omega)).1.ltc (n := d) (by omega), ((hJ.m13 hmi).1.add (hJ.m14 hmi).1 (by omega)).2]; omega)) (by decide) xL3_3) (B + 12) (D + 149) ⟨⟨Nat.le_refl _, bl hKc (Nat.le_of_ble_eq_true rfl)⟩, Nat.le_refl _, bl hKn (Nat.le_of_ble_eq_true rfl)⟩ rfl dL_isDug_835 rfl (fun v_ w_ hv5 => ?_)
      obtain ⟨rfl, hw_, -⟩ := hv5
      rw [hw_]
      show V X G 23 _ _ _ _ _ _ [.int ((-1793000000))]
      refine v_istore C (lv1 := [(14, .int ((-1793000000))), (13, .int (nI (tn (s 7 0)))), (12, .int (nI (tn (s 18 mi)))), (11, .int (nI (tn (s 16 mi)))), (10, .int (nI (d))), (0, .ref (r 4)), (1, .ref (r 0)), (2, .ref (r 2)), (3, .int (nI (how))), (4, .int (nI (X0))), (5, .int (nI (mi))), (6, .int (nI (yy))), (7, .int (bI (tn (s 17 mi) = 0))), (8, .int (nI (tn (s 13 mi)))), (9, .int (nI (tn (s 14 mi))))]) dL_isDug_838 rfl (by decide) rfl ?_
      refine v_iload C dL_isDug_840 rfl 12 rfl ?_
      refine v_ifB_ne C (t := 855) dL_isDug_842 rfl rfl (fun h => absurd h hd) (fun _ => ?_)
      refine v_iload C dL_isDug_845 rfl 13 rfl ?_
      refine v_iload C dL_isDug_847 rfl 14 rfl ?_
      refine v_iaddN C (tn (s 13 mi)) (tn (s 14 mi)) rfl rfl dL_isDug_849 rfl ?_
      refine v_iload C dL_isDug_850 rfl 4 rfl ?_
      refine v_icN_ge C (t := 868) ((tn (s 13 mi)) + (tn (s 14 mi))) d rfl rfl (by omega) (by omega) dL_isDug_852 rfl rfl (fun h => ((by omega : False)).elim) (fun _ => ?_)
      refine v_iload C dL_isDug_855 rfl 0 rfl ?_
      refine v_ldc C (v := (-1793000000)) dL_isDug_857 rfl N_L_114 ?_
      refine v_icmp_ne C (t := 866) dL_isDug_859 rfl rfl (fun h => absurd h (by decide)) (fun _ => ?_)
      refine v_iconst C (v := 1) dL_isDug_862 rfl rfl ?_
      refine v_goto C (q := 867) dL_isDug_863 rfl ?_
      exact v_zret C rfl (bl hKc (Nat.le_of_ble_eq_true rfl)) (bl hKn (Nat.le_of_ble_eq_true rfl)) dL_isDug_867 ⟨rfl, _, _, _, _, _, hW, hJ.mono (by omega), hT.mono (by omega), by omega, by omega⟩
    · skip
      by_cases hsus : tn (s 13 mi) + tn (s 14 mi) < tn (s 14 mi) * 20
      · skip
        have hP_ := P_sellC hJ hT hk (x := mi) (d := d) hmi hsus
        refine l_actK C (ao_sell (s := s) (nm := nm) (nc := nc) (nr := nr) hst hG hW hJ.bs (e3_0 (mi_of hW.cnt.1 hmi (by omega)) ⟨nI_le (a := 1) (by omega) (by omega), nI_le (b := 1000000) (by omega) (by omega)⟩ (by rw [tn_nI (show mi < 2 ^ 31 by omega), (hJ.m17 hmi).1.eq0, ((hJ.m13 hmi).1.add (hJ.m14 hmi).1 (by omega)).1.ltc (n := d) (by omega), ((hJ.m13 hmi).1.add (hJ.m14 hmi).1 (by omega)).2]; omega))) (B + 12) (D + 149) ⟨⟨Nat.le_refl _, bl hKc (Nat.le_of_ble_eq_true rfl)⟩, Nat.le_refl _, bl hKn (Nat.le_of_ble_eq_true rfl)⟩ rfl dL_isDug_835 rfl (fun v_ w7 hv6 => ?_)
        obtain ⟨rfl, hW8⟩ := hv6
        show V X G 23 _ _ _ _ _ _ [.int (sellRC s (nI (mi)) (nI (d)))]
        generalize sellUC s (nI (mi)) (nI (d)) = s1 at hP_ hW8
        obtain ⟨hR, hJ1, hT1, f1, f2, f3, f4⟩ := hP_
        refine xx_top (y := -1) hR ?_
        refine v_istore C (lv1 := [(14, .int ((-1))), (13, .int (nI (tn (s 7 0)))), (12, .int (nI (tn (s 18 mi)))), (11, .int (nI (tn (s 16 mi)))), (10, .int (nI (d))), (0, .ref (r 4)), (1, .ref (r 0)), (2, .ref (r 2)), (3, .int (nI (how))), (4, .int (nI (X0))), (5, .int (nI (mi))), (6, .int (nI (yy))), (7, .int (bI (tn (s 17 mi) = 0))), (8, .int (nI (tn (s 13 mi)))), (9, .int (nI (tn (s 14 mi))))]) dL_isDug_838 rfl (by decide) rfl ?_
        refine v_iload C dL_isDug_840 rfl 12 rfl ?_
        refine v_ifB_ne C (t := 855) dL_isDug_842 rfl rfl (fun h => absurd h hd) (fun _ => ?_)
        refine v_iload C dL_isDug_845 rfl 13 rfl ?_
        refine v_iload C dL_isDug_847 rfl 14 rfl ?_
        refine v_iaddN C (tn (s 13 mi)) (tn (s 14 mi)) rfl rfl dL_isDug_849 rfl ?_
        refine v_iload C dL_isDug_850 rfl 4 rfl ?_
        refine v_icN_ge C (t := 868) ((tn (s 13 mi)) + (tn (s 14 mi))) d rfl rfl (by omega) (by omega) dL_isDug_852 rfl rfl (fun _ => ?_) (fun h => ((by omega : False)).elim)
        refine v_bipush C (v := 20) dL_isDug_868 rfl rfl ?_
        refine v_iload C dL_isDug_870 rfl 14 rfl ?_
        refine v_imulN C 20 (tn (s 14 mi)) rfl rfl dL_isDug_872 rfl ?_
        refine v_iload C dL_isDug_873 rfl 13 rfl ?_
        refine v_iload C dL_isDug_875 rfl 14 rfl ?_
        refine v_iaddN C (tn (s 13 mi)) (tn (s 14 mi)) rfl rfl dL_isDug_877 rfl ?_
        refine v_icN_le C (t := 942) (20 * (tn (s 14 mi))) ((tn (s 13 mi)) + (tn (s 14 mi))) rfl rfl (by omega) (by omega) dL_isDug_878 rfl rfl (fun h => ((by omega : False)).elim) (fun _ => ?_)
        refine v_iload C dL_isDug_881 rfl 0 rfl ?_
        refine v_iconst C (v := (-1)) dL_isDug_883 rfl rfl ?_
        refine v_icmp_ne C (t := 940) dL_isDug_884 rfl rfl (fun h => absurd h (by decide)) (fun _ => ?_)
        refine v_aload_n C dL_isDug_887 rfl 5 rfl ?_
        refine v_iload C dL_isDug_888 rfl 10 rfl ?_
        refine v_bipush C (v := 6) dL_isDug_890 rfl rfl ?_
        refine q_m6 C hW8 hJ1 (i := mi) (by omega) (B + 14) (D + 161) ⟨⟨Nat.le_refl _, bl hKc (Nat.le_of_ble_eq_true rfl)⟩, Nat.le_refl _, bl hKn (Nat.le_of_ble_eq_true rfl)⟩ rfl dL_isDug_892 rfl (fun b9 => ?_)
        refine v_iload C dL_isDug_895 rfl 2 rfl ?_
        refine v_iconst C (v := 1) dL_isDug_897 rfl rfl ?_
        refine v_iaddN C (tn (s 18 mi)) 1 rfl rfl dL_isDug_898 rfl ?_
        refine v_icN_ne C (t := 940) (tn (s1 18 mi)) ((tn (s 18 mi)) + 1) rfl rfl (by omega) (by omega) dL_isDug_899 rfl rfl (fun h => (by omega : False).elim) (fun h10 => ?_)
        refine v_aload_n C dL_isDug_902 rfl 5 rfl ?_
        refine v_iload C dL_isDug_903 rfl 10 rfl ?_
        refine v_iconst C (v := 0) dL_isDug_905 rfl rfl ?_
        refine q_m0 C hW8 hJ1 (i := mi) (by omega) (B + 16) (D + 173) ⟨⟨Nat.le_refl _, bl hKc (Nat.le_of_ble_eq_true rfl)⟩, Nat.le_refl _, bl hKn (Nat.le_of_ble_eq_true rfl)⟩ rfl dL_isDug_906 rfl (fun b11 => ?_)
        refine v_iload C dL_isDug_909 rfl 13 rfl ?_
        refine v_icN_ne C (t := 940) (tn (s1 13 mi)) (tn (s 13 mi)) rfl rfl (by omega) (by omega) dL_isDug_911 rfl rfl (fun h => (by omega : False).elim) (fun h12 => ?_)
        refine v_aload_n C dL_isDug_914 rfl 5 rfl ?_
        refine v_iload C dL_isDug_915 rfl 10 rfl ?_
        refine v_iconst C (v := 3) dL_isDug_917 rfl rfl ?_
        refine q_m3 C hW8 hJ1 (i := mi) (by omega) (B + 18) (D + 185) ⟨⟨Nat.le_refl _, bl hKc (Nat.le_of_ble_eq_true rfl)⟩, Nat.le_refl _, bl hKn (Nat.le_of_ble_eq_true rfl)⟩ rfl dL_isDug_918 rfl (fun b13 => ?_)
        refine v_iload C dL_isDug_921 rfl 3 rfl ?_
        refine v_icN_ne C (t := 940) (tn (s1 16 mi)) (tn (s 16 mi)) rfl rfl (by omega) (by omega) dL_isDug_923 rfl rfl (fun h => (by omega : False).elim) (fun h14 => ?_)
        refine v_aload_n C dL_isDug_926 rfl 5 rfl ?_
        refine v_iconst C (v := 3) dL_isDug_927 rfl rfl ?_
        refine q_g3 C hW8 hJ1 (B + 19) (D + 191) ⟨⟨Nat.le_refl _, bl hKc (Nat.le_of_ble_eq_true rfl)⟩, Nat.le_refl _, bl hKn (Nat.le_of_ble_eq_true rfl)⟩ rfl dL_isDug_928 rfl (fun b15 => ?_)
        refine v_iload C dL_isDug_931 rfl 1 rfl ?_
        refine v_icN_ne C (t := 940) (tn (s1 7 0)) (tn (s 7 0)) rfl rfl (by omega) (by omega) dL_isDug_933 rfl rfl (fun h => (by omega : False).elim) (fun h16 => ?_)
        refine v_iconst C (v := 1) dL_isDug_936 rfl rfl ?_
        refine v_goto C (q := 941) dL_isDug_937 rfl ?_
        exact v_zret C rfl (bl hKc (Nat.le_of_ble_eq_true rfl)) (bl hKn (Nat.le_of_ble_eq_true rfl)) dL_isDug_941 ⟨rfl, _, _, _, _, _, hW8, hJ1.mono (by omega), hT1, by omega, by omega⟩
      · skip
        have hP_ := P_sell hJ hT hk (x := mi) (d := d) hmi hd1 (by omega) hsus
        refine l_actK C (ao_sell (s := s) (nm := nm) (nc := nc) (nr := nr) hst hG hW hJ.bs (e3_0 (mi_of hW.cnt.1 hmi (by omega)) ⟨nI_le (a := 1) (by omega) (by omega), nI_le (b := 1000000) (by omega) (by omega)⟩ (by rw [tn_nI (show mi < 2 ^ 31 by omega), (hJ.m17 hmi).1.eq0, ((hJ.m13 hmi).1.add (hJ.m14 hmi).1 (by omega)).1.ltc (n := d) (by omega), ((hJ.m13 hmi).1.add (hJ.m14 hmi).1 (by omega)).2]; omega))) (B + 12) (D + 149) ⟨⟨Nat.le_refl _, bl hKc (Nat.le_of_ble_eq_true rfl)⟩, Nat.le_refl _, bl hKn (Nat.le_of_ble_eq_true rfl)⟩ rfl dL_isDug_835 rfl (fun v_ w18 hv17 => ?_)
        obtain ⟨rfl, hW19⟩ := hv17
        show V X G 23 _ _ _ _ _ _ [.int (sellRC s (nI (mi)) (nI (d)))]
        generalize sellUC s (nI (mi)) (nI (d)) = s1 at hP_ hW19
        obtain ⟨hR, hJ1, hT1, pp, g1, g2, g3, f1, f2, f3, f4, f5, f6, f7⟩ := hP_
        rw [hR]
        generalize d * tn (s 4 0) / 10 = pay at f3 f6 f7 ⊢
        refine v_istore C (lv1 := [(14, .int (nI (pay))), (13, .int (nI (tn (s 7 0)))), (12, .int (nI (tn (s 18 mi)))), (11, .int (nI (tn (s 16 mi)))), (10, .int (nI (d))), (0, .ref (r 4)), (1, .ref (r 0)), (2, .ref (r 2)), (3, .int (nI (how))), (4, .int (nI (X0))), (5, .int (nI (mi))), (6, .int (nI (yy))), (7, .int (bI (tn (s 17 mi) = 0))), (8, .int (nI (tn (s 13 mi)))), (9, .int (nI (tn (s 14 mi))))]) dL_isDug_838 rfl (by decide) rfl ?_
        refine v_iload C dL_isDug_840 rfl 12 rfl ?_
        refine v_ifB_ne C (t := 855) dL_isDug_842 rfl rfl (fun h => absurd h hd) (fun _ => ?_)
        refine v_iload C dL_isDug_845 rfl 13 rfl ?_
        refine v_iload C dL_isDug_847 rfl 14 rfl ?_
        refine v_iaddN C (tn (s 13 mi)) (tn (s 14 mi)) rfl rfl dL_isDug_849 rfl ?_
        refine v_iload C dL_isDug_850 rfl 4 rfl ?_
        refine v_icN_ge C (t := 868) ((tn (s 13 mi)) + (tn (s 14 mi))) d rfl rfl (by omega) (by omega) dL_isDug_852 rfl rfl (fun _ => ?_) (fun h => ((by omega : False)).elim)
        refine v_bipush C (v := 20) dL_isDug_868 rfl rfl ?_
        refine v_iload C dL_isDug_870 rfl 14 rfl ?_
        refine v_imulN C 20 (tn (s 14 mi)) rfl rfl dL_isDug_872 rfl ?_
        refine v_iload C dL_isDug_873 rfl 13 rfl ?_
        refine v_iload C dL_isDug_875 rfl 14 rfl ?_
        refine v_iaddN C (tn (s 13 mi)) (tn (s 14 mi)) rfl rfl dL_isDug_877 rfl ?_
        refine v_icN_le C (t := 942) (20 * (tn (s 14 mi))) ((tn (s 13 mi)) + (tn (s 14 mi))) rfl rfl (by omega) (by omega) dL_isDug_878 rfl rfl (fun _ => ?_) (fun h => ((by omega : False)).elim)
        refine v_iload C dL_isDug_942 rfl 13 rfl ?_
        refine v_aload_n C dL_isDug_944 rfl 5 rfl ?_
        refine v_iload C dL_isDug_945 rfl 10 rfl ?_
        refine v_iconst C (v := 0) dL_isDug_947 rfl rfl ?_
        refine q_m0 C hW19 hJ1 (i := mi) (by omega) (B + 14) (D + 161) ⟨⟨Nat.le_refl _, bl hKc (Nat.le_of_ble_eq_true rfl)⟩, Nat.le_refl _, bl hKn (Nat.le_of_ble_eq_true rfl)⟩ rfl dL_isDug_948 rfl (fun b20 => ?_)
        refine v_isubN C (tn (s 13 mi)) (tn (s1 13 mi)) (by omega) rfl rfl dL_isDug_951 rfl ?_
        refine v_istore C (lv1 := [(15, .int (nI ((tn (s 13 mi)) - (tn (s1 13 mi))))), (14, .int (nI (pay))), (13, .int (nI (tn (s 7 0)))), (12, .int (nI (tn (s 18 mi)))), (11, .int (nI (tn (s 16 mi)))), (10, .int (nI (d))), (0, .ref (r 4)), (1, .ref (r 0)), (2, .ref (r 2)), (3, .int (nI (how))), (4, .int (nI (X0))), (5, .int (nI (mi))), (6, .int (nI (yy))), (7, .int (bI (tn (s 17 mi) = 0))), (8, .int (nI (tn (s 13 mi)))), (9, .int (nI (tn (s 14 mi))))]) dL_isDug_952 rfl (by decide) rfl ?_
        refine v_iload C dL_isDug_954 rfl 1 rfl ?_
        refine v_iload C dL_isDug_956 rfl 5 rfl ?_
        refine v_bipush C (v := 10) dL_isDug_958 rfl rfl ?_
        refine v_idivN C d 10 rfl rfl (by omega) (by omega) (by omega) dL_isDug_960 rfl ?_
        refine v_icN_lt C (t := 1042) pay (d / 10) rfl rfl (by omega) (by omega) dL_isDug_961 rfl rfl (fun h => (by omega : False).elim) (fun h21 => ?_)
        refine v_aload_n C dL_isDug_964 rfl 6 rfl ?_
        refine v_iload C dL_isDug_965 rfl 11 rfl ?_
        refine v_iconst C (v := 3) dL_isDug_967 rfl rfl ?_
        refine q_m3 C hW19 hJ1 (i := mi) (by omega) (B + 16) (D + 173) ⟨⟨Nat.le_refl _, bl hKc (Nat.le_of_ble_eq_true rfl)⟩, Nat.le_refl _, bl hKn (Nat.le_of_ble_eq_true rfl)⟩ rfl dL_isDug_968 rfl (fun b22 => ?_)
        refine v_iload C dL_isDug_971 rfl 4 rfl ?_
        refine v_iload C dL_isDug_973 rfl 1 rfl ?_
        refine v_iaddN C (tn (s 16 mi)) pay rfl rfl dL_isDug_975 rfl ?_
        refine v_icN_ne C (t := 1042) (tn (s1 16 mi)) ((tn (s 16 mi)) + pay) rfl rfl (by omega) (by omega) dL_isDug_976 rfl rfl (fun h => (by omega : False).elim) (fun h23 => ?_)
        refine v_aload_n C dL_isDug_979 rfl 6 rfl ?_
        refine v_iconst C (v := 3) dL_isDug_980 rfl rfl ?_
        refine q_g3 C hW19 hJ1 (B + 17) (D + 179) ⟨⟨Nat.le_refl _, bl hKc (Nat.le_of_ble_eq_true rfl)⟩, Nat.le_refl _, bl hKn (Nat.le_of_ble_eq_true rfl)⟩ rfl dL_isDug_981 rfl (fun b24 => ?_)
        refine v_iload C dL_isDug_984 rfl 2 rfl ?_
        refine v_iload C dL_isDug_986 rfl 0 rfl ?_
        refine v_iaddN C (tn (s 7 0)) ((tn (s 13 mi)) - (tn (s1 13 mi))) rfl rfl dL_isDug_988 rfl ?_
        refine v_icN_ne C (t := 1042) (tn (s1 7 0)) ((tn (s 7 0)) + ((tn (s 13 mi)) - (tn (s1 13 mi)))) rfl rfl (by omega) (by omega) dL_isDug_989 rfl rfl (fun h => (by omega : False).elim) (fun h25 => ?_)
        refine v_iload C dL_isDug_992 rfl 0 rfl ?_
        refine v_iload C dL_isDug_994 rfl 15 rfl ?_
        refine v_iaddN C ((tn (s 13 mi)) - (tn (s1 13 mi))) (tn (s 14 mi)) rfl rfl dL_isDug_996 rfl ?_
        refine v_aload_n C dL_isDug_997 rfl 6 rfl ?_
        refine v_iload C dL_isDug_998 rfl 11 rfl ?_
        refine v_iconst C (v := 1) dL_isDug_1000 rfl rfl ?_
        refine q_m1 C hW19 hJ1 (i := mi) (by omega) (B + 19) (D + 191) ⟨⟨Nat.le_refl _, bl hKc (Nat.le_of_ble_eq_true rfl)⟩, Nat.le_refl _, bl hKn (Nat.le_of_ble_eq_true rfl)⟩ rfl dL_isDug_1001 rfl (fun b26 => ?_)
        refine v_isubN C (((tn (s 13 mi)) - (tn (s1 13 mi))) + (tn (s 14 mi))) (tn (s1 14 mi)) (by omega) rfl rfl dL_isDug_1004 rfl ?_
        refine v_iload C dL_isDug_1005 rfl 5 rfl ?_
        refine v_icN_ne C (t := 1042) ((((tn (s 13 mi)) - (tn (s1 13 mi))) + (tn (s 14 mi))) - (tn (s1 14 mi))) d rfl rfl (by omega) (by omega) dL_isDug_1007 rfl rfl (fun h => (by omega : False).elim) (fun h27 => ?_)
        refine v_iload C dL_isDug_1010 rfl 0 rfl ?_
        refine v_if_lt C (t := 1042) dL_isDug_1012 rfl rfl (fun h => absurd h (nI_pos (by omega))) (fun _ => ?_)
        refine v_aload_n C dL_isDug_1015 rfl 6 rfl ?_
        refine v_iload C dL_isDug_1016 rfl 11 rfl ?_
        refine v_iconst C (v := 1) dL_isDug_1018 rfl rfl ?_
        refine q_m1 C hW19 hJ1 (i := mi) (by omega) (B + 21) (D + 203) ⟨⟨Nat.le_refl _, bl hKc (Nat.le_of_ble_eq_true rfl)⟩, Nat.le_refl _, bl hKn (Nat.le_of_ble_eq_true rfl)⟩ rfl dL_isDug_1019 rfl (fun b28 => ?_)
        refine v_if_lt C (t := 1042) dL_isDug_1022 rfl rfl (fun h => absurd h (nI_pos (by omega))) (fun _ => ?_)
        refine v_aload_n C dL_isDug_1025 rfl 6 rfl ?_
        refine v_iload C dL_isDug_1026 rfl 11 rfl ?_
        refine v_bipush C (v := 6) dL_isDug_1028 rfl rfl ?_
        refine q_m6 C hW19 hJ1 (i := mi) (by omega) (B + 23) (D + 215) ⟨⟨Nat.le_refl _, bl hKc (Nat.le_of_ble_eq_true rfl)⟩, Nat.le_refl _, bl hKn (Nat.le_of_ble_eq_true rfl)⟩ rfl dL_isDug_1030 rfl (fun b29 => ?_)
        refine v_iload C dL_isDug_1033 rfl 3 rfl ?_
        refine v_icN_ne C (t := 1042) (tn (s1 18 mi)) (tn (s 18 mi)) rfl rfl (by omega) (by omega) dL_isDug_1035 rfl rfl (fun h => (by omega : False).elim) (fun h30 => ?_)
        refine v_iconst C (v := 1) dL_isDug_1038 rfl rfl ?_
        refine v_goto C (q := 1043) dL_isDug_1039 rfl ?_
        exact v_zret C rfl (bl hKc (Nat.le_of_ble_eq_true rfl)) (bl hKn (Nat.le_of_ble_eq_true rfl)) dL_isDug_1043 ⟨rfl, _, _, _, _, _, hW19, hJ1.mono (by omega), hT1, by omega, by omega⟩

theorem c_L_isDug {l : Launch} {G : GG} {w : va_W} {r : Nat → Nat} {s t : SS} {nm nc nr k X0 how : Nat} (hst : l.stackTraces = false) (hG : GOK G) (hk : k ≤ 130) (hT : K9 s t nm nc nr k) (hX : X0 < 100000000) (hhow : how < 46) (hnm : 0 < nm) (hW : Wd G r s t nm nc nr w) (hJ : Js s nm nc nr k) : Mth l yL_isDug cL_isDug 23 (Option.some Jvm.ClassFile.FieldType.boolean) r_L_isDug G w [.ref (r 4), .ref (r 0), .ref (r 2), .int (nI how), .int (nI X0)] (fun v w1 => v = some (.int 1) ∧ Nxt G r nm (k + 1) w1) nX := by
  refine mth_of rfl (Nat.le_of_ble_eq_true rfl) hst hG (fun X hX0 C0 => ?_)
  subst hX0
  have C : Cx X G cL_isDug 23 RL (Option.some Jvm.ClassFile.FieldType.boolean) r_L_isDug "isDug" [] := C0
  clear C0
  show V X G 23 w 0 0 _ 0 [(0, .ref (r 4)), (1, .ref (r 0)), (2, .ref (r 2)), (3, .int (nI how)), (4, .int (nI X0))] []
  have hc : r_L_isDug.cells = 44 := rfl
  have hd : r_L_isDug.slots = 418 := rfl
  refine sg_dug_0 C hW hJ hk hT hX hhow hnm (by omega) (by omega) (fun mi hmi yy hyy => ?_) (fun mi hmi yy hyy => ?_)
  · refine sg_dug_D0 C hW hJ hk hT hX hhow hnm hmi hyy (by omega) (by omega) (fun ce hce it hit gg hgg => ?_)
    obtain ⟨wd, hw1, hw2, hwd⟩ := hT.2.2.1.1 it hit
    refine sg_dug_D1 C hW hJ hk hT hX hhow hnm hce hit hgg (by omega) (by omega) (fun hh => ?_) (fun hj hh1 hh => ?_)
    · refine sg_dug_D2A C hW hJ hk hT hX hhow hnm hce hit hgg hw1 hw2 hwd hh (by omega) (by omega) ?_
      exact sg_dug_D3A C hW hJ hk hT hX hhow hnm hce hit hgg hw1 hw2 hwd hh (by omega) (by omega)
    · refine sg_dug_D2B C hW hJ hk hT hX hhow hnm hce hit hgg hw1 hw2 hwd hh1 hh (by omega) (by omega) ?_
      exact sg_dug_D3B C hW hJ hk hT hX hhow hnm hce hit hgg hw1 hw2 hwd hh1 hh (by omega) (by omega)
  · refine sg_dug_E C hW hJ hk hT hX hhow hnm hmi hyy (by omega) (by omega) ?_ ?_ ?_
    · refine sg_dug_S0 C hW hJ hk hT hX hhow hnm hmi hyy (by omega) (by omega) (fun ce hce i0 hi0 => ?_)
      exact sg_dug_S1 C hW hJ hk hT hX hhow hnm hmi hyy hce hi0 (by omega) (by omega)
    · refine sg_dug_B0 C hW hJ hk hT hX hhow hnm hmi hyy (by omega) (by omega) (fun i0 hi0 => ?_)
      exact sg_dug_B1 C hW hJ hk hT hX hhow hnm hmi hyy hi0 (by omega) (by omega)
    · refine sg_dug_Q0 C hW hJ hk hT hX hhow hnm hmi hyy (by omega) (by omega) (fun d hd1 hd2 => ?_)
      exact sg_dug_Q1 C hW hJ hk hT hX hhow hnm hmi hyy hd1 hd2 (by omega) (by omega)
