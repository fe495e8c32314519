theorem lv_add {s : SS} {n : Nat} (h : Nn (s 17 n)) : nI (LV s n) + bI (0 < tn (s 17 n)) = nI (LV s (n + 1)) := by
  rw [LV_s]
  by_cases c : s 17 n = 0
  · rw [if_pos c, bI_f (by rw [c, tn_0]; omega)]
    exact Int32.add_zero _
  · rw [if_neg c, bI_t (Nat.pos_of_ne_zero (fun z => c (h.eq0.mpr z)))]
    exact nI_1 _
theorem PR_lt {x : Nat} (h : x < 100) : PR x = 5 + (100 - x) / 5 := if_pos h
theorem PR_ge {x : Nat} (h : ¬ x < 100) : PR x = 5 := if_neg h
theorem held_ne {s : SS} {nm nc nr k c i : Nat} (hJ : Js s nm nc nr k) (hc : c < 40) (hi : i < nc) (hl : s 25 i = 0) : ¬ heldC s (nI c) nc = nI i := fun h => by
  have h12 := hJ.1.1
  rcases held_c hc h12.2.1 hJ.2.2.2.2.2.2.1 with ⟨h1, -⟩ | ⟨j, h1, h2, h3⟩
  · exact nI_m1 (n := i) (by omega) (h.symm.trans h1)
  · have e := nI_inj (by omega) (by omega) (h2.symm.trans h)
    subst e
    exact h3.1 hl
theorem K9.put {s t : SS} {nm nc nr k i : Nat} (hJ : Js s nm nc nr k) (hT : K9 s t nm nc nr k) (hi : i < nm) : K9 s (su t 2 (12 + i) (nI (tn (s 17 i)))) nm nc nr k := by
  obtain ⟨h0, h1, h2, h3, h4⟩ := hT
  have h12 := hJ.1.1
  have e := (hJ.m17 hi).1.e
  refine ⟨h0, h1, ⟨fun j hj => ?_, fun j hj hj2 => ?_⟩, fun j hj => ?_, h4⟩
  · obtain ⟨d, g1, g2⟩ := h2.1 j hj
    exact ⟨d, (su_b (by omega)).trans g1, g2⟩
  · exact (su_b (by omega)).trans (h2.2 j hj hj2)
  · by_cases c : j = i
    · subst c
      rw [su_a, ← e]
      exact ⟨(hJ.m17 hi).1, (hJ.m17 hi).2, id⟩
    · rw [su_b (by omega)]
      exact h3 j hj
abbrev r_L_isSound : Room := { frames := 9, cells := 461, slots := 2766, locals := 156 }
theorem sg_snd_0 {X : XS} {G : GG} {w : va_W} {Q : State → Prop} {r : Nat → Nat} {s t : SS} {nm nc nr k B D : Nat} {X0 : Nat} (C : Cx X G cL_isSound 15 RL (Option.some Jvm.ClassFile.FieldType.boolean) r_L_isSound "isSound" []) (hW : Wd G r s t nm nc nr w) (hJ : Js s nm nc nr k) (hk : k ≤ 131) (hT : K9 s t nm nc nr k) (hX : X0 < 100000000) (hKc : B + 9 ≤ r_L_isSound.cells) (hKn : D + 54 ≤ r_L_isSound.slots) (kk : V X G 15 w (B + 9) (D + 54) Q 88 [(0, .ref (r 4)), (1, .ref (r 0)), (2, .ref (r 1)), (3, .ref (r 2)), (4, .int (nI (X0))), (5, .int (nI (0))), (6, .int (1)), (7, .int (nI (SN (s 13) 0))), (8, .int (nI (SW s nr 0))), (9, .int (nI (LV s 0))), (10, .int (nI (0)))] []) : V X G 15 w B D Q 0 [(0, .ref (r 4)), (1, .ref (r 0)), (2, .ref (r 1)), (3, .ref (r 2)), (4, .int (nI (X0)))] [] := by
  have hst : X.2.1.stackTraces = false := C.2.2.2.2.2.1
  have hG : GOK G := C.2.2.2.2.2.2.2.2.2.1
  have hm := hJ.1.1
  refine v_iconst C (v := 0) dL_isSound_0 rfl rfl ?_
  refine v_istore C (lv1 := [(5, .int (0)), (0, .ref (r 4)), (1, .ref (r 0)), (2, .ref (r 1)), (3, .ref (r 2)), (4, .int (nI (X0)))]) dL_isSound_1 rfl (by decide) rfl ?_
  refine v_aload_n C dL_isSound_3 rfl 1 rfl ?_
  refine v_iconst C (v := 4) dL_isSound_4 rfl rfl ?_
  refine q_g4 C hW hJ (B + 1) (D + 6) ⟨⟨Nat.le_refl _, bl hKc (Nat.le_of_ble_eq_true rfl)⟩, Nat.le_refl _, bl hKn (Nat.le_of_ble_eq_true rfl)⟩ rfl dL_isSound_5 rfl (fun b1 => ?_)
  refine v_aload_n C dL_isSound_8 rfl 2 rfl ?_
  refine v_iconst C (v := 3) dL_isSound_9 rfl rfl ?_
  refine v_mld C hW 0 (by decide) 3 (show 3 < 6 by omega) dL_isSound_10 rfl ?_
  refine xx_top (y := nI (tot s nm)) hT.1.2.2.2.1 ?_
  refine v_icN_ne C (t := 73) (tot s nm) (tot s nm) rfl rfl (by omega) (by omega) dL_isSound_11 rfl rfl (fun h => (by omega : False).elim) (fun h2 => ?_)
  refine v_aload_n C dL_isSound_14 rfl 1 rfl ?_
  refine v_iconst C (v := 0) dL_isSound_15 rfl rfl ?_
  refine q_g0 C hW hJ (B + 2) (D + 12) ⟨⟨Nat.le_refl _, bl hKc (Nat.le_of_ble_eq_true rfl)⟩, Nat.le_refl _, bl hKn (Nat.le_of_ble_eq_true rfl)⟩ rfl dL_isSound_16 rfl (fun b3 => ?_)
  refine v_aload_n C dL_isSound_19 rfl 1 rfl ?_
  refine v_iconst C (v := 1) dL_isSound_20 rfl rfl ?_
  refine q_g1 C hW hJ (B + 3) (D + 18) ⟨⟨Nat.le_refl _, bl hKc (Nat.le_of_ble_eq_true rfl)⟩, Nat.le_refl _, bl hKn (Nat.le_of_ble_eq_true rfl)⟩ rfl dL_isSound_21 rfl (fun b4 => ?_)
  refine v_iaddN C (SN (s 9) 40) (tn (s 6 0)) rfl rfl dL_isSound_24 rfl ?_
  refine v_aload_n C dL_isSound_25 rfl 1 rfl ?_
  refine v_iconst C (v := 2) dL_isSound_26 rfl rfl ?_
  refine q_g2 C hW hJ (B + 4) (D + 24) ⟨⟨Nat.le_refl _, bl hKc (Nat.le_of_ble_eq_true rfl)⟩, Nat.le_refl _, bl hKn (Nat.le_of_ble_eq_true rfl)⟩ rfl dL_isSound_27 rfl (fun b5 => ?_)
  refine v_iaddN C ((SN (s 9) 40) + (tn (s 6 0))) (SN (s 13) nm) rfl rfl dL_isSound_30 rfl ?_
  refine v_aload_n C dL_isSound_31 rfl 1 rfl ?_
  refine v_iconst C (v := 3) dL_isSound_32 rfl rfl ?_
  refine q_g3 C hW hJ (B + 5) (D + 30) ⟨⟨Nat.le_refl _, bl hKc (Nat.le_of_ble_eq_true rfl)⟩, Nat.le_refl _, bl hKn (Nat.le_of_ble_eq_true rfl)⟩ rfl dL_isSound_33 rfl (fun b6 => ?_)
  refine v_iaddN C (((SN (s 9) 40) + (tn (s 6 0))) + (SN (s 13) nm)) (tn (s 7 0)) rfl rfl dL_isSound_36 rfl ?_
  refine v_aload_n C dL_isSound_37 rfl 1 rfl ?_
  refine v_iconst C (v := 4) dL_isSound_38 rfl rfl ?_
  refine q_g4 C hW hJ (B + 6) (D + 36) ⟨⟨Nat.le_refl _, bl hKc (Nat.le_of_ble_eq_true rfl)⟩, Nat.le_refl _, bl hKn (Nat.le_of_ble_eq_true rfl)⟩ rfl dL_isSound_39 rfl (fun b7 => ?_)
  refine v_icN_ne C (t := 73) ((((SN (s 9) 40) + (tn (s 6 0))) + (SN (s 13) nm)) + (tn (s 7 0))) (tot s nm) rfl rfl (by omega) (by omega) dL_isSound_42 rfl rfl (fun h => (by omega : False).elim) (fun h8 => ?_)
  refine v_aload_n C dL_isSound_45 rfl 1 rfl ?_
  refine v_iconst C (v := 0) dL_isSound_46 rfl rfl ?_
  refine q_g0 C hW hJ (B + 7) (D + 42) ⟨⟨Nat.le_refl _, bl hKc (Nat.le_of_ble_eq_true rfl)⟩, Nat.le_refl _, bl hKn (Nat.le_of_ble_eq_true rfl)⟩ rfl dL_isSound_47 rfl (fun b9 => ?_)
  refine v_if_lt C (t := 73) dL_isSound_50 rfl rfl (fun h => absurd h (nI_pos (by omega))) (fun _ => ?_)
  refine v_aload_n C dL_isSound_53 rfl 1 rfl ?_
  refine v_iconst C (v := 1) dL_isSound_54 rfl rfl ?_
  refine q_g1 C hW hJ (B + 8) (D + 48) ⟨⟨Nat.le_refl _, bl hKc (Nat.le_of_ble_eq_true rfl)⟩, Nat.le_refl _, bl hKn (Nat.le_of_ble_eq_true rfl)⟩ rfl dL_isSound_55 rfl (fun b10 => ?_)
  refine v_if_lt C (t := 73) dL_isSound_58 rfl rfl (fun h => absurd h (nI_pos (by omega))) (fun _ => ?_)
  refine v_aload_n C dL_isSound_61 rfl 1 rfl ?_
  refine v_iconst C (v := 3) dL_isSound_62 rfl rfl ?_
  refine q_g3 C hW hJ (B + 9) (D + 54) ⟨⟨Nat.le_refl _, bl hKc (Nat.le_of_ble_eq_true rfl)⟩, Nat.le_refl _, bl hKn (Nat.le_of_ble_eq_true rfl)⟩ rfl dL_isSound_63 rfl (fun b11 => ?_)
  refine v_if_lt C (t := 73) dL_isSound_66 rfl rfl (fun h => absurd h (nI_pos (by omega))) (fun _ => ?_)
  refine v_iconst C (v := 1) dL_isSound_69 rfl rfl ?_
  refine v_goto C (q := 74) dL_isSound_70 rfl ?_
  refine v_istore C (lv1 := [(6, .int (1)), (5, .int (0)), (0, .ref (r 4)), (1, .ref (r 0)), (2, .ref (r 1)), (3, .ref (r 2)), (4, .int (nI (X0)))]) dL_isSound_74 rfl (by decide) rfl ?_
  refine v_iconst C (v := 0) dL_isSound_76 rfl rfl ?_
  refine v_istore C (lv1 := [(7, .int (0)), (6, .int (1)), (5, .int (0)), (0, .ref (r 4)), (1, .ref (r 0)), (2, .ref (r 1)), (3, .ref (r 2)), (4, .int (nI (X0)))]) dL_isSound_77 rfl (by decide) rfl ?_
  refine v_iconst C (v := 0) dL_isSound_79 rfl rfl ?_
  refine v_istore C (lv1 := [(8, .int (0)), (7, .int (0)), (6, .int (1)), (5, .int (0)), (0, .ref (r 4)), (1, .ref (r 0)), (2, .ref (r 1)), (3, .ref (r 2)), (4, .int (nI (X0)))]) dL_isSound_80 rfl (by decide) rfl ?_
  refine v_iconst C (v := 0) dL_isSound_82 rfl rfl ?_
  refine v_istore C (lv1 := [(9, .int (0)), (8, .int (0)), (7, .int (0)), (6, .int (1)), (5, .int (0)), (0, .ref (r 4)), (1, .ref (r 0)), (2, .ref (r 1)), (3, .ref (r 2)), (4, .int (nI (X0)))]) dL_isSound_83 rfl (by decide) rfl ?_
  refine v_iconst C (v := 0) dL_isSound_85 rfl rfl ?_
  refine v_istore C (lv1 := [(10, .int (0)), (9, .int (0)), (8, .int (0)), (7, .int (0)), (6, .int (1)), (5, .int (0)), (0, .ref (r 4)), (1, .ref (r 0)), (2, .ref (r 1)), (3, .ref (r 2)), (4, .int (nI (X0)))]) dL_isSound_86 rfl (by decide) rfl ?_
  refine xx_lv [6, 7, 8, 9, 10, 5, 4, 3, 2, 1, 0] (lv' := [(0, .ref (r 4)), (1, .ref (r 0)), (2, .ref (r 1)), (3, .ref (r 2)), (4, .int (nI (X0))), (5, .int (nI (0))), (6, .int (1)), (7, .int (nI (SN (s 13) 0))), (8, .int (nI (SW s nr 0))), (9, .int (nI (LV s 0))), (10, .int (nI (0)))]) rfl ?_
  exact xx_mono (bm (Nat.le_of_ble_eq_true rfl)) (bm (Nat.le_of_ble_eq_true rfl)) (kk)

theorem sg_snd_1 {X : XS} {G : GG} {w : va_W} {Q : State → Prop} {r : Nat → Nat} {s t : SS} {nm nc nr k B D : Nat} {X0 : Nat} {i : Nat} (C : Cx X G cL_isSound 15 RL (Option.some Jvm.ClassFile.FieldType.boolean) r_L_isSound "isSound" []) (hW : Wd G r s t nm nc nr w) (hJ : Js s nm nc nr k) (hk : k ≤ 131) (hT : K9 s t nm nc nr k) (hX : X0 < 100000000) (hi0 : i ≤ nm) (hKc : B + 22 ≤ r_L_isSound.cells) (hKn : D + 132 ≤ r_L_isSound.slots) (ih : i < nm → ∀ (w1 : va_W) (t1 : SS), Wd G r s t1 nm nc nr w1 → K9 s t1 nm nc nr k → V X G 15 w1 (B + 22) (D + 132) Q 88 [(0, .ref (r 4)), (1, .ref (r 0)), (2, .ref (r 1)), (3, .ref (r 2)), (4, .int (nI (X0))), (5, .int (nI (0))), (6, .int (1)), (7, .int (nI (SN (s 13) (i + 1)))), (8, .int (nI (SW s nr (i + 1)))), (9, .int (nI (LV s (i + 1)))), (10, .int (nI (i + 1)))] []) (kk : V X G 15 w (B + 22) (D + 132) Q 311 [(0, .ref (r 4)), (1, .ref (r 0)), (2, .ref (r 1)), (3, .ref (r 2)), (4, .int (nI (X0))), (5, .int (nI (0))), (6, .int (1)), (7, .int (nI (SN (s 13) nm))), (8, .int (nI (SW s nr nm))), (9, .int (nI (LV s nm))), (10, .int (nI (nm)))] []) : V X G 15 w B D Q 88 [(0, .ref (r 4)), (1, .ref (r 0)), (2, .ref (r 1)), (3, .ref (r 2)), (4, .int (nI (X0))), (5, .int (nI (0))), (6, .int (1)), (7, .int (nI (SN (s 13) i))), (8, .int (nI (SW s nr i))), (9, .int (nI (LV s i))), (10, .int (nI (i)))] [] := by
  have hst : X.2.1.stackTraces = false := C.2.2.2.2.2.1
  have hG : GOK G := C.2.2.2.2.2.2.2.2.2.1
  have hm := hJ.1.1
  refine v_iload C dL_isSound_88 rfl 10 rfl ?_
  refine v_aload_n C dL_isSound_90 rfl 1 rfl ?_
  refine v_iconst C (v := 0) dL_isSound_91 rfl rfl ?_
  refine v_mld C hW 0 (by decide) 0 (show 0 < 6 by omega) dL_isSound_92 rfl ?_
  refine xx_top (y := nI (nm)) hT.1.1 ?_
  refine v_icN_ge C (t := 311) i nm rfl rfl (by omega) (by omega) dL_isSound_93 rfl rfl (fun h1 => ?_) (fun h1 => ?_)
  · skip
    obtain rfl : nm = i := by omega
    refine xx_lv [0, 1, 2, 3, 4, 5, 6, 7, 8, 9, 10] (lv' := [(0, .ref (r 4)), (1, .ref (r 0)), (2, .ref (r 1)), (3, .ref (r 2)), (4, .int (nI (X0))), (5, .int (nI (0))), (6, .int (1)), (7, .int (nI (SN (s 13) nm))), (8, .int (nI (SW s nr nm))), (9, .int (nI (LV s nm))), (10, .int (nI (nm)))]) rfl ?_
    exact xx_mono (Nat.le_add_right _ _) (Nat.le_add_right _ _) (kk)
  · skip
    refine v_iload C dL_isSound_96 rfl 6 rfl ?_
    refine v_if_eq C (t := 311) dL_isSound_98 rfl rfl (fun h => absurd h (by decide)) (fun _ => ?_)
    have hi : i < nm := by omega
    have hw0 : tn (t 2 (12 + i)) = 0 → tn (s 17 i) = 0 := fun z => (hJ.m17 hi).1.eq0.mp ((hT.2.2.2.1 i hi).2.2 ((hT.2.2.2.1 i hi).1.eq0.mpr z))
    have hw1 := (hT.2.2.2.1 i hi).2.1
    refine v_aload_n C dL_isSound_101 rfl 0 rfl ?_
    refine v_iload C dL_isSound_102 rfl 10 rfl ?_
    refine v_iconst C (v := 4) dL_isSound_104 rfl rfl ?_
    refine q_m4 C hW hJ (i := i) (by omega) (B + 2) (D + 12) ⟨⟨Nat.le_refl _, bl hKc (Nat.le_of_ble_eq_true rfl)⟩, Nat.le_refl _, bl hKn (Nat.le_of_ble_eq_true rfl)⟩ rfl dL_isSound_105 rfl (fun b2 => ?_)
    refine v_istore C (lv1 := [(11, .int (nI (tn (s 17 i)))), (0, .ref (r 4)), (1, .ref (r 0)), (2, .ref (r 1)), (3, .ref (r 2)), (4, .int (nI (X0))), (5, .int (nI (0))), (6, .int (1)), (7, .int (nI (SN (s 13) i))), (8, .int (nI (SW s nr i))), (9, .int (nI (LV s i))), (10, .int (nI (i)))]) dL_isSound_108 rfl (by decide) rfl ?_
    refine v_iload C dL_isSound_110 rfl 8 rfl ?_
    refine v_aload_n C dL_isSound_112 rfl 1 rfl ?_
    refine v_iload C dL_isSound_113 rfl 11 rfl ?_
    refine v_iconst C (v := 0) dL_isSound_115 rfl rfl ?_
    refine q_m0 C hW hJ (i := i) (by omega) (B + 4) (D + 24) ⟨⟨Nat.le_refl _, bl hKc (Nat.le_of_ble_eq_true rfl)⟩, Nat.le_refl _, bl hKn (Nat.le_of_ble_eq_true rfl)⟩ rfl dL_isSound_116 rfl (fun b3 => ?_)
    refine v_iaddN C (SN (s 13) i) (tn (s 13 i)) rfl rfl dL_isSound_119 rfl ?_
    refine xx_top (y := nI (SN (s 13) (i + 1))) rfl ?_
    have hs13 := Nat.le_trans (SN_m (f := s 13) (show i + 1 ≤ nm by omega)) hJ.2.2.1.2.2.2.2.2.2
    refine v_istore C (lv1 := [(7, .int (nI (SN (s 13) (i + 1)))), (11, .int (nI (tn (s 17 i)))), (0, .ref (r 4)), (1, .ref (r 0)), (2, .ref (r 1)), (3, .ref (r 2)), (4, .int (nI (X0))), (5, .int (nI (0))), (6, .int (1)), (8, .int (nI (SW s nr i))), (9, .int (nI (LV s i))), (10, .int (nI (i)))]) dL_isSound_120 rfl (by decide) rfl ?_
    refine v_iload C dL_isSound_122 rfl 9 rfl ?_
    refine v_aload_n C dL_isSound_124 rfl 2 rfl ?_
    refine v_iload C dL_isSound_125 rfl 11 rfl ?_
    refine v_iconst C (v := 5) dL_isSound_127 rfl rfl ?_
    refine q_m5 C hW hJ (i := i) (by omega) (B + 6) (D + 36) ⟨⟨Nat.le_refl _, bl hKc (Nat.le_of_ble_eq_true rfl)⟩, Nat.le_refl _, bl hKn (Nat.le_of_ble_eq_true rfl)⟩ rfl dL_isSound_128 rfl (fun b4 => ?_)
    refine v_iaddN C (SW s nr i) (IW s nr i) rfl rfl dL_isSound_131 rfl ?_
    refine xx_top (y := nI (SW s nr (i + 1))) rfl ?_
    refine v_istore C (lv1 := [(8, .int (nI (SW s nr (i + 1)))), (7, .int (nI (SN (s 13) (i + 1)))), (11, .int (nI (tn (s 17 i)))), (0, .ref (r 4)), (1, .ref (r 0)), (2, .ref (r 1)), (3, .ref (r 2)), (4, .int (nI (X0))), (5, .int (nI (0))), (6, .int (1)), (9, .int (nI (LV s i))), (10, .int (nI (i)))]) dL_isSound_132 rfl (by decide) rfl ?_
    refine v_iload C dL_isSound_134 rfl 10 rfl ?_
    refine v_iload C dL_isSound_136 rfl 2 rfl ?_
    refine xx_sel (P := 0 < (tn (s 17 i))) 146 [.int (nI (LV s i))] ?_ (fun jj => ?_)
    · skip
      refine v_iadd C dL_isSound_146 rfl ?_
      refine xx_top (y := nI (LV s (i + 1))) (lv_add (hJ.m17 hi).1) ?_
      refine v_istore C (lv1 := [(9, .int (nI (LV s (i + 1)))), (8, .int (nI (SW s nr (i + 1)))), (7, .int (nI (SN (s 13) (i + 1)))), (11, .int (nI (tn (s 17 i)))), (0, .ref (r 4)), (1, .ref (r 0)), (2, .ref (r 1)), (3, .ref (r 2)), (4, .int (nI (X0))), (5, .int (nI (0))), (6, .int (1)), (10, .int (nI (i)))]) dL_isSound_147 rfl (by decide) rfl ?_
      refine v_iload C dL_isSound_149 rfl 11 rfl ?_
      refine v_iload C dL_isSound_151 rfl 8 rfl ?_
      refine v_iaddN C i X0 rfl rfl dL_isSound_153 rfl ?_
      refine v_iconst C (v := 4) dL_isSound_154 rfl rfl ?_
      refine v_iremN C (i + X0) 4 rfl rfl (by omega) (by omega) (by omega) dL_isSound_155 rfl ?_
      refine xx_sel (P := ((i + X0) % 4) = 0) 164 [] ?_ (fun jj => ?_)
      · skip
        refine v_istore C (lv1 := [(12, .int (bI (((i + X0) % 4) = 0))), (9, .int (nI (LV s (i + 1)))), (8, .int (nI (SW s nr (i + 1)))), (7, .int (nI (SN (s 13) (i + 1)))), (11, .int (nI (tn (s 17 i)))), (0, .ref (r 4)), (1, .ref (r 0)), (2, .ref (r 1)), (3, .ref (r 2)), (4, .int (nI (X0))), (5, .int (nI (0))), (6, .int (1)), (10, .int (nI (i)))]) dL_isSound_164 rfl (by decide) rfl ?_
        refine v_iload C dL_isSound_166 rfl 4 rfl ?_
        refine v_if_lt C (t := 293) dL_isSound_168 rfl rfl (fun h => absurd h (nI_pos (by omega))) (fun _ => ?_)
        refine v_iload C dL_isSound_171 rfl 4 rfl ?_
        refine v_bipush C (v := 10) dL_isSound_173 rfl rfl ?_
        refine v_icN_gt C (t := 293) (tn (s 17 i)) 10 rfl rfl (by omega) (by omega) dL_isSound_175 rfl rfl (fun h => (by omega : False).elim) (fun h7 => ?_)
        refine v_aload_n C dL_isSound_178 rfl 8 rfl ?_
        refine v_bipush C (v := 12) dL_isSound_179 rfl rfl ?_
        refine v_iload C dL_isSound_181 rfl 12 rfl ?_
        refine v_iaddN C 12 i rfl rfl dL_isSound_183 rfl ?_
        refine v_mld C hW 2 (by decide) (12 + i) (show (12 + i) < 24 by omega) dL_isSound_184 rfl ?_
        refine xx_top (y := nI (tn (t 2 (12 + i)))) (hT.2.2.2.1 i hi).1.e ?_
        refine v_ifN_gt C (t := 193) (tn (t 2 (12 + i))) rfl (by omega) dL_isSound_185 rfl rfl (fun h8 => ?_) (fun h8 => ?_)
        · skip
          refine v_iload C dL_isSound_193 rfl 0 rfl ?_
          refine v_ifB_eq C (t := 289) dL_isSound_195 rfl rfl (fun h9 => ?_) (fun h9 => ?_)
          · skip
            refine v_iconst C (v := 1) dL_isSound_289 rfl rfl ?_
            refine v_goto C (q := 294) dL_isSound_290 rfl ?_
            refine v_istore C (lv1 := [(6, .int (1)), (12, .int (bI (((i + X0) % 4) = 0))), (9, .int (nI (LV s (i + 1)))), (8, .int (nI (SW s nr (i + 1)))), (7, .int (nI (SN (s 13) (i + 1)))), (11, .int (nI (tn (s 17 i)))), (0, .ref (r 4)), (1, .ref (r 0)), (2, .ref (r 1)), (3, .ref (r 2)), (4, .int (nI (X0))), (5, .int (nI (0))), (10, .int (nI (i)))]) dL_isSound_294 rfl (by decide) rfl ?_
            refine v_aload_n C dL_isSound_296 rfl 9 rfl ?_
            refine v_bipush C (v := 12) dL_isSound_297 rfl rfl ?_
            refine v_iload C dL_isSound_299 rfl 12 rfl ?_
            refine v_iaddN C 12 i rfl rfl dL_isSound_301 rfl ?_
            refine v_iload C dL_isSound_302 rfl 5 rfl ?_
            refine v_mst C hW 2 (by decide) (12 + i) (show (12 + i) < 24 by omega) dL_isSound_304 rfl (fun w10 hW11 => ?_)
            refine v_iincN C (lv1 := [(10, .int (nI (i + 1))), (6, .int (1)), (12, .int (bI (((i + X0) % 4) = 0))), (9, .int (nI (LV s (i + 1)))), (8, .int (nI (SW s nr (i + 1)))), (7, .int (nI (SN (s 13) (i + 1)))), (11, .int (nI (tn (s 17 i)))), (0, .ref (r 4)), (1, .ref (r 0)), (2, .ref (r 1)), (3, .ref (r 2)), (4, .int (nI (X0))), (5, .int (nI (0)))]) i rfl dL_isSound_305 rfl 12 rfl (by decide) rfl ?_
            refine v_goto C (q := 88) dL_isSound_308 rfl ?_
            refine xx_lv [7, 8, 9, 10, 11, 12, 1, 5, 4, 3, 0] (lv' := [(0, .ref (r 4)), (1, .ref (r 0)), (2, .ref (r 1)), (3, .ref (r 2)), (4, .int (nI (X0))), (5, .int (nI (0))), (6, .int (1)), (7, .int (nI (SN (s 13) (i + 1)))), (8, .int (nI (SW s nr (i + 1)))), (9, .int (nI (LV s (i + 1)))), (10, .int (nI (i + 1)))]) rfl ?_
            exact xx_mono (bm (Nat.le_of_ble_eq_true rfl)) (bm (Nat.le_of_ble_eq_true rfl)) (ih (by omega) _ _ hW11 (K9.put hJ hT hi))
          · skip
            refine v_aload_n C dL_isSound_198 rfl 5 rfl ?_
            refine v_iload C dL_isSound_199 rfl 12 rfl ?_
            refine v_iconst C (v := 0) dL_isSound_201 rfl rfl ?_
            refine q_m0 C hW hJ (i := i) (by omega) (B + 8) (D + 48) ⟨⟨Nat.le_refl _, bl hKc (Nat.le_of_ble_eq_true rfl)⟩, Nat.le_refl _, bl hKn (Nat.le_of_ble_eq_true rfl)⟩ rfl dL_isSound_202 rfl (fun b12 => ?_)
            refine v_if_lt C (t := 293) dL_isSound_205 rfl rfl (fun h => absurd h (nI_pos (by omega))) (fun _ => ?_)
            refine v_aload_n C dL_isSound_208 rfl 5 rfl ?_
            refine v_iload C dL_isSound_209 rfl 12 rfl ?_
            refine v_iconst C (v := 1) dL_isSound_211 rfl rfl ?_
            refine q_m1 C hW hJ (i := i) (by omega) (B + 10) (D + 60) ⟨⟨Nat.le_refl _, bl hKc (Nat.le_of_ble_eq_true rfl)⟩, Nat.le_refl _, bl hKn (Nat.le_of_ble_eq_true rfl)⟩ rfl dL_isSound_212 rfl (fun b13 => ?_)
            refine v_if_lt C (t := 293) dL_isSound_215 rfl rfl (fun h => absurd h (nI_pos (by omega))) (fun _ => ?_)
            refine v_aload_n C dL_isSound_218 rfl 5 rfl ?_
            refine v_iload C dL_isSound_219 rfl 12 rfl ?_
            refine v_iconst C (v := 1) dL_isSound_221 rfl rfl ?_
            refine q_m1 C hW hJ (i := i) (by omega) (B + 12) (D + 72) ⟨⟨Nat.le_refl _, bl hKc (Nat.le_of_ble_eq_true rfl)⟩, Nat.le_refl _, bl hKn (Nat.le_of_ble_eq_true rfl)⟩ rfl dL_isSound_222 rfl (fun b14 => ?_)
            refine v_ldc C (v := 100000) dL_isSound_225 rfl N_L_153 ?_
            refine v_icN_gt C (t := 293) (tn (s 14 i)) 100000 rfl rfl (by omega) (by omega) dL_isSound_227 rfl rfl (fun h => (by omega : False).elim) (fun h15 => ?_)
            refine v_aload_n C dL_isSound_230 rfl 5 rfl ?_
            refine v_iload C dL_isSound_231 rfl 12 rfl ?_
            refine v_iconst C (v := 2) dL_isSound_233 rfl rfl ?_
            refine q_m2 C hW hJ (i := i) (by omega) (B + 14) (D + 84) ⟨⟨Nat.le_refl _, bl hKc (Nat.le_of_ble_eq_true rfl)⟩, Nat.le_refl _, bl hKn (Nat.le_of_ble_eq_true rfl)⟩ rfl dL_isSound_234 rfl (fun b16 => ?_)
            refine v_if_lt C (t := 293) dL_isSound_237 rfl rfl (fun h => absurd h (nI_pos (by omega))) (fun _ => ?_)
            refine v_aload_n C dL_isSound_240 rfl 5 rfl ?_
            refine v_iload C dL_isSound_241 rfl 12 rfl ?_
            refine v_iconst C (v := 3) dL_isSound_243 rfl rfl ?_
            refine q_m3 C hW hJ (i := i) (by omega) (B + 16) (D + 96) ⟨⟨Nat.le_refl _, bl hKc (Nat.le_of_ble_eq_true rfl)⟩, Nat.le_refl _, bl hKn (Nat.le_of_ble_eq_true rfl)⟩ rfl dL_isSound_244 rfl (fun b17 => ?_)
            refine v_if_lt C (t := 293) dL_isSound_247 rfl rfl (fun h => absurd h (nI_pos (by omega))) (fun _ => ?_)
            refine v_aload_n C dL_isSound_250 rfl 5 rfl ?_
            refine v_iload C dL_isSound_251 rfl 12 rfl ?_
            refine v_bipush C (v := 7) dL_isSound_253 rfl rfl ?_
            refine q_m7 C hW hJ (i := i) (by omega) (B + 18) (D + 108) ⟨⟨Nat.le_refl _, bl hKc (Nat.le_of_ble_eq_true rfl)⟩, Nat.le_refl _, bl hKn (Nat.le_of_ble_eq_true rfl)⟩ rfl dL_isSound_255 rfl (fun b18 => ?_)
            refine v_if_lt C (t := 293) dL_isSound_258 rfl rfl (fun h => absurd h (nI_pos (by omega))) (fun _ => ?_)
            refine v_aload_n C dL_isSound_261 rfl 5 rfl ?_
            refine v_iload C dL_isSound_262 rfl 12 rfl ?_
            refine v_bipush C (v := 7) dL_isSound_264 rfl rfl ?_
            refine q_m7 C hW hJ (i := i) (by omega) (B + 20) (D + 120) ⟨⟨Nat.le_refl _, bl hKc (Nat.le_of_ble_eq_true rfl)⟩, Nat.le_refl _, bl hKn (Nat.le_of_ble_eq_true rfl)⟩ rfl dL_isSound_266 rfl (fun b19 => ?_)
            refine v_bipush C (v := 100) dL_isSound_269 rfl rfl ?_
            refine v_icN_gt C (t := 293) (PS s i) 100 rfl rfl (by omega) (by omega) dL_isSound_271 rfl rfl (fun h => (by omega : False).elim) (fun h20 => ?_)
            refine v_iload C dL_isSound_274 rfl 4 rfl ?_
            refine v_ifN_gt C (t := 289) (tn (s 17 i)) rfl (by omega) dL_isSound_276 rfl rfl (fun h21 => ?_) (fun h21 => ?_)
            · skip
              refine v_iconst C (v := 1) dL_isSound_289 rfl rfl ?_
              refine v_goto C (q := 294) dL_isSound_290 rfl ?_
              refine v_istore C (lv1 := [(6, .int (1)), (12, .int (bI (((i + X0) % 4) = 0))), (9, .int (nI (LV s (i + 1)))), (8, .int (nI (SW s nr (i + 1)))), (7, .int (nI (SN (s 13) (i + 1)))), (11, .int (nI (tn (s 17 i)))), (0, .ref (r 4)), (1, .ref (r 0)), (2, .ref (r 1)), (3, .ref (r 2)), (4, .int (nI (X0))), (5, .int (nI (0))), (10, .int (nI (i)))]) dL_isSound_294 rfl (by decide) rfl ?_
              refine v_aload_n C dL_isSound_296 rfl 9 rfl ?_
              refine v_bipush C (v := 12) dL_isSound_297 rfl rfl ?_
              refine v_iload C dL_isSound_299 rfl 12 rfl ?_
              refine v_iaddN C 12 i rfl rfl dL_isSound_301 rfl ?_
              refine v_iload C dL_isSound_302 rfl 5 rfl ?_
              refine v_mst C hW 2 (by decide) (12 + i) (show (12 + i) < 24 by omega) dL_isSound_304 rfl (fun w22 hW23 => ?_)
              refine v_iincN C (lv1 := [(10, .int (nI (i + 1))), (6, .int (1)), (12, .int (bI (((i + X0) % 4) = 0))), (9, .int (nI (LV s (i + 1)))), (8, .int (nI (SW s nr (i + 1)))), (7, .int (nI (SN (s 13) (i + 1)))), (11, .int (nI (tn (s 17 i)))), (0, .ref (r 4)), (1, .ref (r 0)), (2, .ref (r 1)), (3, .ref (r 2)), (4, .int (nI (X0))), (5, .int (nI (0)))]) i rfl dL_isSound_305 rfl 12 rfl (by decide) rfl ?_
              refine v_goto C (q := 88) dL_isSound_308 rfl ?_
              refine xx_lv [7, 8, 9, 10, 11, 12, 1, 5, 4, 3, 0] (lv' := [(0, .ref (r 4)), (1, .ref (r 0)), (2, .ref (r 1)), (3, .ref (r 2)), (4, .int (nI (X0))), (5, .int (nI (0))), (6, .int (1)), (7, .int (nI (SN (s 13) (i + 1)))), (8, .int (nI (SW s nr (i + 1)))), (9, .int (nI (LV s (i + 1)))), (10, .int (nI (i + 1)))]) rfl ?_
              exact xx_mono (bm (Nat.le_of_ble_eq_true rfl)) (bm (Nat.le_of_ble_eq_true rfl)) (ih (by omega) _ _ hW23 (K9.put hJ hT hi))
            · skip
              have hiw : IW s nr i = 0 := IW_d hJ.1 hJ.2.2.2.2.2.2.2.2 hi ((hJ.m17 hi).1.eq0.mpr (by omega))
              refine v_aload_n C dL_isSound_279 rfl 5 rfl ?_
              refine v_iload C dL_isSound_280 rfl 12 rfl ?_
              refine v_iconst C (v := 5) dL_isSound_282 rfl rfl ?_
              refine q_m5 C hW hJ (i := i) (by omega) (B + 22) (D + 132) ⟨⟨Nat.le_refl _, bl hKc (Nat.le_of_ble_eq_true rfl)⟩, Nat.le_refl _, bl hKn (Nat.le_of_ble_eq_true rfl)⟩ rfl dL_isSound_283 rfl (fun b24 => ?_)
              refine v_ifN_ne C (t := 293) (IW s nr i) rfl (by omega) dL_isSound_286 rfl rfl (fun h => (by omega : False).elim) (fun h25 => ?_)
              refine v_iconst C (v := 1) dL_isSound_289 rfl rfl ?_
              refine v_goto C (q := 294) dL_isSound_290 rfl ?_
              refine v_istore C (lv1 := [(6, .int (1)), (12, .int (bI (((i + X0) % 4) = 0))), (9, .int (nI (LV s (i + 1)))), (8, .int (nI (SW s nr (i + 1)))), (7, .int (nI (SN (s 13) (i + 1)))), (11, .int (nI (tn (s 17 i)))), (0, .ref (r 4)), (1, .ref (r 0)), (2, .ref (r 1)), (3, .ref (r 2)), (4, .int (nI (X0))), (5, .int (nI (0))), (10, .int (nI (i)))]) dL_isSound_294 rfl (by decide) rfl ?_
              refine v_aload_n C dL_isSound_296 rfl 9 rfl ?_
              refine v_bipush C (v := 12) dL_isSound_297 rfl rfl ?_
              refine v_iload C dL_isSound_299 rfl 12 rfl ?_
              refine v_iaddN C 12 i rfl rfl dL_isSound_301 rfl ?_
              refine v_iload C dL_isSound_302 rfl 5 rfl ?_
              refine v_mst C hW 2 (by decide) (12 + i) (show (12 + i) < 24 by omega) dL_isSound_304 rfl (fun w26 hW27 => ?_)
              refine v_iincN C (lv1 := [(10, .int (nI (i + 1))), (6, .int (1)), (12, .int (bI (((i + X0) % 4) = 0))), (9, .int (nI (LV s (i + 1)))), (8, .int (nI (SW s nr (i + 1)))), (7, .int (nI (SN (s 13) (i + 1)))), (11, .int (nI (tn (s 17 i)))), (0, .ref (r 4)), (1, .ref (r 0)), (2, .ref (r 1)), (3, .ref (r 2)), (4, .int (nI (X0))), (5, .int (nI (0)))]) i rfl dL_isSound_305 rfl 12 rfl (by decide) rfl ?_
              refine v_goto C (q := 88) dL_isSound_308 rfl ?_
              refine xx_lv [7, 8, 9, 10, 11, 12, 1, 5, 4, 3, 0] (lv' := [(0, .ref (r 4)), (1, .ref (r 0)), (2, .ref (r 1)), (3, .ref (r 2)), (4, .int (nI (X0))), (5, .int (nI (0))), (6, .int (1)), (7, .int (nI (SN (s 13) (i + 1)))), (8, .int (nI (SW s nr (i + 1)))), (9, .int (nI (LV s (i + 1)))), (10, .int (nI (i + 1)))]) rfl ?_
              exact xx_mono (bm (Nat.le_of_ble_eq_true rfl)) (bm (Nat.le_of_ble_eq_true rfl)) (ih (by omega) _ _ hW27 (K9.put hJ hT hi))
        · skip
          refine v_iload C dL_isSound_188 rfl 4 rfl ?_
          refine v_ifN_ne C (t := 293) (tn (s 17 i)) rfl (by omega) dL_isSound_190 rfl rfl (fun h => (by omega : False).elim) (fun h28 => ?_)
          refine v_iload C dL_isSound_193 rfl 0 rfl ?_
          refine v_ifB_eq C (t := 289) dL_isSound_195 rfl rfl (fun h29 => ?_) (fun h29 => ?_)
          · skip
            refine v_iconst C (v := 1) dL_isSound_289 rfl rfl ?_
            refine v_goto C (q := 294) dL_isSound_290 rfl ?_
            refine v_istore C (lv1 := [(6, .int (1)), (12, .int (bI (((i + X0) % 4) = 0))), (9, .int (nI (LV s (i + 1)))), (8, .int (nI (SW s nr (i + 1)))), (7, .int (nI (SN (s 13) (i + 1)))), (11, .int (nI (tn (s 17 i)))), (0, .ref (r 4)), (1, .ref (r 0)), (2, .ref (r 1)), (3, .ref (r 2)), (4, .int (nI (X0))), (5, .int (nI (0))), (10, .int (nI (i)))]) dL_isSound_294 rfl (by decide) rfl ?_
            refine v_aload_n C dL_isSound_296 rfl 9 rfl ?_
            refine v_bipush C (v := 12) dL_isSound_297 rfl rfl ?_
            refine v_iload C dL_isSound_299 rfl 12 rfl ?_
            refine v_iaddN C 12 i rfl rfl dL_isSound_301 rfl ?_
            refine v_iload C dL_isSound_302 rfl 5 rfl ?_
            refine v_mst C hW 2 (by decide) (12 + i) (show (12 + i) < 24 by omega) dL_isSound_304 rfl (fun w30 hW31 => ?_)
            refine v_iincN C (lv1 := [(10, .int (nI (i + 1))), (6, .int (1)), (12, .int (bI (((i + X0) % 4) = 0))), (9, .int (nI (LV s (i + 1)))), (8, .int (nI (SW s nr (i + 1)))), (7, .int (nI (SN (s 13) (i + 1)))), (11, .int (nI (tn (s 17 i)))), (0, .ref (r 4)), (1, .ref (r 0)), (2, .ref (r 1)), (3, .ref (r 2)), (4, .int (nI (X0))), (5, .int (nI (0)))]) i rfl dL_isSound_305 rfl 12 rfl (by decide) rfl ?_
            refine v_goto C (q := 88) dL_isSound_308 rfl ?_
            refine xx_lv [7, 8, 9, 10, 11, 12, 1, 5, 4, 3, 0] (lv' := [(0, .ref (r 4)), (1, .ref (r 0)), (2, .ref (r 1)), (3, .ref (r 2)), (4, .int (nI (X0))), (5, .int (nI (0))), (6, .int (1)), (7, .int (nI (SN (s 13) (i + 1)))), (8, .int (nI (SW s nr (i + 1)))), (9, .int (nI (LV s (i + 1)))), (10, .int (nI (i + 1)))]) rfl ?_
            exact xx_mono (bm (Nat.le_of_ble_eq_true rfl)) (bm (Nat.le_of_ble_eq_true rfl)) (ih (by omega) _ _ hW31 (K9.put hJ hT hi))
          · skip
            refine v_aload_n C dL_isSound_198 rfl 5 rfl ?_
            refine v_iload C dL_isSound_199 rfl 12 rfl ?_
            refine v_iconst C (v := 0) dL_isSound_201 rfl rfl ?_
            refine q_m0 C hW hJ (i := i) (by omega) (B + 8) (D + 48) ⟨⟨Nat.le_refl _, bl hKc (Nat.le_of_ble_eq_true rfl)⟩, Nat.le_refl _, bl hKn (Nat.le_of_ble_eq_true rfl)⟩ rfl dL_isSound_202 rfl (fun b32 => ?_)
            refine v_if_lt C (t := 293) dL_isSound_205 rfl rfl (fun h => absurd h (nI_pos (by omega))) (fun _ => ?_)
            refine v_aload_n C dL_isSound_208 rfl 5 rfl ?_
            refine v_iload C dL_isSound_209 rfl 12 rfl ?_
            refine v_iconst C (v := 1) dL_isSound_211 rfl rfl ?_
            refine q_m1 C hW hJ (i := i) (by omega) (B + 10) (D + 60) ⟨⟨Nat.le_refl _, bl hKc (Nat.le_of_ble_eq_true rfl)⟩, Nat.le_refl _, bl hKn (Nat.le_of_ble_eq_true rfl)⟩ rfl dL_isSound_212 rfl (fun b33 => ?_)
            refine v_if_lt C (t := 293) dL_isSound_215 rfl rfl (fun h => absurd h (nI_pos (by omega))) (fun _ => ?_)
            refine v_aload_n C dL_isSound_218 rfl 5 rfl ?_
            refine v_iload C dL_isSound_219 rfl 12 rfl ?_
            refine v_iconst C (v := 1) dL_isSound_221 rfl rfl ?_
            refine q_m1 C hW hJ (i := i) (by omega) (B + 12) (D + 72) ⟨⟨Nat.le_refl _, bl hKc (Nat.le_of_ble_eq_true rfl)⟩, Nat.le_refl _, bl hKn (Nat.le_of_ble_eq_true rfl)⟩ rfl dL_isSound_222 rfl (fun b34 => ?_)
            refine v_ldc C (v := 100000) dL_isSound_225 rfl N_L_153 ?_
            refine v_icN_gt C (t := 293) (tn (s 14 i)) 100000 rfl rfl (by omega) (by omega) dL_isSound_227 rfl rfl (fun h => (by omega : False).elim) (fun h35 => ?_)
            refine v_aload_n C dL_isSound_230 rfl 5 rfl ?_
            refine v_iload C dL_isSound_231 rfl 12 rfl ?_
            refine v_iconst C (v := 2) dL_isSound_233 rfl rfl ?_
            refine q_m2 C hW hJ (i := i) (by omega) (B + 14) (D + 84) ⟨⟨Nat.le_refl _, bl hKc (Nat.le_of_ble_eq_true rfl)⟩, Nat.le_refl _, bl hKn (Nat.le_of_ble_eq_true rfl)⟩ rfl dL_isSound_234 rfl (fun b36 => ?_)
            refine v_if_lt C (t := 293) dL_isSound_237 rfl rfl (fun h => absurd h (nI_pos (by omega))) (fun _ => ?_)
            refine v_aload_n C dL_isSound_240 rfl 5 rfl ?_
            refine v_iload C dL_isSound_241 rfl 12 rfl ?_
            refine v_iconst C (v := 3) dL_isSound_243 rfl rfl ?_
            refine q_m3 C hW hJ (i := i) (by omega) (B + 16) (D + 96) ⟨⟨Nat.le_refl _, bl hKc (Nat.le_of_ble_eq_true rfl)⟩, Nat.le_refl _, bl hKn (Nat.le_of_ble_eq_true rfl)⟩ rfl dL_isSound_244 rfl (fun b37 => ?_)
            refine v_if_lt C (t := 293) dL_isSound_247 rfl rfl (fun h => absurd h (nI_pos (by omega))) (fun _ => ?_)
            refine v_aload_n C dL_isSound_250 rfl 5 rfl ?_
            refine v_iload C dL_isSound_251 rfl 12 rfl ?_
            refine v_bipush C (v := 7) dL_isSound_253 rfl rfl ?_
            refine q_m7 C hW hJ (i := i) (by omega) (B + 18) (D + 108) ⟨⟨Nat.le_refl _, bl hKc (Nat.le_of_ble_eq_true rfl)⟩, Nat.le_refl _, bl hKn (Nat.le_of_ble_eq_true rfl)⟩ rfl dL_isSound_255 rfl (fun b38 => ?_)
            refine v_if_lt C (t := 293) dL_isSound_258 rfl rfl (fun h => absurd h (nI_pos (by omega))) (fun _ => ?_)
            refine v_aload_n C dL_isSound_261 rfl 5 rfl ?_
            refine v_iload C dL_isSound_262 rfl 12 rfl ?_
            refine v_bipush C (v := 7) dL_isSound_264 rfl rfl ?_
            refine q_m7 C hW hJ (i := i) (by omega) (B + 20) (D + 120) ⟨⟨Nat.le_refl _, bl hKc (Nat.le_of_ble_eq_true rfl)⟩, Nat.le_refl _, bl hKn (Nat.le_of_ble_eq_true rfl)⟩ rfl dL_isSound_266 rfl (fun b39 => ?_)
            refine v_bipush C (v := 100) dL_isSound_269 rfl rfl ?_
            refine v_icN_gt C (t := 293) (PS s i) 100 rfl rfl (by omega) (by omega) dL_isSound_271 rfl rfl (fun h => (by omega : False).elim) (fun h40 => ?_)
            refine v_iload C dL_isSound_274 rfl 4 rfl ?_
            refine v_ifN_gt C (t := 289) (tn (s 17 i)) rfl (by omega) dL_isSound_276 rfl rfl (fun h41 => ?_) (fun h41 => ?_)
            · skip
              refine v_iconst C (v := 1) dL_isSound_289 rfl rfl ?_
              refine v_goto C (q := 294) dL_isSound_290 rfl ?_
              refine v_istore C (lv1 := [(6, .int (1)), (12, .int (bI (((i + X0) % 4) = 0))), (9, .int (nI (LV s (i + 1)))), (8, .int (nI (SW s nr (i + 1)))), (7, .int (nI (SN (s 13) (i + 1)))), (11, .int (nI (tn (s 17 i)))), (0, .ref (r 4)), (1, .ref (r 0)), (2, .ref (r 1)), (3, .ref (r 2)), (4, .int (nI (X0))), (5, .int (nI (0))), (10, .int (nI (i)))]) dL_isSound_294 rfl (by decide) rfl ?_
              refine v_aload_n C dL_isSound_296 rfl 9 rfl ?_
              refine v_bipush C (v := 12) dL_isSound_297 rfl rfl ?_
              refine v_iload C dL_isSound_299 rfl 12 rfl ?_
              refine v_iaddN C 12 i rfl rfl dL_isSound_301 rfl ?_
              refine v_iload C dL_isSound_302 rfl 5 rfl ?_
              refine v_mst C hW 2 (by decide) (12 + i) (show (12 + i) < 24 by omega) dL_isSound_304 rfl (fun w42 hW43 => ?_)
              refine v_iincN C (lv1 := [(10, .int (nI (i + 1))), (6, .int (1)), (12, .int (bI (((i + X0) % 4) = 0))), (9, .int (nI (LV s (i + 1)))), (8, .int (nI (SW s nr (i + 1)))), (7, .int (nI (SN (s 13) (i + 1)))), (11, .int (nI (tn (s 17 i)))), (0, .ref (r 4)), (1, .ref (r 0)), (2, .ref (r 1)), (3, .ref (r 2)), (4, .int (nI (X0))), (5, .int (nI (0)))]) i rfl dL_isSound_305 rfl 12 rfl (by decide) rfl ?_
              refine v_goto C (q := 88) dL_isSound_308 rfl ?_
              refine xx_lv [7, 8, 9, 10, 11, 12, 1, 5, 4, 3, 0] (lv' := [(0, .ref (r 4)), (1, .ref (r 0)), (2, .ref (r 1)), (3, .ref (r 2)), (4, .int (nI (X0))), (5, .int (nI (0))), (6, .int (1)), (7, .int (nI (SN (s 13) (i + 1)))), (8, .int (nI (SW s nr (i + 1)))), (9, .int (nI (LV s (i + 1)))), (10, .int (nI (i + 1)))]) rfl ?_
              exact xx_mono (bm (Nat.le_of_ble_eq_true rfl)) (bm (Nat.le_of_ble_eq_true rfl)) (ih (by omega) _ _ hW43 (K9.put hJ hT hi))
            · skip
              have hiw : IW s nr i = 0 := IW_d hJ.1 hJ.2.2.2.2.2.2.2.2 hi ((hJ.m17 hi).1.eq0.mpr (by omega))
              refine v_aload_n C dL_isSound_279 rfl 5 rfl ?_
              refine v_iload C dL_isSound_280 rfl 12 rfl ?_
              refine v_iconst C (v := 5) dL_isSound_282 rfl rfl ?_
              refine q_m5 C hW hJ (i := i) (by omega) (B + 22) (D + 132) ⟨⟨Nat.le_refl _, bl hKc (Nat.le_of_ble_eq_true rfl)⟩, Nat.le_refl _, bl hKn (Nat.le_of_ble_eq_true rfl)⟩ rfl dL_isSound_283 rfl (fun b44 => ?_)
              refine v_ifN_ne C (t := 293) (IW s nr i) rfl (by omega) dL_isSound_286 rfl rfl (fun h => (by omega : False).elim) (fun h45 => ?_)
              refine v_iconst C (v := 1) dL_isSound_289 rfl rfl ?_
              refine v_goto C (q := 294) dL_isSound_290 rfl ?_
              refine v_istore C (lv1 := [(6, .int (1)), (12, .int (bI (((i + X0) % 4) = 0))), (9, .int (nI (LV s (i + 1)))), (8, .int (nI (SW s nr (i + 1)))), (7, .int (nI (SN (s 13) (i + 1)))), (11, .int (nI (tn (s 17 i)))), (0, .ref (r 4)), (1, .ref (r 0)), (2, .ref (r 1)), (3, .ref (r 2)), (4, .int (nI (X0))), (5, .int (nI (0))), (10, .int (nI (i)))]) dL_isSound_294 rfl (by decide) rfl ?_
              refine v_aload_n C dL_isSound_296 rfl 9 rfl ?_
              refine v_bipush C (v := 12) dL_isSound_297 rfl rfl ?_
              refine v_iload C dL_isSound_299 rfl 12 rfl ?_
              refine v_iaddN C 12 i rfl rfl dL_isSound_301 rfl ?_
              refine v_iload C dL_isSound_302 rfl 5 rfl ?_
              refine v_mst C hW 2 (by decide) (12 + i) (show (12 + i) < 24 by omega) dL_isSound_304 rfl (fun w46 hW47 => ?_)
              refine v_iincN C (lv1 := [(10, .int (nI (i + 1))), (6, .int (1)), (12, .int (bI (((i + X0) % 4) = 0))), (9, .int (nI (LV s (i + 1)))), (8, .int (nI (SW s nr (i + 1)))), (7, .int (nI (SN (s 13) (i + 1)))), (11, .int (nI (tn (s 17 i)))), (0, .ref (r 4)), (1, .ref (r 0)), (2, .ref (r 1)), (3, .ref (r 2)), (4, .int (nI (X0))), (5, .int (nI (0)))]) i rfl dL_isSound_305 rfl 12 rfl (by decide) rfl ?_
              refine v_goto C (q := 88) dL_isSound_308 rfl ?_
              refine xx_lv [7, 8, 9, 10, 11, 12, 1, 5, 4, 3, 0] (lv' := [(0, .ref (r 4)), (1, .ref (r 0)), (2, .ref (r 1)), (3, .ref (r 2)), (4, .int (nI (X0))), (5, .int (nI (0))), (6, .int (1)), (7, .int (nI (SN (s 13) (i + 1)))), (8, .int (nI (SW s nr (i + 1)))), (9, .int (nI (LV s (i + 1)))), (10, .int (nI (i + 1)))]) rfl ?_
              exact xx_mono (bm (Nat.le_of_ble_eq_true rfl)) (bm (Nat.le_of_ble_eq_true rfl)) (ih (by omega) _ _ hW47 (K9.put hJ hT hi))
      refine v_ifN_ne C (t := 163) ((i + X0) % 4) rfl (by omega) dL_isSound_156 rfl rfl (fun h6 => ?_) (fun h6 => ?_)
      · skip
        refine v_iconst C (v := 0) dL_isSound_163 rfl rfl ?_
        exact jj _ (bI_f (by first | assumption | omega)).symm
      · skip
        refine v_iconst C (v := 1) dL_isSound_159 rfl rfl ?_
        refine v_goto C (q := 164) dL_isSound_160 rfl ?_
        exact jj _ (bI_t (by first | assumption | omega)).symm
    refine v_ifN_le C (t := 145) (tn (s 17 i)) rfl (by omega) dL_isSound_138 rfl rfl (fun h5 => ?_) (fun h5 => ?_)
    · skip
      refine v_iconst C (v := 0) dL_isSound_145 rfl rfl ?_
      exact jj _ (bI_f (by first | assumption | omega)).symm
    · skip
      refine v_iconst C (v := 1) dL_isSound_141 rfl rfl ?_
      refine v_goto C (q := 146) dL_isSound_142 rfl ?_
      exact jj _ (bI_t (by first | assumption | omega)).symm

theorem lp_snd_1 {X : XS} {G : GG} {w : va_W} {Q : State → Prop} {r : Nat → Nat} {s t : SS} {nm nc nr k B D : Nat} {X0 : Nat} (C : Cx X G cL_isSound 15 RL (Option.some Jvm.ClassFile.FieldType.boolean) r_L_isSound "isSound" []) (hW : Wd G r s t nm nc nr w) (hJ : Js s nm nc nr k) (hk : k ≤ 131) (hT : K9 s t nm nc nr k) (hX : X0 < 100000000) (hKc : B + 286 ≤ r_L_isSound.cells) (hKn : D + 1716 ≤ r_L_isSound.slots) (kk : ∀ (w1 : va_W) (t1 : SS), Wd G r s t1 nm nc nr w1 → K9 s t1 nm nc nr k → V X G 15 w1 (B + 286) (D + 1716) Q 311 [(0, .ref (r 4)), (1, .ref (r 0)), (2, .ref (r 1)), (3, .ref (r 2)), (4, .int (nI (X0))), (5, .int (nI (0))), (6, .int (1)), (7, .int (nI (SN (s 13) nm))), (8, .int (nI (SW s nr nm))), (9, .int (nI (LV s nm))), (10, .int (nI (nm)))] []) : V X G 15 w B D Q 88 [(0, .ref (r 4)), (1, .ref (r 0)), (2, .ref (r 1)), (3, .ref (r 2)), (4, .int (nI (X0))), (5, .int (nI (0))), (6, .int (1)), (7, .int (nI (SN (s 13) 0))), (8, .int (nI (SW s nr 0))), (9, .int (nI (LV s 0))), (10, .int (nI (0)))] [] := by
  have hm := hJ.1.1
  have key := ind_up (α := va_W × SS) (P := fun i y => Wd G r s y.2 nm nc nr y.1 → K9 s y.2 nm nc nr k → V X G 15 y.1 (B + 22 * i) (D + 132 * i) Q 88 [(0, .ref (r 4)), (1, .ref (r 0)), (2, .ref (r 1)), (3, .ref (r 2)), (4, .int (nI (X0))), (5, .int (nI (0))), (6, .int (1)), (7, .int (nI (SN (s 13) i))), (8, .int (nI (SW s nr i))), (9, .int (nI (LV s i))), (10, .int (nI (i)))] []) nm (fun i y hi ih hW hT => sg_snd_1 C hW hJ hk hT hX hi (by omega) (by omega) (fun h w1 t1 h1 h2 => xx_mono (by omega) (by omega) (ih h (w1, t1) h1 h2)) (xx_mono (by omega) (by omega) (kk _ _ hW hT)))
  exact key 0 (w, t) (by omega) hW hT

theorem sg_snd_g1 {X : XS} {G : GG} {w : va_W} {Q : State → Prop} {r : Nat → Nat} {s t : SS} {nm nc nr k B D : Nat} {X0 : Nat} (C : Cx X G cL_isSound 15 RL (Option.some Jvm.ClassFile.FieldType.boolean) r_L_isSound "isSound" []) (hW : Wd G r s t nm nc nr w) (hJ : Js s nm nc nr k) (hk : k ≤ 131) (hT : K9 s t nm nc nr k) (hX : X0 < 100000000) (hKc : B + 0 ≤ r_L_isSound.cells) (hKn : D + 0 ≤ r_L_isSound.slots) (kk : V X G 15 w (B + 0) (D + 0) Q 314 [(0, .ref (r 4)), (1, .ref (r 0)), (2, .ref (r 1)), (3, .ref (r 2)), (4, .int (nI (X0))), (5, .int (nI (SN (fun j => gvW s (j + 1)) 0))), (6, .int (1)), (7, .int (nI (SN (s 13) nm))), (8, .int (nI (SW s nr nm))), (9, .int (nI (LV s nm))), (10, .int (nI (0)))] []) : V X G 15 w B D Q 311 [(0, .ref (r 4)), (1, .ref (r 0)), (2, .ref (r 1)), (3, .ref (r 2)), (4, .int (nI (X0))), (5, .int (nI (0))), (6, .int (1)), (7, .int (nI (SN (s 13) nm))), (8, .int (nI (SW s nr nm))), (9, .int (nI (LV s nm))), (10, .int (nI (nm)))] [] := by
  have hst : X.2.1.stackTraces = false := C.2.2.2.2.2.1
  have hG : GOK G := C.2.2.2.2.2.2.2.2.2.1
  have hm := hJ.1.1
  refine v_iconst C (v := 0) dL_isSound_311 rfl rfl ?_
  refine v_istore C (lv1 := [(10, .int (0)), (0, .ref (r 4)), (1, .ref (r 0)), (2, .ref (r 1)), (3, .ref (r 2)), (4, .int (nI (X0))), (5, .int (nI (0))), (6, .int (1)), (7, .int (nI (SN (s 13) nm))), (8, .int (nI (SW s nr nm))), (9, .int (nI (LV s nm)))]) dL_isSound_312 rfl (by decide) rfl ?_
  refine xx_lv [1, 2, 3, 4, 5, 6, 7, 8, 9, 10, 0] (lv' := [(0, .ref (r 4)), (1, .ref (r 0)), (2, .ref (r 1)), (3, .ref (r 2)), (4, .int (nI (X0))), (5, .int (nI (SN (fun j => gvW s (j + 1)) 0))), (6, .int (1)), (7, .int (nI (SN (s 13) nm))), (8, .int (nI (SW s nr nm))), (9, .int (nI (LV s nm))), (10, .int (nI (0)))]) rfl ?_
  exact xx_mono (Nat.le_add_right _ _) (Nat.le_add_right _ _) (kk)

theorem sg_snd_2 {X : XS} {G : GG} {w : va_W} {Q : State → Prop} {r : Nat → Nat} {s t : SS} {nm nc nr k B D : Nat} {X0 : Nat} {i : Nat} (C : Cx X G cL_isSound 15 RL (Option.some Jvm.ClassFile.FieldType.boolean) r_L_isSound "isSound" []) (hW : Wd G r s t nm nc nr w) (hJ : Js s nm nc nr k) (hk : k ≤ 131) (hT : K9 s t nm nc nr k) (hX : X0 < 100000000) (hi0 : i ≤ nr) (hKc : B + 1 ≤ r_L_isSound.cells) (hKn : D + 6 ≤ r_L_isSound.slots) (ih : i < nr → V X G 15 w (B + 1) (D + 6) Q 314 [(0, .ref (r 4)), (1, .ref (r 0)), (2, .ref (r 1)), (3, .ref (r 2)), (4, .int (nI (X0))), (5, .int (nI (SN (fun j => gvW s (j + 1)) (i + 1)))), (6, .int (1)), (7, .int (nI (SN (s 13) nm))), (8, .int (nI (SW s nr nm))), (9, .int (nI (LV s nm))), (10, .int (nI (i + 1)))] []) (kk : V X G 15 w (B + 1) (D + 6) Q 406 [(0, .ref (r 4)), (1, .ref (r 0)), (2, .ref (r 1)), (3, .ref (r 2)), (4, .int (nI (X0))), (5, .int (nI (SN (fun j => gvW s (j + 1)) nr))), (6, .int (1)), (7, .int (nI (SN (s 13) nm))), (8, .int (nI (SW s nr nm))), (9, .int (nI (LV s nm))), (10, .int (nI (nr)))] []) : V X G 15 w B D Q 314 [(0, .ref (r 4)), (1, .ref (r 0)), (2, .ref (r 1)), (3, .ref (r 2)), (4, .int (nI (X0))), (5, .int (nI (SN (fun j => gvW s (j + 1)) i))), (6, .int (1)), (7, .int (nI (SN (s 13) nm))), (8, .int (nI (SW s nr nm))), (9, .int (nI (LV s nm))), (10, .int (nI (i)))] [] := by
  have hst : X.2.1.stackTraces = false := C.2.2.2.2.2.1
  have hG : GOK G := C.2.2.2.2.2.2.2.2.2.1
  have hm := hJ.1.1
  refine v_iload C dL_isSound_314 rfl 10 rfl ?_
  refine v_aload_n C dL_isSound_316 rfl 1 rfl ?_
  refine v_iconst C (v := 2) dL_isSound_317 rfl rfl ?_
  refine v_mld C hW 0 (by decide) 2 (show 2 < 6 by omega) dL_isSound_318 rfl ?_
  refine xx_top (y := nI (nr)) hT.1.2.2.1 ?_
  refine v_icN_ge C (t := 406) i nr rfl rfl (by omega) (by omega) dL_isSound_319 rfl rfl (fun h1 => ?_) (fun h1 => ?_)
  · skip
    obtain rfl : nr = i := by omega
    refine xx_lv [0, 1, 2, 3, 4, 5, 6, 7, 8, 9, 10] (lv' := [(0, .ref (r 4)), (1, .ref (r 0)), (2, .ref (r 1)), (3, .ref (r 2)), (4, .int (nI (X0))), (5, .int (nI (SN (fun j => gvW s (j + 1)) nr))), (6, .int (1)), (7, .int (nI (SN (s 13) nm))), (8, .int (nI (SW s nr nm))), (9, .int (nI (LV s nm))), (10, .int (nI (nr)))]) rfl ?_
    exact xx_mono (Nat.le_add_right _ _) (Nat.le_add_right _ _) (kk)
  · skip
    refine v_iload C dL_isSound_322 rfl 6 rfl ?_
    refine v_if_eq C (t := 406) dL_isSound_324 rfl rfl (fun h => absurd h (by decide)) (fun _ => ?_)
    have hi : i < nr := by omega
    have ho := (hJ.2.2.2.2.2.2.2.2 i hi).1.2
    have hsn := Nat.le_trans (SN_m (f := fun j => gvW s (j + 1)) (show i + 1 ≤ nr by omega)) (Nat.le_trans (Nat.le_add_right _ _) (Nat.le_of_eq (gv_n hJ.1 hJ.2.2.2.2.2.2.2.2 nr (Nat.le_refl _)).2.2))
    have hfl := hJ.1.2.2.1.2
    refine v_aload_n C dL_isSound_327 rfl 0 rfl ?_
    refine v_iload C dL_isSound_328 rfl 10 rfl ?_
    refine q_gets C hW hJ (i := i) (by omega) (B + 1) (D + 6) ⟨⟨Nat.le_refl _, bl hKc (Nat.le_of_ble_eq_true rfl)⟩, Nat.le_refl _, bl hKn (Nat.le_of_ble_eq_true rfl)⟩ rfl dL_isSound_330 rfl (fun b2 => ?_)
    refine v_istore C (lv1 := [(11, .int (nI (tn (gvW s (i + 1))))), (0, .ref (r 4)), (1, .ref (r 0)), (2, .ref (r 1)), (3, .ref (r 2)), (4, .int (nI (X0))), (5, .int (nI (SN (fun j => gvW s (j + 1)) i))), (6, .int (1)), (7, .int (nI (SN (s 13) nm))), (8, .int (nI (SW s nr nm))), (9, .int (nI (LV s nm))), (10, .int (nI (i)))]) dL_isSound_333 rfl (by decide) rfl ?_
    refine v_iload C dL_isSound_335 rfl 6 rfl ?_
    refine v_iload C dL_isSound_337 rfl 0 rfl ?_
    refine v_iaddN C (SN (fun j => gvW s (j + 1)) i) (tn (gvW s (i + 1))) rfl rfl dL_isSound_339 rfl ?_
    refine xx_top (y := nI (SN (fun j => gvW s (j + 1)) (i + 1))) rfl ?_
    refine v_istore C (lv1 := [(5, .int (nI (SN (fun j => gvW s (j + 1)) (i + 1)))), (11, .int (nI (tn (gvW s (i + 1))))), (0, .ref (r 4)), (1, .ref (r 0)), (2, .ref (r 1)), (3, .ref (r 2)), (4, .int (nI (X0))), (6, .int (1)), (7, .int (nI (SN (s 13) nm))), (8, .int (nI (SW s nr nm))), (9, .int (nI (LV s nm))), (10, .int (nI (i)))]) dL_isSound_340 rfl (by decide) rfl ?_
    refine v_aload_n C dL_isSound_342 rfl 5 rfl ?_
    refine v_bipush C (v := 12) dL_isSound_343 rfl rfl ?_
    refine v_aload_n C dL_isSound_345 rfl 4 rfl ?_
    refine v_iload C dL_isSound_346 rfl 11 rfl ?_
    refine v_mld C hW 1 (by decide) i (show i < 20 by omega) dL_isSound_348 rfl ?_
    refine xx_top (y := nI (tn (s 35 i) + 1000 * tn (s 34 i))) (hT.2.1 i hi) ?_
    refine v_sipush C (v := 1000) dL_isSound_349 rfl rfl ?_
    refine v_idivN C (tn (s 35 i) + 1000 * tn (s 34 i)) 1000 rfl rfl (by omega) (by omega) (by omega) dL_isSound_352 rfl ?_
    refine v_iaddN C 12 ((tn (s 35 i) + 1000 * tn (s 34 i)) / 1000) rfl rfl dL_isSound_353 rfl ?_
    refine xx_top (y := nI (12 + tn (s 34 i))) (congrArg nI (by omega)) ?_
    refine v_mld C hW 2 (by decide) (12 + tn (s 34 i)) (show (12 + tn (s 34 i)) < 24 by omega) dL_isSound_354 rfl ?_
    refine xx_top (y := nI (tn (t 2 (12 + (tn (s 34 i)))))) (hT.2.2.2.1 (tn (s 34 i)) ho).1.e ?_
    have hw1 := (hT.2.2.2.1 _ ho).2.1
    refine xx_sel (P := (tn (t 2 (12 + (tn (s 34 i))))) = 0) 363 [] ?_ (fun jj => ?_)
    · skip
      refine v_istore C (lv1 := [(12, .int (bI ((tn (t 2 (12 + (tn (s 34 i))))) = 0))), (5, .int (nI (SN (fun j => gvW s (j + 1)) (i + 1)))), (11, .int (nI (tn (gvW s (i + 1))))), (0, .ref (r 4)), (1, .ref (r 0)), (2, .ref (r 1)), (3, .ref (r 2)), (4, .int (nI (X0))), (6, .int (1)), (7, .int (nI (SN (s 13) nm))), (8, .int (nI (SW s nr nm))), (9, .int (nI (LV s nm))), (10, .int (nI (i)))]) dL_isSound_363 rfl (by decide) rfl ?_
      refine v_iload C dL_isSound_365 rfl 2 rfl ?_
      refine v_if_lt C (t := 397) dL_isSound_367 rfl rfl (fun h => absurd h (nI_pos (by omega))) (fun _ => ?_)
      refine v_iload C dL_isSound_370 rfl 2 rfl ?_
      refine v_aload_n C dL_isSound_372 rfl 5 rfl ?_
      refine v_iload C dL_isSound_373 rfl 12 rfl ?_
      refine v_mld C hW 1 (by decide) i (show i < 20 by omega) dL_isSound_375 rfl ?_
      refine xx_top (y := nI (tn (s 35 i) + 1000 * tn (s 34 i))) (hT.2.1 i hi) ?_
      refine v_sipush C (v := 1000) dL_isSound_376 rfl rfl ?_
      refine v_iremN C (tn (s 35 i) + 1000 * tn (s 34 i)) 1000 rfl rfl (by omega) (by omega) (by omega) dL_isSound_379 rfl ?_
      refine v_icN_gt C (t := 397) (tn (gvW s (i + 1))) ((tn (s 35 i) + 1000 * tn (s 34 i)) % 1000) rfl rfl (by omega) (by omega) dL_isSound_380 rfl rfl (fun h => (by omega : False).elim) (fun h4 => ?_)
      refine v_iload C dL_isSound_383 rfl 0 rfl ?_
      refine v_ifB_eq C (t := 393) dL_isSound_385 rfl rfl (fun h5 => ?_) (fun h5 => ?_)
      · skip
        refine v_iconst C (v := 1) dL_isSound_393 rfl rfl ?_
        refine v_goto C (q := 398) dL_isSound_394 rfl ?_
        refine v_istore C (lv1 := [(6, .int (1)), (12, .int (bI ((tn (t 2 (12 + (tn (s 34 i))))) = 0))), (5, .int (nI (SN (fun j => gvW s (j + 1)) (i + 1)))), (11, .int (nI (tn (gvW s (i + 1))))), (0, .ref (r 4)), (1, .ref (r 0)), (2, .ref (r 1)), (3, .ref (r 2)), (4, .int (nI (X0))), (7, .int (nI (SN (s 13) nm))), (8, .int (nI (SW s nr nm))), (9, .int (nI (LV s nm))), (10, .int (nI (i)))]) dL_isSound_398 rfl (by decide) rfl ?_
        refine v_iincN C (lv1 := [(10, .int (nI (i + 1))), (6, .int (1)), (12, .int (bI ((tn (t 2 (12 + (tn (s 34 i))))) = 0))), (5, .int (nI (SN (fun j => gvW s (j + 1)) (i + 1)))), (11, .int (nI (tn (gvW s (i + 1))))), (0, .ref (r 4)), (1, .ref (r 0)), (2, .ref (r 1)), (3, .ref (r 2)), (4, .int (nI (X0))), (7, .int (nI (SN (s 13) nm))), (8, .int (nI (SW s nr nm))), (9, .int (nI (LV s nm)))]) i rfl dL_isSound_400 rfl 12 rfl (by decide) rfl ?_
        refine v_goto C (q := 314) dL_isSound_403 rfl ?_
        refine xx_lv [5, 6, 7, 8, 9, 3, 1, 10, 11, 12, 0] (lv' := [(0, .ref (r 4)), (1, .ref (r 0)), (2, .ref (r 1)), (3, .ref (r 2)), (4, .int (nI (X0))), (5, .int (nI (SN (fun j => gvW s (j + 1)) (i + 1)))), (6, .int (1)), (7, .int (nI (SN (s 13) nm))), (8, .int (nI (SW s nr nm))), (9, .int (nI (LV s nm))), (10, .int (nI (i + 1)))]) rfl ?_
        exact xx_mono (bm (Nat.le_of_ble_eq_true rfl)) (bm (Nat.le_of_ble_eq_true rfl)) (ih (by omega))
      · skip
        have hg0 : tn (gvW s (i + 1)) = 0 := by rw [(hJ.gv hi).2.2 ((hT.2.2.2.1 _ ho).2.2 ((hT.2.2.2.1 _ ho).1.eq0.mpr (by assumption))), tn_0]
        refine v_iload C dL_isSound_388 rfl 2 rfl ?_
        refine v_ifN_ne C (t := 397) (tn (gvW s (i + 1))) rfl (by omega) dL_isSound_390 rfl rfl (fun h => (by omega : False).elim) (fun h6 => ?_)
        refine v_iconst C (v := 1) dL_isSound_393 rfl rfl ?_
        refine v_goto C (q := 398) dL_isSound_394 rfl ?_
        refine v_istore C (lv1 := [(6, .int (1)), (12, .int (bI ((tn (t 2 (12 + (tn (s 34 i))))) = 0))), (5, .int (nI (SN (fun j => gvW s (j + 1)) (i + 1)))), (11, .int (nI (tn (gvW s (i + 1))))), (0, .ref (r 4)), (1, .ref (r 0)), (2, .ref (r 1)), (3, .ref (r 2)), (4, .int (nI (X0))), (7, .int (nI (SN (s 13) nm))), (8, .int (nI (SW s nr nm))), (9, .int (nI (LV s nm))), (10, .int (nI (i)))]) dL_isSound_398 rfl (by decide) rfl ?_
        refine v_iincN C (lv1 := [(10, .int (nI (i + 1))), (6, .int (1)), (12, .int (bI ((tn (t 2 (12 + (tn (s 34 i))))) = 0))), (5, .int (nI (SN (fun j => gvW s (j + 1)) (i + 1)))), (11, .int (nI (tn (gvW s (i + 1))))), (0, .ref (r 4)), (1, .ref (r 0)), (2, .ref (r 1)), (3, .ref (r 2)), (4, .int (nI (X0))), (7, .int (nI (SN (s 13) nm))), (8, .int (nI (SW s nr nm))), (9, .int (nI (LV s nm)))]) i rfl dL_isSound_400 rfl 12 rfl (by decide) rfl ?_
        refine v_goto C (q := 314) dL_isSound_403 rfl ?_
        refine xx_lv [5, 6, 7, 8, 9, 3, 1, 10, 11, 12, 0] (lv' := [(0, .ref (r 4)), (1, .ref (r 0)), (2, .ref (r 1)), (3, .ref (r 2)), (4, .int (nI (X0))), (5, .int (nI (SN (fun j => gvW s (j + 1)) (i + 1)))), (6, .int (1)), (7, .int (nI (SN (s 13) nm))), (8, .int (nI (SW s nr nm))), (9, .int (nI (LV s nm))), (10, .int (nI (i + 1)))]) rfl ?_
        exact xx_mono (bm (Nat.le_of_ble_eq_true rfl)) (bm (Nat.le_of_ble_eq_true rfl)) (ih (by omega))
    refine v_ifN_ne C (t := 362) (tn (t 2 (12 + (tn (s 34 i))))) rfl (by omega) dL_isSound_355 rfl rfl (fun h3 => ?_) (fun h3 => ?_)
    · skip
      refine v_iconst C (v := 0) dL_isSound_362 rfl rfl ?_
      exact jj _ (bI_f (by first | assumption | omega)).symm
    · skip
      refine v_iconst C (v := 1) dL_isSound_358 rfl rfl ?_
      refine v_goto C (q := 363) dL_isSound_359 rfl ?_
      exact jj _ (bI_t (by first | assumption | omega)).symm

theorem lp_snd_2 {X : XS} {G : GG} {w : va_W} {Q : State → Prop} {r : Nat → Nat} {s t : SS} {nm nc nr k B D : Nat} {X0 : Nat} (C : Cx X G cL_isSound 15 RL (Option.some Jvm.ClassFile.FieldType.boolean) r_L_isSound "isSound" []) (hW : Wd G r s t nm nc nr w) (hJ : Js s nm nc nr k) (hk : k ≤ 131) (hT : K9 s t nm nc nr k) (hX : X0 < 100000000) (hKc : B + 21 ≤ r_L_isSound.cells) (hKn : D + 126 ≤ r_L_isSound.slots) (kk : V X G 15 w (B + 21) (D + 126) Q 406 [(0, .ref (r 4)), (1, .ref (r 0)), (2, .ref (r 1)), (3, .ref (r 2)), (4, .int (nI (X0))), (5, .int (nI (SN (fun j => gvW s (j + 1)) nr))), (6, .int (1)), (7, .int (nI (SN (s 13) nm))), (8, .int (nI (SW s nr nm))), (9, .int (nI (LV s nm))), (10, .int (nI (nr)))] []) : V X G 15 w B D Q 314 [(0, .ref (r 4)), (1, .ref (r 0)), (2, .ref (r 1)), (3, .ref (r 2)), (4, .int (nI (X0))), (5, .int (nI (SN (fun j => gvW s (j + 1)) 0))), (6, .int (1)), (7, .int (nI (SN (s 13) nm))), (8, .int (nI (SW s nr nm))), (9, .int (nI (LV s nm))), (10, .int (nI (0)))] [] := by
  have hm := hJ.1.1
  have key := ind_up (α := Unit) (P := fun i _ => V X G 15 w (B + 1 * i) (D + 6 * i) Q 314 [(0, .ref (r 4)), (1, .ref (r 0)), (2, .ref (r 1)), (3, .ref (r 2)), (4, .int (nI (X0))), (5, .int (nI (SN (fun j => gvW s (j + 1)) i))), (6, .int (1)), (7, .int (nI (SN (s 13) nm))), (8, .int (nI (SW s nr nm))), (9, .int (nI (LV s nm))), (10, .int (nI (i)))] []) nr (fun i _ hi ih => sg_snd_2 C hW hJ hk hT hX hi (by omega) (by omega) (fun h => xx_mono (by omega) (by omega) (ih h ())) (xx_mono (by omega) (by omega) kk))
  exact key 0 () (by omega)

theorem sg_snd_g2 {X : XS} {G : GG} {w : va_W} {Q : State → Prop} {r : Nat → Nat} {s t : SS} {nm nc nr k B D : Nat} {X0 : Nat} (C : Cx X G cL_isSound 15 RL (Option.some Jvm.ClassFile.FieldType.boolean) r_L_isSound "isSound" []) (hW : Wd G r s t nm nc nr w) (hJ : Js s nm nc nr k) (hk : k ≤ 131) (hT : K9 s t nm nc nr k) (hX : X0 < 100000000) (hKc : B + 0 ≤ r_L_isSound.cells) (hKn : D + 0 ≤ r_L_isSound.slots) (kk : V X G 15 w (B + 0) (D + 0) Q 412 [(0, .ref (r 4)), (1, .ref (r 0)), (2, .ref (r 1)), (3, .ref (r 2)), (4, .int (nI (X0))), (5, .int (nI (SN (fun j => gvW s (j + 1)) nr))), (6, .int (1)), (7, .int (nI (SN (s 13) nm))), (8, .int (nI (SW s nr nm))), (9, .int (nI (LV s nm))), (10, .int (nI (X0 % 5)))] []) : V X G 15 w B D Q 406 [(0, .ref (r 4)), (1, .ref (r 0)), (2, .ref (r 1)), (3, .ref (r 2)), (4, .int (nI (X0))), (5, .int (nI (SN (fun j => gvW s (j + 1)) nr))), (6, .int (1)), (7, .int (nI (SN (s 13) nm))), (8, .int (nI (SW s nr nm))), (9, .int (nI (LV s nm))), (10, .int (nI (nr)))] [] := by
  have hst : X.2.1.stackTraces = false := C.2.2.2.2.2.1
  have hG : GOK G := C.2.2.2.2.2.2.2.2.2.1
  have hm := hJ.1.1
  refine v_iload C dL_isSound_406 rfl 4 rfl ?_
  refine v_iconst C (v := 5) dL_isSound_408 rfl rfl ?_
  refine v_iremN C X0 5 rfl rfl (by omega) (by omega) (by omega) dL_isSound_409 rfl ?_
  refine v_istore C (lv1 := [(10, .int (nI (X0 % 5))), (0, .ref (r 4)), (1, .ref (r 0)), (2, .ref (r 1)), (3, .ref (r 2)), (4, .int (nI (X0))), (5, .int (nI (SN (fun j => gvW s (j + 1)) nr))), (6, .int (1)), (7, .int (nI (SN (s 13) nm))), (8, .int (nI (SW s nr nm))), (9, .int (nI (LV s nm)))]) dL_isSound_410 rfl (by decide) rfl ?_
  refine xx_lv [1, 2, 3, 4, 5, 6, 7, 8, 9, 10, 0] (lv' := [(0, .ref (r 4)), (1, .ref (r 0)), (2, .ref (r 1)), (3, .ref (r 2)), (4, .int (nI (X0))), (5, .int (nI (SN (fun j => gvW s (j + 1)) nr))), (6, .int (1)), (7, .int (nI (SN (s 13) nm))), (8, .int (nI (SW s nr nm))), (9, .int (nI (LV s nm))), (10, .int (nI (X0 % 5)))]) rfl ?_
  exact xx_mono (Nat.le_add_right _ _) (Nat.le_add_right _ _) (kk)

theorem sg_snd_3 {X : XS} {G : GG} {w : va_W} {Q : State → Prop} {r : Nat → Nat} {s t : SS} {nm nc nr k B D : Nat} {X0 : Nat} {i : Nat} (C : Cx X G cL_isSound 15 RL (Option.some Jvm.ClassFile.FieldType.boolean) r_L_isSound "isSound" []) (hW : Wd G r s t nm nc nr w) (hJ : Js s nm nc nr k) (hk : k ≤ 131) (hT : K9 s t nm nc nr k) (hX : X0 < 100000000) (hKc : B + 17 ≤ r_L_isSound.cells) (hKn : D + 102 ≤ r_L_isSound.slots) (hi30 : i < 40) (ih : i < nc → V X G 15 w (B + 17) (D + 102) Q 412 [(0, .ref (r 4)), (1, .ref (r 0)), (2, .ref (r 1)), (3, .ref (r 2)), (4, .int (nI (X0))), (5, .int (nI (SN (fun j => gvW s (j + 1)) nr))), (6, .int (1)), (7, .int (nI (SN (s 13) nm))), (8, .int (nI (SW s nr nm))), (9, .int (nI (LV s nm))), (10, .int (nI (i + 5)))] []) (kk : nc ≤ i → V X G 15 w (B + 17) (D + 102) Q 588 [(0, .ref (r 4)), (1, .ref (r 0)), (2, .ref (r 1)), (3, .ref (r 2)), (4, .int (nI (X0))), (5, .int (nI (SN (fun j => gvW s (j + 1)) nr))), (6, .int (1)), (7, .int (nI (SN (s 13) nm))), (8, .int (nI (SW s nr nm))), (9, .int (nI (LV s nm))), (10, .int (nI (i)))] []) : V X G 15 w B D Q 412 [(0, .ref (r 4)), (1, .ref (r 0)), (2, .ref (r 1)), (3, .ref (r 2)), (4, .int (nI (X0))), (5, .int (nI (SN (fun j => gvW s (j + 1)) nr))), (6, .int (1)), (7, .int (nI (SN (s 13) nm))), (8, .int (nI (SW s nr nm))), (9, .int (nI (LV s nm))), (10, .int (nI (i)))] [] := by
  have hst : X.2.1.stackTraces = false := C.2.2.2.2.2.1
  have hG : GOK G := C.2.2.2.2.2.2.2.2.2.1
  have hm := hJ.1.1
  refine v_iload C dL_isSound_412 rfl 10 rfl ?_
  refine v_aload_n C dL_isSound_414 rfl 1 rfl ?_
  refine v_iconst C (v := 1) dL_isSound_415 rfl rfl ?_
  refine v_mld C hW 0 (by decide) 1 (show 1 < 6 by omega) dL_isSound_416 rfl ?_
  refine xx_top (y := nI (nc)) hT.1.2.1 ?_
  refine v_icN_ge C (t := 588) i nc rfl rfl (by omega) (by omega) dL_isSound_417 rfl rfl (fun h1 => ?_) (fun h1 => ?_)
  · skip
    refine xx_lv [0, 1, 2, 3, 4, 5, 6, 7, 8, 9, 10] (lv' := [(0, .ref (r 4)), (1, .ref (r 0)), (2, .ref (r 1)), (3, .ref (r 2)), (4, .int (nI (X0))), (5, .int (nI (SN (fun j => gvW s (j + 1)) nr))), (6, .int (1)), (7, .int (nI (SN (s 13) nm))), (8, .int (nI (SW s nr nm))), (9, .int (nI (LV s nm))), (10, .int (nI (i)))]) rfl ?_
    exact xx_mono (Nat.le_add_right _ _) (Nat.le_add_right _ _) (kk (by omega))
  · skip
    refine v_iload C dL_isSound_420 rfl 6 rfl ?_
    refine v_if_eq C (t := 588) dL_isSound_422 rfl rfl (fun h => absurd h (by decide)) (fun _ => ?_)
    have hi : i < nc := by omega
    have h25 := z01 (hJ.c25 hi)
    refine v_aload_n C dL_isSound_425 rfl 0 rfl ?_
    refine v_iload C dL_isSound_426 rfl 10 rfl ?_
    refine v_iconst C (v := 1) dL_isSound_428 rfl rfl ?_
    refine q_c1 C hW hJ (i := i) (by omega) (B + 2) (D + 12) ⟨⟨Nat.le_refl _, bl hKc (Nat.le_of_ble_eq_true rfl)⟩, Nat.le_refl _, bl hKn (Nat.le_of_ble_eq_true rfl)⟩ rfl dL_isSound_429 rfl (fun b2 => ?_)
    refine v_istore C (lv1 := [(11, .int (nI (tn (s 23 i)))), (0, .ref (r 4)), (1, .ref (r 0)), (2, .ref (r 1)), (3, .ref (r 2)), (4, .int (nI (X0))), (5, .int (nI (SN (fun j => gvW s (j + 1)) nr))), (6, .int (1)), (7, .int (nI (SN (s 13) nm))), (8, .int (nI (SW s nr nm))), (9, .int (nI (LV s nm))), (10, .int (nI (i)))]) dL_isSound_432 rfl (by decide) rfl ?_
    refine v_aload_n C dL_isSound_434 rfl 1 rfl ?_
    refine v_iload C dL_isSound_435 rfl 11 rfl ?_
    refine v_iconst C (v := 2) dL_isSound_437 rfl rfl ?_
    refine q_c2 C hW hJ (i := i) (by omega) (B + 4) (D + 24) ⟨⟨Nat.le_refl _, bl hKc (Nat.le_of_ble_eq_true rfl)⟩, Nat.le_refl _, bl hKn (Nat.le_of_ble_eq_true rfl)⟩ rfl dL_isSound_438 rfl (fun b3 => ?_)
    refine v_istore C (lv1 := [(12, .int (nI (tn (s 24 i)))), (11, .int (nI (tn (s 23 i)))), (0, .ref (r 4)), (1, .ref (r 0)), (2, .ref (r 1)), (3, .ref (r 2)), (4, .int (nI (X0))), (5, .int (nI (SN (fun j => gvW s (j + 1)) nr))), (6, .int (1)), (7, .int (nI (SN (s 13) nm))), (8, .int (nI (SW s nr nm))), (9, .int (nI (LV s nm))), (10, .int (nI (i)))]) dL_isSound_441 rfl (by decide) rfl ?_
    refine v_aload_n C dL_isSound_443 rfl 2 rfl ?_
    refine v_iload C dL_isSound_444 rfl 12 rfl ?_
    refine v_iconst C (v := 3) dL_isSound_446 rfl rfl ?_
    refine q_c3 C hW hJ (i := i) (by omega) (B + 6) (D + 36) ⟨⟨Nat.le_refl _, bl hKc (Nat.le_of_ble_eq_true rfl)⟩, Nat.le_refl _, bl hKn (Nat.le_of_ble_eq_true rfl)⟩ rfl dL_isSound_447 rfl (fun b4 => ?_)
    refine v_iconst C (v := 1) dL_isSound_450 rfl rfl ?_
    refine xx_sel (P := (tn (s 25 i)) = 1) 459 [] ?_ (fun jj => ?_)
    · skip
      refine v_istore C (lv1 := [(13, .int (bI ((tn (s 25 i)) = 1))), (12, .int (nI (tn (s 24 i)))), (11, .int (nI (tn (s 23 i)))), (0, .ref (r 4)), (1, .ref (r 0)), (2, .ref (r 1)), (3, .ref (r 2)), (4, .int (nI (X0))), (5, .int (nI (SN (fun j => gvW s (j + 1)) nr))), (6, .int (1)), (7, .int (nI (SN (s 13) nm))), (8, .int (nI (SW s nr nm))), (9, .int (nI (LV s nm))), (10, .int (nI (i)))]) dL_isSound_459 rfl (by decide) rfl ?_
      have hmod := Nat.mod_lt X0 (show 0 < tn (s 24 i) by omega)
      refine v_iload C dL_isSound_461 rfl 2 rfl ?_
      refine v_iload C dL_isSound_463 rfl 7 rfl ?_
      refine v_iload C dL_isSound_465 rfl 1 rfl ?_
      refine v_iremN C X0 (tn (s 24 i)) rfl rfl (by omega) (by omega) (by omega) dL_isSound_467 rfl ?_
      refine v_iaddN C (tn (s 23 i)) (X0 % (tn (s 24 i))) rfl rfl dL_isSound_468 rfl ?_
      refine v_istore C (lv1 := [(14, .int (nI ((tn (s 23 i)) + (X0 % (tn (s 24 i)))))), (13, .int (bI ((tn (s 25 i)) = 1))), (12, .int (nI (tn (s 24 i)))), (11, .int (nI (tn (s 23 i)))), (0, .ref (r 4)), (1, .ref (r 0)), (2, .ref (r 1)), (3, .ref (r 2)), (4, .int (nI (X0))), (5, .int (nI (SN (fun j => gvW s (j + 1)) nr))), (6, .int (1)), (7, .int (nI (SN (s 13) nm))), (8, .int (nI (SW s nr nm))), (9, .int (nI (LV s nm))), (10, .int (nI (i)))]) dL_isSound_469 rfl (by decide) rfl ?_
      refine v_iload C dL_isSound_471 rfl 2 rfl ?_
      refine v_iconst C (v := 1) dL_isSound_473 rfl rfl ?_
      refine v_icN_lt C (t := 579) (tn (s 24 i)) 1 rfl rfl (by omega) (by omega) dL_isSound_474 rfl rfl (fun h => (by omega : False).elim) (fun h6 => ?_)
      refine v_iload C dL_isSound_477 rfl 2 rfl ?_
      refine v_bipush C (v := 10) dL_isSound_479 rfl rfl ?_
      refine v_icN_gt C (t := 579) (tn (s 24 i)) 10 rfl rfl (by omega) (by omega) dL_isSound_481 rfl rfl (fun h => (by omega : False).elim) (fun h7 => ?_)
      refine v_iload C dL_isSound_484 rfl 3 rfl ?_
      refine v_iload C dL_isSound_486 rfl 2 rfl ?_
      refine v_iaddN C (tn (s 23 i)) (tn (s 24 i)) rfl rfl dL_isSound_488 rfl ?_
      refine v_bipush C (v := 40) dL_isSound_489 rfl rfl ?_
      refine v_icN_gt C (t := 579) ((tn (s 23 i)) + (tn (s 24 i))) 40 rfl rfl (by omega) (by omega) dL_isSound_491 rfl rfl (fun h => (by omega : False).elim) (fun h8 => ?_)
      refine v_iload C dL_isSound_494 rfl 1 rfl ?_
      refine v_ifB_eq C (t := 550) dL_isSound_496 rfl rfl (fun h9 => ?_) (fun h9 => ?_)
      · skip
        have hl : s 25 i = 0 := h25.1.eq0.mpr (by omega)
        refine v_aload_n C dL_isSound_550 rfl 4 rfl ?_
        refine v_iload C dL_isSound_551 rfl 0 rfl ?_
        refine q_holds C hW hJ (i := (tn (s 23 i)) + (X0 % (tn (s 24 i)))) (by omega) (B + 7) (D + 42) ⟨⟨Nat.le_refl _, bl hKc (Nat.le_of_ble_eq_true rfl)⟩, Nat.le_refl _, bl hKn (Nat.le_of_ble_eq_true rfl)⟩ rfl dL_isSound_553 rfl ?_
        refine v_iload C dL_isSound_556 rfl 14 rfl ?_
        refine v_icmp_eq C (t := 579) dL_isSound_558 rfl rfl (fun h => (by exact held_ne hJ (by omega) hi hl h : False).elim) (fun h10 => ?_)
        refine v_aload_n C dL_isSound_561 rfl 4 rfl ?_
        refine v_iload C dL_isSound_562 rfl 14 rfl ?_
        refine v_iconst C (v := 4) dL_isSound_564 rfl rfl ?_
        refine q_c4 C hW hJ (i := i) (by omega) (B + 9) (D + 54) ⟨⟨Nat.le_refl _, bl hKc (Nat.le_of_ble_eq_true rfl)⟩, Nat.le_refl _, bl hKn (Nat.le_of_ble_eq_true rfl)⟩ rfl dL_isSound_565 rfl (fun b11 => ?_)
        refine v_aload_n C dL_isSound_568 rfl 4 rfl ?_
        refine q_day C hW hJ (B + 9) (D + 54) ⟨⟨Nat.le_refl _, bl hKc (Nat.le_of_ble_eq_true rfl)⟩, Nat.le_refl _, bl hKn (Nat.le_of_ble_eq_true rfl)⟩ rfl dL_isSound_569 rfl (fun b12 => ?_)
        refine v_icN_gt C (t := 579) (tn (s 26 i)) (tn (s 0 0)) rfl rfl (by omega) (by omega) dL_isSound_572 rfl rfl (fun h => (by omega : False).elim) (fun h13 => ?_)
        refine v_iconst C (v := 1) dL_isSound_575 rfl rfl ?_
        refine v_goto C (q := 580) dL_isSound_576 rfl ?_
        refine v_istore C (lv1 := [(6, .int (1)), (14, .int (nI ((tn (s 23 i)) + (X0 % (tn (s 24 i)))))), (13, .int (bI ((tn (s 25 i)) = 1))), (12, .int (nI (tn (s 24 i)))), (11, .int (nI (tn (s 23 i)))), (0, .ref (r 4)), (1, .ref (r 0)), (2, .ref (r 1)), (3, .ref (r 2)), (4, .int (nI (X0))), (5, .int (nI (SN (fun j => gvW s (j + 1)) nr))), (7, .int (nI (SN (s 13) nm))), (8, .int (nI (SW s nr nm))), (9, .int (nI (LV s nm))), (10, .int (nI (i)))]) dL_isSound_580 rfl (by decide) rfl ?_
        refine v_iinc C (lv1 := [(10, .int (nI (i + 5))), (6, .int (1)), (14, .int (nI ((tn (s 23 i)) + (X0 % (tn (s 24 i)))))), (13, .int (bI ((tn (s 25 i)) = 1))), (12, .int (nI (tn (s 24 i)))), (11, .int (nI (tn (s 23 i)))), (0, .ref (r 4)), (1, .ref (r 0)), (2, .ref (r 1)), (3, .ref (r 2)), (4, .int (nI (X0))), (5, .int (nI (SN (fun j => gvW s (j + 1)) nr))), (7, .int (nI (SN (s 13) nm))), (8, .int (nI (SW s nr nm))), (9, .int (nI (LV s nm)))]) (v := nI (i + 5)) dL_isSound_582 rfl 14 rfl (nI_add _ _) (by decide) rfl ?_
        refine v_goto C (q := 412) dL_isSound_585 rfl ?_
        refine xx_lv [6, 7, 8, 9, 10, 11, 1, 12, 13, 14, 0] (lv' := [(0, .ref (r 4)), (1, .ref (r 0)), (2, .ref (r 1)), (3, .ref (r 2)), (4, .int (nI (X0))), (5, .int (nI (SN (fun j => gvW s (j + 1)) nr))), (6, .int (1)), (7, .int (nI (SN (s 13) nm))), (8, .int (nI (SW s nr nm))), (9, .int (nI (LV s nm))), (10, .int (nI (i + 5)))]) rfl ?_
        exact xx_mono (bm (Nat.le_of_ble_eq_true rfl)) (bm (Nat.le_of_ble_eq_true rfl)) (ih (by omega))
      · skip
        have hh : ¬ s 25 i = 0 := fun z => by have := h25.1.eq0.mp z; omega
        have hcv : cov s i (tn (s 23 i) + X0 % tn (s 24 i)) := ⟨hh, by omega, by omega⟩
        have hliv : 0 < tn (s 17 (tn (s 22 i))) := Nat.pos_of_ne_zero fun z => ((hJ.2.2.2.2.2.2.1.1 i hi).2.2.2.2.2 hh).1 ((hJ.m17 (hJ.c22 hi).2).1.eq0.mpr z)
        have hday := ((hJ.2.2.2.2.2.2.1.1 i hi).2.2.2.2.2 hh).2
        refine v_aload_n C dL_isSound_499 rfl 4 rfl ?_
        refine v_iload C dL_isSound_500 rfl 0 rfl ?_
        refine q_holds C hW hJ (i := (tn (s 23 i)) + (X0 % (tn (s 24 i)))) (by omega) (B + 7) (D + 42) ⟨⟨Nat.le_refl _, bl hKc (Nat.le_of_ble_eq_true rfl)⟩, Nat.le_refl _, bl hKn (Nat.le_of_ble_eq_true rfl)⟩ rfl dL_isSound_502 rfl ?_
        refine xx_top (y := nI i) (held_is (by omega) hm.2.1 hJ.2.2.2.2.2.2.1 hi hcv) ?_
        refine v_iload C dL_isSound_505 rfl 14 rfl ?_
        refine v_icN_ne C (t := 579) i i rfl rfl (by omega) (by omega) dL_isSound_507 rfl rfl (fun h => (by omega : False).elim) (fun h14 => ?_)
        refine v_aload_n C dL_isSound_510 rfl 4 rfl ?_
        refine v_aload_n C dL_isSound_511 rfl 4 rfl ?_
        refine v_iload C dL_isSound_512 rfl 14 rfl ?_
        refine v_iconst C (v := 0) dL_isSound_514 rfl rfl ?_
        refine q_c0 C hW hJ (i := i) (by omega) (B + 9) (D + 54) ⟨⟨Nat.le_refl _, bl hKc (Nat.le_of_ble_eq_true rfl)⟩, Nat.le_refl _, bl hKn (Nat.le_of_ble_eq_true rfl)⟩ rfl dL_isSound_515 rfl (fun b15 => ?_)
        refine v_iconst C (v := 4) dL_isSound_518 rfl rfl ?_
        refine q_m4 C hW hJ (i := tn (s 22 i)) (by omega) (B + 11) (D + 66) ⟨⟨Nat.le_refl _, bl hKc (Nat.le_of_ble_eq_true rfl)⟩, Nat.le_refl _, bl hKn (Nat.le_of_ble_eq_true rfl)⟩ rfl dL_isSound_519 rfl (fun b16 => ?_)
        refine v_ifN_le C (t := 579) (tn (s 17 (tn (s 22 i)))) rfl (by omega) dL_isSound_522 rfl rfl (fun h => (by omega : False).elim) (fun h17 => ?_)
        refine v_aload_n C dL_isSound_525 rfl 4 rfl ?_
        refine q_day C hW hJ (B + 11) (D + 66) ⟨⟨Nat.le_refl _, bl hKc (Nat.le_of_ble_eq_true rfl)⟩, Nat.le_refl _, bl hKn (Nat.le_of_ble_eq_true rfl)⟩ rfl dL_isSound_526 rfl (fun b18 => ?_)
        refine v_aload_n C dL_isSound_529 rfl 4 rfl ?_
        refine v_iload C dL_isSound_530 rfl 14 rfl ?_
        refine v_iconst C (v := 4) dL_isSound_532 rfl rfl ?_
        refine q_c4 C hW hJ (i := i) (by omega) (B + 13) (D + 78) ⟨⟨Nat.le_refl _, bl hKc (Nat.le_of_ble_eq_true rfl)⟩, Nat.le_refl _, bl hKn (Nat.le_of_ble_eq_true rfl)⟩ rfl dL_isSound_533 rfl (fun b19 => ?_)
        refine v_isubN C (tn (s 0 0)) (tn (s 26 i)) (by omega) rfl rfl dL_isSound_536 rfl ?_
        refine v_aload_n C dL_isSound_537 rfl 4 rfl ?_
        refine v_iload C dL_isSound_538 rfl 14 rfl ?_
        refine v_iconst C (v := 5) dL_isSound_540 rfl rfl ?_
        refine q_c5 C hW hJ (i := i) (by omega) (B + 15) (D + 90) ⟨⟨Nat.le_refl _, bl hKc (Nat.le_of_ble_eq_true rfl)⟩, Nat.le_refl _, bl hKn (Nat.le_of_ble_eq_true rfl)⟩ rfl dL_isSound_541 rfl (fun b20 => ?_)
        refine v_icN_gt C (t := 579) ((tn (s 0 0)) - (tn (s 26 i))) (tn (s 27 i)) rfl rfl (by omega) (by omega) dL_isSound_544 rfl rfl (fun h => (by omega : False).elim) (fun h21 => ?_)
        refine v_goto C (q := 561) dL_isSound_547 rfl ?_
        refine v_aload_n C dL_isSound_561 rfl 4 rfl ?_
        refine v_iload C dL_isSound_562 rfl 14 rfl ?_
        refine v_iconst C (v := 4) dL_isSound_564 rfl rfl ?_
        refine q_c4 C hW hJ (i := i) (by omega) (B + 17) (D + 102) ⟨⟨Nat.le_refl _, bl hKc (Nat.le_of_ble_eq_true rfl)⟩, Nat.le_refl _, bl hKn (Nat.le_of_ble_eq_true rfl)⟩ rfl dL_isSound_565 rfl (fun b22 => ?_)
        refine v_aload_n C dL_isSound_568 rfl 4 rfl ?_
        refine q_day C hW hJ (B + 17) (D + 102) ⟨⟨Nat.le_refl _, bl hKc (Nat.le_of_ble_eq_true rfl)⟩, Nat.le_refl _, bl hKn (Nat.le_of_ble_eq_true rfl)⟩ rfl dL_isSound_569 rfl (fun b23 => ?_)
        refine v_icN_gt C (t := 579) (tn (s 26 i)) (tn (s 0 0)) rfl rfl (by omega) (by omega) dL_isSound_572 rfl rfl (fun h => (by omega : False).elim) (fun h24 => ?_)
        refine v_iconst C (v := 1) dL_isSound_575 rfl rfl ?_
        refine v_goto C (q := 580) dL_isSound_576 rfl ?_
        refine v_istore C (lv1 := [(6, .int (1)), (14, .int (nI ((tn (s 23 i)) + (X0 % (tn (s 24 i)))))), (13, .int (bI ((tn (s 25 i)) = 1))), (12, .int (nI (tn (s 24 i)))), (11, .int (nI (tn (s 23 i)))), (0, .ref (r 4)), (1, .ref (r 0)), (2, .ref (r 1)), (3, .ref (r 2)), (4, .int (nI (X0))), (5, .int (nI (SN (fun j => gvW s (j + 1)) nr))), (7, .int (nI (SN (s 13) nm))), (8, .int (nI (SW s nr nm))), (9, .int (nI (LV s nm))), (10, .int (nI (i)))]) dL_isSound_580 rfl (by decide) rfl ?_
        refine v_iinc C (lv1 := [(10, .int (nI (i + 5))), (6, .int (1)), (14, .int (nI ((tn (s 23 i)) + (X0 % (tn (s 24 i)))))), (13, .int (bI ((tn (s 25 i)) = 1))), (12, .int (nI (tn (s 24 i)))), (11, .int (nI (tn (s 23 i)))), (0, .ref (r 4)), (1, .ref (r 0)), (2, .ref (r 1)), (3, .ref (r 2)), (4, .int (nI (X0))), (5, .int (nI (SN (fun j => gvW s (j + 1)) nr))), (7, .int (nI (SN (s 13) nm))), (8, .int (nI (SW s nr nm))), (9, .int (nI (LV s nm)))]) (v := nI (i + 5)) dL_isSound_582 rfl 14 rfl (nI_add _ _) (by decide) rfl ?_
        refine v_goto C (q := 412) dL_isSound_585 rfl ?_
        refine xx_lv [6, 7, 8, 9, 10, 11, 1, 12, 13, 14, 0] (lv' := [(0, .ref (r 4)), (1, .ref (r 0)), (2, .ref (r 1)), (3, .ref (r 2)), (4, .int (nI (X0))), (5, .int (nI (SN (fun j => gvW s (j + 1)) nr))), (6, .int (1)), (7, .int (nI (SN (s 13) nm))), (8, .int (nI (SW s nr nm))), (9, .int (nI (LV s nm))), (10, .int (nI (i + 5)))]) rfl ?_
        exact xx_mono (bm (Nat.le_of_ble_eq_true rfl)) (bm (Nat.le_of_ble_eq_true rfl)) (ih (by omega))
    refine v_icN_ne C (t := 458) (tn (s 25 i)) 1 rfl rfl (by omega) (by omega) dL_isSound_451 rfl rfl (fun h5 => ?_) (fun h5 => ?_)
    · skip
      refine v_iconst C (v := 0) dL_isSound_458 rfl rfl ?_
      exact jj _ (bI_f (by first | assumption | omega)).symm
    · skip
      refine v_iconst C (v := 1) dL_isSound_454 rfl rfl ?_
      refine v_goto C (q := 459) dL_isSound_455 rfl ?_
      exact jj _ (bI_t (by first | assumption | omega)).symm

theorem lp_snd_3 {X : XS} {G : GG} {w : va_W} {Q : State → Prop} {r : Nat → Nat} {s t : SS} {nm nc nr k B D : Nat} {X0 : Nat} (C : Cx X G cL_isSound 15 RL (Option.some Jvm.ClassFile.FieldType.boolean) r_L_isSound "isSound" []) (hW : Wd G r s t nm nc nr w) (hJ : Js s nm nc nr k) (hk : k ≤ 131) (hT : K9 s t nm nc nr k) (hX : X0 < 100000000) (hKc : B + 136 ≤ r_L_isSound.cells) (hKn : D + 816 ≤ r_L_isSound.slots) (kk : ∀ i, V X G 15 w (B + 136) (D + 816) Q 588 [(0, .ref (r 4)), (1, .ref (r 0)), (2, .ref (r 1)), (3, .ref (r 2)), (4, .int (nI (X0))), (5, .int (nI (SN (fun j => gvW s (j + 1)) nr))), (6, .int (1)), (7, .int (nI (SN (s 13) nm))), (8, .int (nI (SW s nr nm))), (9, .int (nI (LV s nm))), (10, .int (nI (i)))] []) : V X G 15 w B D Q 412 [(0, .ref (r 4)), (1, .ref (r 0)), (2, .ref (r 1)), (3, .ref (r 2)), (4, .int (nI (X0))), (5, .int (nI (SN (fun j => gvW s (j + 1)) nr))), (6, .int (1)), (7, .int (nI (SN (s 13) nm))), (8, .int (nI (SW s nr nm))), (9, .int (nI (LV s nm))), (10, .int (nI (X0 % 5)))] [] := by
  have hm := hJ.1.1
  have key := ind_up (α := Unit) (P := fun j _ => ∀ i, i = X0 % 5 + 5 * j → V X G 15 w (B + 17 * j) (D + 102 * j) Q 412 [(0, .ref (r 4)), (1, .ref (r 0)), (2, .ref (r 1)), (3, .ref (r 2)), (4, .int (nI (X0))), (5, .int (nI (SN (fun j => gvW s (j + 1)) nr))), (6, .int (1)), (7, .int (nI (SN (s 13) nm))), (8, .int (nI (SW s nr nm))), (9, .int (nI (LV s nm))), (10, .int (nI (i)))] []) 6 (fun j _ hj ih i hi => sg_snd_3 C hW hJ hk hT hX (by omega) (by omega) (by omega) (fun h => xx_mono (by omega) (by omega) (ih (by omega) () (i + 5) (by omega))) (fun h => xx_mono (by omega) (by omega) (kk i)))
  exact key 0 () (by omega) _ (by omega)

theorem sg_snd_4 {X : XS} {G : GG} {w : va_W} {r : Nat → Nat} {s t : SS} {nm nc nr k B D : Nat} {X0 : Nat} {i : Nat} (C : Cx X G cL_isSound 15 RL (Option.some Jvm.ClassFile.FieldType.boolean) r_L_isSound "isSound" []) (hW : Wd G r s t nm nc nr w) (hJ : Js s nm nc nr k) (hk : k ≤ 131) (hT : K9 s t nm nc nr k) (hX : X0 < 100000000) (hKc : B + 9 ≤ r_L_isSound.cells) (hKn : D + 54 ≤ r_L_isSound.slots)  : V X G 15 w B D (Tg X G r_L_isSound (fun v w1 => v = some (.int 1) ∧ ∃ t1, Wd G r s t1 nm nc nr w1 ∧ K9 s t1 nm nc nr k) nX) 588 [(0, .ref (r 4)), (1, .ref (r 0)), (2, .ref (r 1)), (3, .ref (r 2)), (4, .int (nI (X0))), (5, .int (nI (SN (fun j => gvW s (j + 1)) nr))), (6, .int (1)), (7, .int (nI (SN (s 13) nm))), (8, .int (nI (SW s nr nm))), (9, .int (nI (LV s nm))), (10, .int (nI (i)))] [] := by
  have hst : X.2.1.stackTraces = false := C.2.2.2.2.2.1
  have hG : GOK G := C.2.2.2.2.2.2.2.2.2.1
  have hm := hJ.1.1
  have hsw := SW_all hJ.2.2.2.2.2.2.2.2 hm.1
  have hswb := SW_b hJ.1 hJ.2.2.2.2.2.2.2.2 (Nat.le_refl nm)
  have hs13 := hJ.2.2.1.2.2.2.2.2.2
  have hlv := LV_b (s := s) nm
  refine v_iload C dL_isSound_588 rfl 6 rfl ?_
  refine v_if_eq C (t := 695) dL_isSound_590 rfl rfl (fun h => absurd h (by decide)) (fun _ => ?_)
  refine v_iload C dL_isSound_593 rfl 7 rfl ?_
  refine v_aload_n C dL_isSound_595 rfl 0 rfl ?_
  refine v_iconst C (v := 2) dL_isSound_596 rfl rfl ?_
  refine q_g2 C hW hJ (B + 1) (D + 6) ⟨⟨Nat.le_refl _, bl hKc (Nat.le_of_ble_eq_true rfl)⟩, Nat.le_refl _, bl hKn (Nat.le_of_ble_eq_true rfl)⟩ rfl dL_isSound_597 rfl (fun b1 => ?_)
  refine v_icN_ne C (t := 695) (SN (s 13) nm) (SN (s 13) nm) rfl rfl (by omega) (by omega) dL_isSound_600 rfl rfl (fun h => (by omega : False).elim) (fun h2 => ?_)
  refine v_iload C dL_isSound_603 rfl 8 rfl ?_
  refine v_iload C dL_isSound_605 rfl 5 rfl ?_
  refine v_icN_ne C (t := 695) (SW s nr nm) (SN (fun j => gvW s (j + 1)) nr) rfl rfl (by omega) (by omega) dL_isSound_607 rfl rfl (fun h => (by omega : False).elim) (fun h3 => ?_)
  refine v_aload_n C dL_isSound_610 rfl 0 rfl ?_
  refine v_iconst C (v := 5) dL_isSound_611 rfl rfl ?_
  refine q_p5 C hW hJ (B + 2) (D + 12) ⟨⟨Nat.le_refl _, bl hKc (Nat.le_of_ble_eq_true rfl)⟩, Nat.le_refl _, bl hKn (Nat.le_of_ble_eq_true rfl)⟩ rfl dL_isSound_612 rfl (fun b4 => ?_)
  refine v_iload C dL_isSound_615 rfl 9 rfl ?_
  refine v_icN_ne C (t := 695) (LV s nm) (LV s nm) rfl rfl (by omega) (by omega) dL_isSound_617 rfl rfl (fun h => (by omega : False).elim) (fun h5 => ?_)
  refine v_aload_n C dL_isSound_620 rfl 0 rfl ?_
  refine v_iconst C (v := 0) dL_isSound_621 rfl rfl ?_
  refine q_p0 C hW hJ (B + 3) (D + 18) ⟨⟨Nat.le_refl _, bl hKc (Nat.le_of_ble_eq_true rfl)⟩, Nat.le_refl _, bl hKn (Nat.le_of_ble_eq_true rfl)⟩ rfl dL_isSound_622 rfl (fun b6 => ?_)
  refine v_iconst C (v := 1) dL_isSound_625 rfl rfl ?_
  refine v_icN_lt C (t := 695) (tn (s 2 0)) 1 rfl rfl (by omega) (by omega) dL_isSound_626 rfl rfl (fun h => (by omega : False).elim) (fun h7 => ?_)
  refine v_aload_n C dL_isSound_629 rfl 0 rfl ?_
  refine v_iconst C (v := 0) dL_isSound_630 rfl rfl ?_
  refine q_p0 C hW hJ (B + 4) (D + 24) ⟨⟨Nat.le_refl _, bl hKc (Nat.le_of_ble_eq_true rfl)⟩, Nat.le_refl _, bl hKn (Nat.le_of_ble_eq_true rfl)⟩ rfl dL_isSound_631 rfl (fun b8 => ?_)
  refine v_bipush C (v := 10) dL_isSound_634 rfl rfl ?_
  refine v_icN_gt C (t := 695) (tn (s 2 0)) 10 rfl rfl (by omega) (by omega) dL_isSound_636 rfl rfl (fun h => (by omega : False).elim) (fun h9 => ?_)
  refine v_aload_n C dL_isSound_639 rfl 0 rfl ?_
  refine v_iconst C (v := 2) dL_isSound_640 rfl rfl ?_
  refine q_p2 C hW hJ (B + 5) (D + 30) ⟨⟨Nat.le_refl _, bl hKc (Nat.le_of_ble_eq_true rfl)⟩, Nat.le_refl _, bl hKn (Nat.le_of_ble_eq_true rfl)⟩ rfl dL_isSound_641 rfl (fun b10 => ?_)
  refine v_if_lt C (t := 695) dL_isSound_644 rfl rfl (fun h => absurd h (nI_pos (by omega))) (fun _ => ?_)
  refine v_aload_n C dL_isSound_647 rfl 0 rfl ?_
  refine v_iconst C (v := 3) dL_isSound_648 rfl rfl ?_
  refine q_p3 C hW hJ (B + 6) (D + 36) ⟨⟨Nat.le_refl _, bl hKc (Nat.le_of_ble_eq_true rfl)⟩, Nat.le_refl _, bl hKn (Nat.le_of_ble_eq_true rfl)⟩ rfl dL_isSound_649 rfl (fun b11 => ?_)
  refine v_aload_n C dL_isSound_652 rfl 0 rfl ?_
  refine v_iconst C (v := 2) dL_isSound_653 rfl rfl ?_
  refine q_p2 C hW hJ (B + 7) (D + 42) ⟨⟨Nat.le_refl _, bl hKc (Nat.le_of_ble_eq_true rfl)⟩, Nat.le_refl _, bl hKn (Nat.le_of_ble_eq_true rfl)⟩ rfl dL_isSound_654 rfl (fun b12 => ?_)
  refine v_bipush C (v := 100) dL_isSound_657 rfl rfl ?_
  refine v_icN_ge C (t := 677) (tn (s 5 0)) 100 rfl rfl (by omega) (by omega) dL_isSound_659 rfl rfl (fun h13 => ?_) (fun h13 => ?_)
  · skip
    have hpr := PR_ge (x := tn (s 5 0)) (by omega)
    refine v_iconst C (v := 5) dL_isSound_677 rfl rfl ?_
    refine v_icN_ne C (t := 695) (PR (tn (s 5 0))) 5 rfl rfl (by omega) (by omega) dL_isSound_678 rfl rfl (fun h => (by omega : False).elim) (fun h14 => ?_)
    refine v_aload_n C dL_isSound_681 rfl 0 rfl ?_
    refine v_iconst C (v := 4) dL_isSound_682 rfl rfl ?_
    refine q_p4 C hW hJ (B + 8) (D + 48) ⟨⟨Nat.le_refl _, bl hKc (Nat.le_of_ble_eq_true rfl)⟩, Nat.le_refl _, bl hKn (Nat.le_of_ble_eq_true rfl)⟩ rfl dL_isSound_683 rfl (fun b15 => ?_)
    refine v_bipush C (v := 20) dL_isSound_686 rfl rfl ?_
    refine v_icN_gt C (t := 695) (frN s 20) 20 rfl rfl (by omega) (by omega) dL_isSound_688 rfl rfl (fun h => (by omega : False).elim) (fun h16 => ?_)
    refine v_iconst C (v := 1) dL_isSound_691 rfl rfl ?_
    refine v_goto C (q := 696) dL_isSound_692 rfl ?_
    exact v_zret C rfl (bl hKc (Nat.le_of_ble_eq_true rfl)) (bl hKn (Nat.le_of_ble_eq_true rfl)) dL_isSound_696 ⟨rfl, t, hW, hT⟩
  · skip
    have hpr := PR_lt (x := tn (s 5 0)) (by omega)
    refine v_iconst C (v := 5) dL_isSound_662 rfl rfl ?_
    refine v_bipush C (v := 100) dL_isSound_663 rfl rfl ?_
    refine v_aload_n C dL_isSound_665 rfl 0 rfl ?_
    refine v_iconst C (v := 2) dL_isSound_666 rfl rfl ?_
    refine q_p2 C hW hJ (B + 8) (D + 48) ⟨⟨Nat.le_refl _, bl hKc (Nat.le_of_ble_eq_true rfl)⟩, Nat.le_refl _, bl hKn (Nat.le_of_ble_eq_true rfl)⟩ rfl dL_isSound_667 rfl (fun b17 => ?_)
    refine v_isubN C 100 (tn (s 5 0)) (by omega) rfl rfl dL_isSound_670 rfl ?_
    refine v_iconst C (v := 5) dL_isSound_671 rfl rfl ?_
    refine v_idivN C (100 - (tn (s 5 0))) 5 rfl rfl (by omega) (by omega) (by omega) dL_isSound_672 rfl ?_
    refine v_iaddN C 5 ((100 - (tn (s 5 0))) / 5) rfl rfl dL_isSound_673 rfl ?_
    refine v_goto C (q := 678) dL_isSound_674 rfl ?_
    refine v_icN_ne C (t := 695) (PR (tn (s 5 0))) (5 + ((100 - (tn (s 5 0))) / 5)) rfl rfl (by omega) (by omega) dL_isSound_678 rfl rfl (fun h => (by omega : False).elim) (fun h18 => ?_)
    refine v_aload_n C dL_isSound_681 rfl 0 rfl ?_
    refine v_iconst C (v := 4) dL_isSound_682 rfl rfl ?_
    refine q_p4 C hW hJ (B + 9) (D + 54) ⟨⟨Nat.le_refl _, bl hKc (Nat.le_of_ble_eq_true rfl)⟩, Nat.le_refl _, bl hKn (Nat.le_of_ble_eq_true rfl)⟩ rfl dL_isSound_683 rfl (fun b19 => ?_)
    refine v_bipush C (v := 20) dL_isSound_686 rfl rfl ?_
    refine v_icN_gt C (t := 695) (frN s 20) 20 rfl rfl (by omega) (by omega) dL_isSound_688 rfl rfl (fun h => (by omega : False).elim) (fun h20 => ?_)
    refine v_iconst C (v := 1) dL_isSound_691 rfl rfl ?_
    refine v_goto C (q := 696) dL_isSound_692 rfl ?_
    exact v_zret C rfl (bl hKc (Nat.le_of_ble_eq_true rfl)) (bl hKn (Nat.le_of_ble_eq_true rfl)) dL_isSound_696 ⟨rfl, t, hW, hT⟩

theorem c_L_isSound {l : Launch} {G : GG} {w : va_W} {r : Nat → Nat} {s t : SS} {nm nc nr k X0 : Nat} (hst : l.stackTraces = false) (hG : GOK G) (hk : k ≤ 131) (hT : K9 s t nm nc nr k) (hX : X0 < 100000000) (hW : Wd G r s t nm nc nr w) (hJ : Js s nm nc nr k) : Mth l yL_isSound cL_isSound 15 (Option.some Jvm.ClassFile.FieldType.boolean) r_L_isSound G w [.ref (r 4), .ref (r 0), .ref (r 1), .ref (r 2), .int (nI X0)] (fun v w1 => v = some (.int 1) ∧ ∃ t1, Wd G r s t1 nm nc nr w1 ∧ K9 s t1 nm nc nr k) nX := by
  refine mth_of rfl (Nat.le_of_ble_eq_true rfl) hst hG (fun X hX0 C0 => ?_)
  subst hX0
  have C : Cx X G cL_isSound 15 RL (Option.some Jvm.ClassFile.FieldType.boolean) r_L_isSound "isSound" [] := C0
  clear C0
  show V X G 15 w 0 0 _ 0 [(0, .ref (r 4)), (1, .ref (r 0)), (2, .ref (r 1)), (3, .ref (r 2)), (4, .int (nI X0))] []
  have hc : r_L_isSound.cells = 461 := rfl
  have hd : r_L_isSound.slots = 2766 := rfl
  refine sg_snd_0 C hW hJ hk hT hX (by omega) (by omega) ?_
  refine lp_snd_1 C hW hJ hk hT hX (by omega) (by omega) (fun w1 t1 hW hT => ?_)
  refine sg_snd_g1 C hW hJ hk hT hX (by omega) (by omega) ?_
  refine lp_snd_2 C hW hJ hk hT hX (by omega) (by omega) ?_
  refine sg_snd_g2 C hW hJ hk hT hX (by omega) (by omega) ?_
  refine lp_snd_3 C hW hJ hk hT hX (by omega) (by omega) (fun i => ?_)
  exact sg_snd_4 C hW hJ hk hT hX (by omega) (by omega)
