abbrev r_L_isPlanned : Room := { frames := 12, cells := 31, slots := 417, locals := 224 }
theorem sg_pln_0 {X : XS} {G : GG} {w : va_W} {r : Nat → Nat} {s t : SS} {nm nc nr k B D : Nat} {X0 cl gg : Nat} (C : Cx X G cL_isPlanned 11 RL (Option.some Jvm.ClassFile.FieldType.boolean) r_L_isPlanned "isPlanned" []) (hW : Wd G r s t nm nc nr w) (hJ : Js s nm nc nr k) (hk : k ≤ 131) (hT : K9 s t nm nc nr k) (hX : X0 < 100000000) (hcl : cl < nc) (hg : gg < 4) (hKc : B + 25 ≤ r_L_isPlanned.cells) (hKn : D + 381 ≤ r_L_isPlanned.slots) (kk : tn (s 24 cl) ≤ 5 → ∀ w1, Wd G r s t nm nc nr w1 → V X G 11 w1 (B + 25) (D + 381) (Tg X G r_L_isPlanned (fun v w1 => v = some (.int 1) ∧ Wd G r s t nm nc nr w1) nX) 123 [(0, .ref (r 4)), (1, .ref (r 0)), (2, .int (nI (cl))), (3, .int (nI (gg))), (4, .int (nI (X0))), (5, .int (nI (tn (s 24 cl)))), (6, .int (nI (tn (s 23 cl)))), (7, .int (nI (YS s (tn (s 23 cl)) gg (tn (s 24 cl))))), (8, .int (1)), (9, .int (nI (UP s (tn (s 23 cl)) 0))), (10, .int (nI (0)))] []) : V X G 11 w B D (Tg X G r_L_isPlanned (fun v w1 => v = some (.int 1) ∧ Wd G r s t nm nc nr w1) nX) 0 [(0, .ref (r 4)), (1, .ref (r 0)), (2, .int (nI (cl))), (3, .int (nI (gg))), (4, .int (nI (X0)))] [] := by
  have hst : X.2.1.stackTraces = false := C.2.2.2.2.2.1
  have hG : GOK G := C.2.2.2.2.2.2.2.2.2.1
  have hm := hJ.1.1
  have h23 := hJ.c23 hcl
  refine v_aload_n C dL_isPlanned_0 rfl 0 rfl ?_
  refine v_iload_n C dL_isPlanned_1 rfl 2 rfl ?_
  refine v_iconst C (v := 2) dL_isPlanned_2 rfl rfl ?_
  refine q_c2 C hW hJ (i := cl) (by omega) (B + 2) (D + 12) ⟨⟨Nat.le_refl _, bl hKc (Nat.le_of_ble_eq_true rfl)⟩, Nat.le_refl _, bl hKn (Nat.le_of_ble_eq_true rfl)⟩ rfl dL_isPlanned_3 rfl (fun b1 => ?_)
  refine v_istore C (lv1 := [(5, .int (nI (tn (s 24 cl)))), (0, .ref (r 4)), (1, .ref (r 0)), (2, .int (nI (cl))), (3, .int (nI (gg))), (4, .int (nI (X0)))]) dL_isPlanned_6 rfl (by decide) rfl ?_
  refine v_aload_n C dL_isPlanned_8 rfl 1 rfl ?_
  refine v_iload_n C dL_isPlanned_9 rfl 3 rfl ?_
  refine v_iconst C (v := 1) dL_isPlanned_10 rfl rfl ?_
  refine q_c1 C hW hJ (i := cl) (by omega) (B + 4) (D + 24) ⟨⟨Nat.le_refl _, bl hKc (Nat.le_of_ble_eq_true rfl)⟩, Nat.le_refl _, bl hKn (Nat.le_of_ble_eq_true rfl)⟩ rfl dL_isPlanned_11 rfl (fun b2 => ?_)
  refine v_istore C (lv1 := [(6, .int (nI (tn (s 23 cl)))), (5, .int (nI (tn (s 24 cl)))), (0, .ref (r 4)), (1, .ref (r 0)), (2, .int (nI (cl))), (3, .int (nI (gg))), (4, .int (nI (X0)))]) dL_isPlanned_14 rfl (by decide) rfl ?_
  by_cases hm5 : tn (s 24 cl) ≤ 5
  · skip
    refine v_aload_n C dL_isPlanned_16 rfl 2 rfl ?_
    refine v_bipush C (v := 27) dL_isPlanned_17 rfl rfl ?_
    refine v_iload_n C dL_isPlanned_19 rfl 4 rfl ?_
    refine v_iload_n C dL_isPlanned_20 rfl 5 rfl ?_
    refine v_iconst C (v := 0) dL_isPlanned_21 rfl rfl ?_
    refine v_iconst C (v := 0) dL_isPlanned_22 rfl rfl ?_
    refine l_actK C (ao_plan (s := s) (nm := nm) (nc := nc) (nr := nr) hst hG hW hJ.bs (e3_0 (mi_of hW.cnt.2.1 hcl (by omega)) (met_in hg) (by rw [tn_nI (show cl < 2 ^ 31 by omega), show (5 : Int32) = nI 5 from rfl, h23.2.1.clt (by omega)]; omega))) (B + 11) (D + 143) ⟨⟨Nat.le_refl _, bl hKc (Nat.le_of_ble_eq_true rfl)⟩, Nat.le_refl _, bl hKn (Nat.le_of_ble_eq_true rfl)⟩ rfl dL_isPlanned_23 rfl (fun v_ w4 hv3 => ?_)
    obtain ⟨rfl, hW5⟩ := hv3
    show V X G 11 _ _ _ _ _ _ [.int (ydS s (tn (s 23 (tn (nI (cl))))) (tn (nI (gg))) (tn (s 24 (tn (nI (cl))))))]
    refine xx_top (y := nI (YS s (tn (s 23 cl)) gg (tn (s 24 cl)))) (by rw [tn_nI (show cl < 2 ^ 31 by omega), tn_nI (show gg < 2 ^ 31 by omega)]; exact (yd_n hJ hk hg _ h23.2.2.2.2).2) ?_
    have hy1 := ys_le (s := s) (f := tn (s 23 cl)) (g := gg) (tn (s 24 cl))
    have hy2 := up_le (s := s) (f := tn (s 23 cl)) (tn (s 24 cl))
    have hy3 := up_b (f := tn (s 23 cl)) hJ hk (tn (s 24 cl)) h23.2.2.2.2
    refine v_istore C (lv1 := [(7, .int (nI (YS s (tn (s 23 cl)) gg (tn (s 24 cl))))), (6, .int (nI (tn (s 23 cl)))), (5, .int (nI (tn (s 24 cl)))), (0, .ref (r 4)), (1, .ref (r 0)), (2, .int (nI (cl))), (3, .int (nI (gg))), (4, .int (nI (X0)))]) dL_isPlanned_26 rfl (by decide) rfl ?_
    refine v_iload C dL_isPlanned_28 rfl 2 rfl ?_
    refine v_iconst C (v := 5) dL_isPlanned_30 rfl rfl ?_
    refine v_icN_le C (t := 59) (tn (s 24 cl)) 5 rfl rfl (by omega) (by omega) dL_isPlanned_31 rfl rfl (fun _ => ?_) (fun h => ((by omega : False)).elim)
    refine v_iload C dL_isPlanned_59 rfl 0 rfl ?_
    refine v_if_lt C (t := 114) dL_isPlanned_61 rfl rfl (fun h => absurd h (nI_pos (by omega))) (fun _ => ?_)
    refine v_aload_n C dL_isPlanned_64 rfl 3 rfl ?_
    refine v_bipush C (v := 28) dL_isPlanned_65 rfl rfl ?_
    refine v_iload_n C dL_isPlanned_67 rfl 5 rfl ?_
    refine v_iload_n C dL_isPlanned_68 rfl 6 rfl ?_
    refine v_iload C dL_isPlanned_69 rfl 2 rfl ?_
    refine v_iload C dL_isPlanned_71 rfl 7 rfl ?_
    refine v_bipush C (v := 9) dL_isPlanned_73 rfl rfl ?_
    refine v_iremN C X0 9 rfl rfl (by omega) (by omega) (by omega) dL_isPlanned_75 rfl ?_
    refine v_iaddN C (tn (s 24 cl)) (X0 % 9) rfl rfl dL_isPlanned_76 rfl ?_
    refine v_iconst C (v := 0) dL_isPlanned_77 rfl rfl ?_
    refine l_actK C (ao_planCell (s := s) (nm := nm) (nc := nc) (nr := nr) hst hG hW5 hJ.bs (e3_0 ⟨(mi_of hW.cnt.2.1 hcl (by omega)), nI_pos' (by omega)⟩ (met_in hg) (by rw [tn_nI (show cl < 2 ^ 31 by omega), show (5 : Int32) = nI 5 from rfl, h23.2.1.clt (by omega)]; omega))) (B + 18) (D + 262) ⟨⟨Nat.le_refl _, bl hKc (Nat.le_of_ble_eq_true rfl)⟩, Nat.le_refl _, bl hKn (Nat.le_of_ble_eq_true rfl)⟩ rfl dL_isPlanned_78 rfl (fun v_ w7 hv6 => ?_)
    obtain ⟨rfl, hW8⟩ := hv6
    show V X G 11 _ _ _ _ _ _ [.int (planCellRC s (nI (cl)) (nI ((tn (s 24 cl)) + (X0 % 9))))]
    refine xx_top (y := -1) (if_neg (by rw [tn_nI (show cl < 2 ^ 31 by omega), Int32.not_lt, h23.2.1.le (Nn.of (by omega)), tn_nI (by omega)]; omega)) ?_
    refine v_iconst C (v := (-1)) dL_isPlanned_81 rfl rfl ?_
    refine v_icmp_ne C (t := 114) dL_isPlanned_82 rfl rfl (fun h => absurd h (by decide)) (fun _ => ?_)
    refine v_aload_n C dL_isPlanned_85 rfl 3 rfl ?_
    refine v_bipush C (v := 28) dL_isPlanned_86 rfl rfl ?_
    refine v_iload_n C dL_isPlanned_88 rfl 5 rfl ?_
    refine v_iload_n C dL_isPlanned_89 rfl 6 rfl ?_
    refine v_iload C dL_isPlanned_90 rfl 7 rfl ?_
    refine v_iload C dL_isPlanned_92 rfl 2 rfl ?_
    have hmod := Nat.mod_lt X0 (show 0 < tn (s 24 cl) by omega)
    refine v_iremN C X0 (tn (s 24 cl)) rfl rfl (by omega) (by omega) (by omega) dL_isPlanned_94 rfl ?_
    refine v_iconst C (v := 0) dL_isPlanned_95 rfl rfl ?_
    refine l_actK C (ao_planCell (s := s) (nm := nm) (nc := nc) (nr := nr) hst hG hW8 hJ.bs (e3_0 ⟨(mi_of hW.cnt.2.1 hcl (by omega)), nI_pos' (by omega)⟩ (met_in hg) (by rw [tn_nI (show cl < 2 ^ 31 by omega), show (5 : Int32) = nI 5 from rfl, h23.2.1.clt (by omega)]; omega))) (B + 25) (D + 381) ⟨⟨Nat.le_refl _, bl hKc (Nat.le_of_ble_eq_true rfl)⟩, Nat.le_refl _, bl hKn (Nat.le_of_ble_eq_true rfl)⟩ rfl dL_isPlanned_96 rfl (fun v_ w10 hv9 => ?_)
    obtain ⟨rfl, hW11⟩ := hv9
    show V X G 11 _ _ _ _ _ _ [.int (planCellRC s (nI (cl)) (nI (X0 % (tn (s 24 cl)))))]
    refine xx_top (y := nI (tn (s 23 cl) + X0 % (tn (s 24 cl)))) ((if_pos (by rw [tn_nI (show cl < 2 ^ 31 by omega), (Nn.of (by omega)).lt h23.2.1, tn_nI (by omega)]; omega)).trans (by rw [tn_nI (show cl < 2 ^ 31 by omega), ← nI_add, ← h23.1.e])) ?_
    refine v_iload C dL_isPlanned_99 rfl 1 rfl ?_
    refine v_iload C dL_isPlanned_101 rfl 7 rfl ?_
    refine v_iload C dL_isPlanned_103 rfl 2 rfl ?_
    refine v_iremN C X0 (tn (s 24 cl)) rfl rfl (by omega) (by omega) (by omega) dL_isPlanned_105 rfl ?_
    refine v_iaddN C (tn (s 23 cl)) (X0 % (tn (s 24 cl))) rfl rfl dL_isPlanned_106 rfl ?_
    refine v_icN_ne C (t := 114) (tn (s 23 cl) + X0 % (tn (s 24 cl))) ((tn (s 23 cl)) + (X0 % (tn (s 24 cl)))) rfl rfl (by omega) (by omega) dL_isPlanned_107 rfl rfl (fun h => (by omega : False).elim) (fun h12 => ?_)
    refine v_iconst C (v := 1) dL_isPlanned_110 rfl rfl ?_
    refine v_goto C (q := 115) dL_isPlanned_111 rfl ?_
    refine v_istore C (lv1 := [(8, .int (1)), (7, .int (nI (YS s (tn (s 23 cl)) gg (tn (s 24 cl))))), (6, .int (nI (tn (s 23 cl)))), (5, .int (nI (tn (s 24 cl)))), (0, .ref (r 4)), (1, .ref (r 0)), (2, .int (nI (cl))), (3, .int (nI (gg))), (4, .int (nI (X0)))]) dL_isPlanned_115 rfl (by decide) rfl ?_
    refine v_iconst C (v := 0) dL_isPlanned_117 rfl rfl ?_
    refine v_istore C (lv1 := [(9, .int (0)), (8, .int (1)), (7, .int (nI (YS s (tn (s 23 cl)) gg (tn (s 24 cl))))), (6, .int (nI (tn (s 23 cl)))), (5, .int (nI (tn (s 24 cl)))), (0, .ref (r 4)), (1, .ref (r 0)), (2, .int (nI (cl))), (3, .int (nI (gg))), (4, .int (nI (X0)))]) dL_isPlanned_118 rfl (by decide) rfl ?_
    refine v_iconst C (v := 0) dL_isPlanned_120 rfl rfl ?_
    refine v_istore C (lv1 := [(10, .int (0)), (9, .int (0)), (8, .int (1)), (7, .int (nI (YS s (tn (s 23 cl)) gg (tn (s 24 cl))))), (6, .int (nI (tn (s 23 cl)))), (5, .int (nI (tn (s 24 cl)))), (0, .ref (r 4)), (1, .ref (r 0)), (2, .int (nI (cl))), (3, .int (nI (gg))), (4, .int (nI (X0)))]) dL_isPlanned_121 rfl (by decide) rfl ?_
    refine xx_lv [6, 7, 8, 9, 10, 5, 4, 3, 2, 1, 0] (lv' := [(0, .ref (r 4)), (1, .ref (r 0)), (2, .int (nI (cl))), (3, .int (nI (gg))), (4, .int (nI (X0))), (5, .int (nI (tn (s 24 cl)))), (6, .int (nI (tn (s 23 cl)))), (7, .int (nI (YS s (tn (s 23 cl)) gg (tn (s 24 cl))))), (8, .int (1)), (9, .int (nI (UP s (tn (s 23 cl)) 0))), (10, .int (nI (0)))]) rfl ?_
    exact xx_mono (bm (Nat.le_of_ble_eq_true rfl)) (bm (Nat.le_of_ble_eq_true rfl)) (kk hm5 _ hW11)
  · skip
    refine v_aload_n C dL_isPlanned_16 rfl 2 rfl ?_
    refine v_bipush C (v := 27) dL_isPlanned_17 rfl rfl ?_
    refine v_iload_n C dL_isPlanned_19 rfl 4 rfl ?_
    refine v_iload_n C dL_isPlanned_20 rfl 5 rfl ?_
    refine v_iconst C (v := 0) dL_isPlanned_21 rfl rfl ?_
    refine v_iconst C (v := 0) dL_isPlanned_22 rfl rfl ?_
    refine l_actK C (ax_plan (s := s) (nm := nm) (nc := nc) (nr := nr) hst hG hW hJ.bs (e := 3) (cd := -1793000000) (e3_3 (mi_of hW.cnt.2.1 hcl (by omega)) (met_in hg) (by rw [tn_nI (show cl < 2 ^ 31 by omega), show (5 : Int32) = nI 5 from rfl, h23.2.1.clt (by omega)]; omega)) (by decide) xL3_3) (B + 11) (D + 143) ⟨⟨Nat.le_refl _, bl hKc (Nat.le_of_ble_eq_true rfl)⟩, Nat.le_refl _, bl hKn (Nat.le_of_ble_eq_true rfl)⟩ rfl dL_isPlanned_23 rfl (fun v_ w_ hv13 => ?_)
    obtain ⟨rfl, hw_, -⟩ := hv13
    rw [hw_]
    show V X G 11 _ _ _ _ _ _ [.int ((-1793000000))]
    refine v_istore C (lv1 := [(7, .int ((-1793000000))), (6, .int (nI (tn (s 23 cl)))), (5, .int (nI (tn (s 24 cl)))), (0, .ref (r 4)), (1, .ref (r 0)), (2, .int (nI (cl))), (3, .int (nI (gg))), (4, .int (nI (X0)))]) dL_isPlanned_26 rfl (by decide) rfl ?_
    refine v_iload C dL_isPlanned_28 rfl 2 rfl ?_
    refine v_iconst C (v := 5) dL_isPlanned_30 rfl rfl ?_
    refine v_icN_le C (t := 59) (tn (s 24 cl)) 5 rfl rfl (by omega) (by omega) dL_isPlanned_31 rfl rfl (fun h => ((by omega : False)).elim) (fun _ => ?_)
    refine v_iload C dL_isPlanned_34 rfl 0 rfl ?_
    refine v_ldc C (v := (-1793000000)) dL_isPlanned_36 rfl N_L_114 ?_
    refine v_icmp_ne C (t := 57) dL_isPlanned_38 rfl rfl (fun h => absurd h (by decide)) (fun _ => ?_)
    refine v_aload_n C dL_isPlanned_41 rfl 3 rfl ?_
    refine v_bipush C (v := 28) dL_isPlanned_42 rfl rfl ?_
    refine v_iload_n C dL_isPlanned_44 rfl 5 rfl ?_
    refine v_iload_n C dL_isPlanned_45 rfl 6 rfl ?_
    refine v_iconst C (v := 0) dL_isPlanned_46 rfl rfl ?_
    refine l_bars C (ax_planCell (s := s) (nm := nm) (nc := nc) (nr := nr) hst hG hW hJ.bs (e := 3) (cd := -1793000000) (e3_3 ⟨(mi_of hW.cnt.2.1 hcl (by omega)), by decide⟩ (met_in hg) (by rw [tn_nI (show cl < 2 ^ 31 by omega), show (5 : Int32) = nI 5 from rfl, h23.2.1.clt (by omega)]; omega)) (by decide) xL3_3) (B + 18) (D + 262) ⟨⟨Nat.le_refl _, bl hKc (Nat.le_of_ble_eq_true rfl)⟩, Nat.le_refl _, bl hKn (Nat.le_of_ble_eq_true rfl)⟩ rfl dL_isPlanned_47 rfl ?_
    refine v_if_eq C (t := 57) dL_isPlanned_50 rfl rfl (fun h => absurd h (by decide)) (fun _ => ?_)
    refine v_iconst C (v := 1) dL_isPlanned_53 rfl rfl ?_
    refine v_goto C (q := 58) dL_isPlanned_54 rfl ?_
    exact v_zret C rfl (bl hKc (Nat.le_of_ble_eq_true rfl)) (bl hKn (Nat.le_of_ble_eq_true rfl)) dL_isPlanned_58 ⟨rfl, hW⟩

theorem sg_pln_1 {X : XS} {G : GG} {w : va_W} {Q : State → Prop} {r : Nat → Nat} {s t : SS} {nm nc nr k B D : Nat} {X0 cl gg : Nat} {i : Nat} (C : Cx X G cL_isPlanned 11 RL (Option.some Jvm.ClassFile.FieldType.boolean) r_L_isPlanned "isPlanned" []) (hW : Wd G r s t nm nc nr w) (hJ : Js s nm nc nr k) (hk : k ≤ 131) (hT : K9 s t nm nc nr k) (hX : X0 < 100000000) (hcl : cl < nc) (hg : gg < 4) (hi0 : i ≤ tn (s 24 cl)) (hm5 : tn (s 24 cl) ≤ 5) (hKc : B + 1 ≤ r_L_isPlanned.cells) (hKn : D + 6 ≤ r_L_isPlanned.slots) (ih : i < tn (s 24 cl) → V X G 11 w (B + 1) (D + 6) Q 123 [(0, .ref (r 4)), (1, .ref (r 0)), (2, .int (nI (cl))), (3, .int (nI (gg))), (4, .int (nI (X0))), (5, .int (nI (tn (s 24 cl)))), (6, .int (nI (tn (s 23 cl)))), (7, .int (nI (YS s (tn (s 23 cl)) gg (tn (s 24 cl))))), (8, .int (1)), (9, .int (nI (UP s (tn (s 23 cl)) (i + 1)))), (10, .int (nI (i + 1)))] []) (kk : V X G 11 w (B + 1) (D + 6) Q 155 [(0, .ref (r 4)), (1, .ref (r 0)), (2, .int (nI (cl))), (3, .int (nI (gg))), (4, .int (nI (X0))), (5, .int (nI (tn (s 24 cl)))), (6, .int (nI (tn (s 23 cl)))), (7, .int (nI (YS s (tn (s 23 cl)) gg (tn (s 24 cl))))), (8, .int (1)), (9, .int (nI (UP s (tn (s 23 cl)) (tn (s 24 cl))))), (10, .int (nI (tn (s 24 cl))))] []) : V X G 11 w B D Q 123 [(0, .ref (r 4)), (1, .ref (r 0)), (2, .int (nI (cl))), (3, .int (nI (gg))), (4, .int (nI (X0))), (5, .int (nI (tn (s 24 cl)))), (6, .int (nI (tn (s 23 cl)))), (7, .int (nI (YS s (tn (s 23 cl)) gg (tn (s 24 cl))))), (8, .int (1)), (9, .int (nI (UP s (tn (s 23 cl)) i))), (10, .int (nI (i)))] [] := by
  have hst : X.2.1.stackTraces = false := C.2.2.2.2.2.1
  have hG : GOK G := C.2.2.2.2.2.2.2.2.2.1
  have hm := hJ.1.1
  have h23 := hJ.c23 hcl
  refine v_iload C dL_isPlanned_123 rfl 10 rfl ?_
  refine v_iload C dL_isPlanned_125 rfl 5 rfl ?_
  refine v_icN_ge C (t := 155) i (tn (s 24 cl)) rfl rfl (by omega) (by omega) dL_isPlanned_127 rfl rfl (fun h1 => ?_) (fun h1 => ?_)
  · skip
    obtain rfl : tn (s 24 cl) = i := by omega
    refine xx_lv [0, 1, 2, 3, 4, 5, 6, 7, 8, 9, 10] (lv' := [(0, .ref (r 4)), (1, .ref (r 0)), (2, .int (nI (cl))), (3, .int (nI (gg))), (4, .int (nI (X0))), (5, .int (nI (tn (s 24 cl)))), (6, .int (nI (tn (s 23 cl)))), (7, .int (nI (YS s (tn (s 23 cl)) gg (tn (s 24 cl))))), (8, .int (1)), (9, .int (nI (UP s (tn (s 23 cl)) (tn (s 24 cl))))), (10, .int (nI (tn (s 24 cl))))]) rfl ?_
    exact xx_mono (Nat.le_add_right _ _) (Nat.le_add_right _ _) (kk)
  · skip
    have hupb := up_b (f := tn (s 23 cl)) hJ hk i (by omega)
    refine v_iload C dL_isPlanned_130 rfl 9 rfl ?_
    refine v_bipush C (v := 100) dL_isPlanned_132 rfl rfl ?_
    refine v_aload_n C dL_isPlanned_134 rfl 0 rfl ?_
    refine v_iload C dL_isPlanned_135 rfl 6 rfl ?_
    refine v_iload C dL_isPlanned_137 rfl 10 rfl ?_
    refine v_iaddN C (tn (s 23 cl)) i rfl rfl dL_isPlanned_139 rfl ?_
    refine q_sample C hW hJ (i := (tn (s 23 cl)) + i) (by omega) (B + 1) (D + 6) ⟨⟨Nat.le_refl _, bl hKc (Nat.le_of_ble_eq_true rfl)⟩, Nat.le_refl _, bl hKn (Nat.le_of_ble_eq_true rfl)⟩ rfl dL_isPlanned_140 rfl (fun b2 => ?_)
    refine v_iconst C (v := 1) dL_isPlanned_143 rfl rfl ?_
    refine v_iaddN C (tn (s 9 ((tn (s 23 cl)) + i)) / 100) 1 rfl rfl dL_isPlanned_144 rfl ?_
    refine v_imulN C 100 ((tn (s 9 ((tn (s 23 cl)) + i)) / 100) + 1) rfl rfl dL_isPlanned_145 rfl ?_
    refine v_iaddN C (UP s (tn (s 23 cl)) i) (100 * ((tn (s 9 ((tn (s 23 cl)) + i)) / 100) + 1)) rfl rfl dL_isPlanned_146 rfl ?_
    refine xx_top (y := nI (UP s (tn (s 23 cl)) (i + 1))) rfl ?_
    refine v_istore C (lv1 := [(9, .int (nI (UP s (tn (s 23 cl)) (i + 1)))), (0, .ref (r 4)), (1, .ref (r 0)), (2, .int (nI (cl))), (3, .int (nI (gg))), (4, .int (nI (X0))), (5, .int (nI (tn (s 24 cl)))), (6, .int (nI (tn (s 23 cl)))), (7, .int (nI (YS s (tn (s 23 cl)) gg (tn (s 24 cl))))), (8, .int (1)), (10, .int (nI (i)))]) dL_isPlanned_147 rfl (by decide) rfl ?_
    refine v_iincN C (lv1 := [(10, .int (nI (i + 1))), (9, .int (nI (UP s (tn (s 23 cl)) (i + 1)))), (0, .ref (r 4)), (1, .ref (r 0)), (2, .int (nI (cl))), (3, .int (nI (gg))), (4, .int (nI (X0))), (5, .int (nI (tn (s 24 cl)))), (6, .int (nI (tn (s 23 cl)))), (7, .int (nI (YS s (tn (s 23 cl)) gg (tn (s 24 cl))))), (8, .int (1))]) i rfl dL_isPlanned_149 rfl 10 rfl (by decide) rfl ?_
    refine v_goto C (q := 123) dL_isPlanned_152 rfl ?_
    refine xx_lv [2, 3, 4, 5, 6, 7, 8, 9, 10, 1, 0] (lv' := [(0, .ref (r 4)), (1, .ref (r 0)), (2, .int (nI (cl))), (3, .int (nI (gg))), (4, .int (nI (X0))), (5, .int (nI (tn (s 24 cl)))), (6, .int (nI (tn (s 23 cl)))), (7, .int (nI (YS s (tn (s 23 cl)) gg (tn (s 24 cl))))), (8, .int (1)), (9, .int (nI (UP s (tn (s 23 cl)) (i + 1)))), (10, .int (nI (i + 1)))]) rfl ?_
    exact xx_mono (bm (Nat.le_of_ble_eq_true rfl)) (bm (Nat.le_of_ble_eq_true rfl)) (ih (by omega))

theorem lp_pln_1 {X : XS} {G : GG} {w : va_W} {Q : State → Prop} {r : Nat → Nat} {s t : SS} {nm nc nr k B D : Nat} {X0 cl gg : Nat} (C : Cx X G cL_isPlanned 11 RL (Option.some Jvm.ClassFile.FieldType.boolean) r_L_isPlanned "isPlanned" []) (hW : Wd G r s t nm nc nr w) (hJ : Js s nm nc nr k) (hk : k ≤ 131) (hT : K9 s t nm nc nr k) (hX : X0 < 100000000) (hcl : cl < nc) (hg : gg < 4) (hm5 : tn (s 24 cl) ≤ 5) (hKc : B + 6 ≤ r_L_isPlanned.cells) (hKn : D + 36 ≤ r_L_isPlanned.slots) (kk : V X G 11 w (B + 6) (D + 36) Q 155 [(0, .ref (r 4)), (1, .ref (r 0)), (2, .int (nI (cl))), (3, .int (nI (gg))), (4, .int (nI (X0))), (5, .int (nI (tn (s 24 cl)))), (6, .int (nI (tn (s 23 cl)))), (7, .int (nI (YS s (tn (s 23 cl)) gg (tn (s 24 cl))))), (8, .int (1)), (9, .int (nI (UP s (tn (s 23 cl)) (tn (s 24 cl))))), (10, .int (nI (tn (s 24 cl))))] []) : V X G 11 w B D Q 123 [(0, .ref (r 4)), (1, .ref (r 0)), (2, .int (nI (cl))), (3, .int (nI (gg))), (4, .int (nI (X0))), (5, .int (nI (tn (s 24 cl)))), (6, .int (nI (tn (s 23 cl)))), (7, .int (nI (YS s (tn (s 23 cl)) gg (tn (s 24 cl))))), (8, .int (1)), (9, .int (nI (UP s (tn (s 23 cl)) 0))), (10, .int (nI (0)))] [] := by
  have key := ind_up (α := Unit) (P := fun i _ => V X G 11 w (B + 1 * i) (D + 6 * i) Q 123 [(0, .ref (r 4)), (1, .ref (r 0)), (2, .int (nI (cl))), (3, .int (nI (gg))), (4, .int (nI (X0))), (5, .int (nI (tn (s 24 cl)))), (6, .int (nI (tn (s 23 cl)))), (7, .int (nI (YS s (tn (s 23 cl)) gg (tn (s 24 cl))))), (8, .int (1)), (9, .int (nI (UP s (tn (s 23 cl)) i))), (10, .int (nI (i)))] []) (tn (s 24 cl)) (fun i _ hi ih => sg_pln_1 C hW hJ hk hT hX hcl hg hi hm5 (by omega) (by omega) (fun h => xx_mono (by omega) (by omega) (ih h ())) (xx_mono (by omega) (by omega) kk))
  exact key 0 () (by omega)

theorem sg_pln_2 {X : XS} {G : GG} {w : va_W} {r : Nat → Nat} {s t : SS} {nm nc nr k B D : Nat} {X0 cl gg : Nat} (C : Cx X G cL_isPlanned 11 RL (Option.some Jvm.ClassFile.FieldType.boolean) r_L_isPlanned "isPlanned" []) (hW : Wd G r s t nm nc nr w) (hJ : Js s nm nc nr k) (hk : k ≤ 131) (hT : K9 s t nm nc nr k) (hX : X0 < 100000000) (hcl : cl < nc) (hg : gg < 4) (hm5 : tn (s 24 cl) ≤ 5) (hKc : B + 0 ≤ r_L_isPlanned.cells) (hKn : D + 0 ≤ r_L_isPlanned.slots)  : V X G 11 w B D (Tg X G r_L_isPlanned (fun v w1 => v = some (.int 1) ∧ Wd G r s t nm nc nr w1) nX) 155 [(0, .ref (r 4)), (1, .ref (r 0)), (2, .int (nI (cl))), (3, .int (nI (gg))), (4, .int (nI (X0))), (5, .int (nI (tn (s 24 cl)))), (6, .int (nI (tn (s 23 cl)))), (7, .int (nI (YS s (tn (s 23 cl)) gg (tn (s 24 cl))))), (8, .int (1)), (9, .int (nI (UP s (tn (s 23 cl)) (tn (s 24 cl))))), (10, .int (nI (tn (s 24 cl))))] [] := by
  have hst : X.2.1.stackTraces = false := C.2.2.2.2.2.1
  have hG : GOK G := C.2.2.2.2.2.2.2.2.2.1
  have hm := hJ.1.1
  have h23 := hJ.c23 hcl
  have hy1 := ys_le (s := s) (f := tn (s 23 cl)) (g := gg) (tn (s 24 cl))
  have hy2 := up_le (s := s) (f := tn (s 23 cl)) (tn (s 24 cl))
  have hy3 := up_b (f := tn (s 23 cl)) hJ hk (tn (s 24 cl)) h23.2.2.2.2
  refine v_iload C dL_isPlanned_155 rfl 8 rfl ?_
  refine v_if_eq C (t := 185) dL_isPlanned_157 rfl rfl (fun h => absurd h (by decide)) (fun _ => ?_)
  refine v_iload C dL_isPlanned_160 rfl 7 rfl ?_
  refine v_iload C dL_isPlanned_162 rfl 9 rfl ?_
  refine v_icN_gt C (t := 185) (YS s (tn (s 23 cl)) gg (tn (s 24 cl))) (UP s (tn (s 23 cl)) (tn (s 24 cl))) rfl rfl (by omega) (by omega) dL_isPlanned_164 rfl rfl (fun h => (by omega : False).elim) (fun h1 => ?_)
  refine v_iload_n C dL_isPlanned_167 rfl 3 rfl ?_
  refine v_ifN_gt C (t := 181) gg rfl (by omega) dL_isPlanned_168 rfl rfl (fun h2 => ?_) (fun h2 => ?_)
  · skip
    refine v_iconst C (v := 1) dL_isPlanned_181 rfl rfl ?_
    refine v_goto C (q := 186) dL_isPlanned_182 rfl ?_
    exact v_zret C rfl (Nat.le_trans (Nat.le_add_right _ _) hKc) (Nat.le_trans (Nat.le_add_right _ _) hKn) dL_isPlanned_186 ⟨rfl, hW⟩
  · skip
    have hg0 : gg = 0 := by omega
    have h18 : YS s (tn (s 23 cl)) gg (tn (s 24 cl)) ≤ 18 * (tn (s 24 cl)) := by rw [hg0]; exact ys_18 _
    refine v_iload C dL_isPlanned_171 rfl 7 rfl ?_
    refine v_bipush C (v := 18) dL_isPlanned_173 rfl rfl ?_
    refine v_iload C dL_isPlanned_175 rfl 5 rfl ?_
    refine v_imulN C 18 (tn (s 24 cl)) rfl rfl dL_isPlanned_177 rfl ?_
    refine v_icN_gt C (t := 185) (YS s (tn (s 23 cl)) gg (tn (s 24 cl))) (18 * (tn (s 24 cl))) rfl rfl (by omega) (by omega) dL_isPlanned_178 rfl rfl (fun h => (by omega : False).elim) (fun h3 => ?_)
    refine v_iconst C (v := 1) dL_isPlanned_181 rfl rfl ?_
    refine v_goto C (q := 186) dL_isPlanned_182 rfl ?_
    exact v_zret C rfl (Nat.le_trans (Nat.le_add_right _ _) hKc) (Nat.le_trans (Nat.le_add_right _ _) hKn) dL_isPlanned_186 ⟨rfl, hW⟩

theorem c_L_isPlanned {l : Launch} {G : GG} {w : va_W} {r : Nat → Nat} {s t : SS} {nm nc nr k : Nat} {X0 cl gg : Nat} (hst : l.stackTraces = false) (hG : GOK G) (hk : k ≤ 131) (hT : K9 s t nm nc nr k) (hX : X0 < 100000000) (hcl : cl < nc) (hg : gg < 4) (hW : Wd G r s t nm nc nr w) (hJ : Js s nm nc nr k) : Mth l yL_isPlanned cL_isPlanned 11 (Option.some Jvm.ClassFile.FieldType.boolean) r_L_isPlanned G w [.ref (r 4), .ref (r 0), .int (nI cl), .int (nI gg), .int (nI X0)] (fun v w1 => v = some (.int 1) ∧ Wd G r s t nm nc nr w1) nX := by
  refine mth_of rfl (Nat.le_of_ble_eq_true rfl) hst hG (fun X hX0 C0 => ?_)
  subst hX0
  have C : Cx X G cL_isPlanned 11 RL (Option.some Jvm.ClassFile.FieldType.boolean) r_L_isPlanned "isPlanned" [] := C0
  clear C0
  show V X G 11 w 0 0 _ 0 [(0, .ref (r 4)), (1, .ref (r 0)), (2, .int (nI cl)), (3, .int (nI gg)), (4, .int (nI X0))] []
  have hc : r_L_isPlanned.cells = 31 := rfl
  have hd : r_L_isPlanned.slots = 417 := rfl
  refine sg_pln_0 C hW hJ hk hT hX hcl hg (by omega) (by omega) (fun hm5 w1 hW => ?_)
  refine lp_pln_1 C hW hJ hk hT hX hcl hg hm5 (by omega) (by omega) ?_
  exact sg_pln_2 C hW hJ hk hT hX hcl hg hm5 (by omega) (by omega)
