abbrev r_L_isTold : Room := { frames := 11, cells := 28, slots := 250, locals := 200 }
theorem sg_tld_0 {X : XS} {G : GG} {w : va_W} {Q : State → Prop} {r : Nat → Nat} {s t : SS} {nm nc nr k B D : Nat} {X0 how : Nat} (C : Cx X G cL_isTold 15 RL (Option.some Jvm.ClassFile.FieldType.boolean) r_L_isTold "isTold" []) (hW : Wd G r s t nm nc nr w) (hJ : Js s nm nc nr k) (hMi : MiOK G) (hk : k ≤ 130) (hT : K9 s t nm nc nr k) (hX : X0 < 100000000) (hhow : how < 46) (hKc : B + 0 ≤ r_L_isTold.cells) (hKn : D + 0 ≤ r_L_isTold.slots) (kA : V X G 15 w (B + 0) (D + 0) Q 11 [(0, .ref (r 4)), (1, .ref (r 0)), (2, .ref (r 1)), (3, .ref (r 2)), (4, .int (nI (how))), (5, .int (nI (X0)))] []) (kB : ¬ how = 0 → 0 < nm → V X G 15 w (B + 0) (D + 0) Q 176 [(0, .ref (r 4)), (1, .ref (r 0)), (2, .ref (r 1)), (3, .ref (r 2)), (4, .int (nI (how))), (5, .int (nI (X0)))] []) : V X G 15 w B D Q 0 [(0, .ref (r 4)), (1, .ref (r 0)), (2, .ref (r 1)), (3, .ref (r 2)), (4, .int (nI (how))), (5, .int (nI (X0)))] [] := by
  have hst : X.2.1.stackTraces = false := C.2.2.2.2.2.1
  have hG : GOK G := C.2.2.2.2.2.2.2.2.2.1
  have hm := hJ.1.1
  refine v_iload C dL_isTold_0 rfl 4 rfl ?_
  refine v_ifN_eq C (t := 11) how rfl (by omega) dL_isTold_2 rfl rfl (fun h1 => ?_) (fun h1 => ?_)
  · skip
    refine xx_lv [0, 1, 2, 3, 4, 5] (lv' := [(0, .ref (r 4)), (1, .ref (r 0)), (2, .ref (r 1)), (3, .ref (r 2)), (4, .int (nI (how))), (5, .int (nI (X0)))]) rfl ?_
    exact xx_mono (Nat.le_add_right _ _) (Nat.le_add_right _ _) (kA)
  · skip
    refine v_aload_n C dL_isTold_5 rfl 1 rfl ?_
    refine v_iconst C (v := 0) dL_isTold_6 rfl rfl ?_
    refine v_mld C hW 0 (by decide) 0 (show 0 < 6 by omega) dL_isTold_7 rfl ?_
    refine xx_top (y := nI (nm)) hT.1.1 ?_
    refine v_ifN_ne C (t := 176) nm rfl (by omega) dL_isTold_8 rfl rfl (fun h2 => ?_) (fun h2 => ?_)
    · skip
      refine xx_lv [0, 1, 2, 3, 4, 5] (lv' := [(0, .ref (r 4)), (1, .ref (r 0)), (2, .ref (r 1)), (3, .ref (r 2)), (4, .int (nI (how))), (5, .int (nI (X0)))]) rfl ?_
      exact xx_mono (Nat.le_add_right _ _) (Nat.le_add_right _ _) (kB (by omega) (by omega))
    · skip
      refine xx_lv [0, 1, 2, 3, 4, 5] (lv' := [(0, .ref (r 4)), (1, .ref (r 0)), (2, .ref (r 1)), (3, .ref (r 2)), (4, .int (nI (how))), (5, .int (nI (X0)))]) rfl ?_
      exact xx_mono (Nat.le_add_right _ _) (Nat.le_add_right _ _) (kA)

theorem sg_tld_A0 {X : XS} {G : GG} {w : va_W} {Q : State → Prop} {r : Nat → Nat} {s t : SS} {nm nc nr k B D : Nat} {X0 how : Nat} (C : Cx X G cL_isTold 15 RL (Option.some Jvm.ClassFile.FieldType.boolean) r_L_isTold "isTold" []) (hW : Wd G r s t nm nc nr w) (hJ : Js s nm nc nr k) (hMi : MiOK G) (hk : k ≤ 130) (hT : K9 s t nm nc nr k) (hX : X0 < 100000000) (hhow : how < 46) (hKc : B + 0 ≤ r_L_isTold.cells) (hKn : D + 0 ≤ r_L_isTold.slots) (kk : ∀ f, f ≤ 1000 → V X G 15 w (B + 0) (D + 0) Q 29 [(0, .ref (r 4)), (1, .ref (r 0)), (2, .ref (r 1)), (3, .ref (r 2)), (4, .int (nI (how))), (5, .int (nI (X0)))] [.int (nI (f))]) : V X G 15 w B D Q 11 [(0, .ref (r 4)), (1, .ref (r 0)), (2, .ref (r 1)), (3, .ref (r 2)), (4, .int (nI (how))), (5, .int (nI (X0)))] [] := by
  have hst : X.2.1.stackTraces = false := C.2.2.2.2.2.1
  have hG : GOK G := C.2.2.2.2.2.2.2.2.2.1
  have hm := hJ.1.1
  refine v_iload C dL_isTold_11 rfl 5 rfl ?_
  refine v_iload C dL_isTold_13 rfl 5 rfl ?_
  refine v_iconst C (v := 3) dL_isTold_15 rfl rfl ?_
  refine v_iremN C X0 3 rfl rfl (by omega) (by omega) (by omega) dL_isTold_16 rfl ?_
  refine v_ifN_ne C (t := 26) (X0 % 3) rfl (by omega) dL_isTold_17 rfl rfl (fun h1 => ?_) (fun h1 => ?_)
  · skip
    refine v_bipush C (v := 30) dL_isTold_26 rfl rfl ?_
    refine v_iremN C X0 30 rfl rfl (by omega) (by omega) (by omega) dL_isTold_28 rfl ?_
    exact xx_mono (Nat.le_add_right _ _) (Nat.le_add_right _ _) (kk (X0 % 30) (by omega))
  · skip
    refine v_sipush C (v := 1001) dL_isTold_20 rfl rfl ?_
    refine v_goto C (q := 28) dL_isTold_23 rfl ?_
    refine v_iremN C X0 1001 rfl rfl (by omega) (by omega) (by omega) dL_isTold_28 rfl ?_
    exact xx_mono (Nat.le_add_right _ _) (Nat.le_add_right _ _) (kk (X0 % 1001) (by omega))

theorem sg_tld_A1 {X : XS} {G : GG} {w : va_W} {r : Nat → Nat} {s t : SS} {nm nc nr k B D : Nat} {X0 how : Nat} {f : Nat} (C : Cx X G cL_isTold 15 RL (Option.some Jvm.ClassFile.FieldType.boolean) r_L_isTold "isTold" []) (hW : Wd G r s t nm nc nr w) (hJ : Js s nm nc nr k) (hMi : MiOK G) (hk : k ≤ 130) (hT : K9 s t nm nc nr k) (hX : X0 < 100000000) (hhow : how < 46) (hf : f ≤ 1000) (hKc : B + 13 ≤ r_L_isTold.cells) (hKn : D + 155 ≤ r_L_isTold.slots)  : V X G 15 w B D (Tg X G r_L_isTold (fun v w1 => v = some (.int 1) ∧ Nxt G r nm (k + 1) w1) nX) 29 [(0, .ref (r 4)), (1, .ref (r 0)), (2, .ref (r 1)), (3, .ref (r 2)), (4, .int (nI (how))), (5, .int (nI (X0)))] [.int (nI (f))] := by
  have hst : X.2.1.stackTraces = false := C.2.2.2.2.2.1
  have hG : GOK G := C.2.2.2.2.2.2.2.2.2.1
  have hm := hJ.1.1
  refine v_istore C (lv1 := [(6, .int (nI (f))), (0, .ref (r 4)), (1, .ref (r 0)), (2, .ref (r 1)), (3, .ref (r 2)), (4, .int (nI (how))), (5, .int (nI (X0)))]) dL_isTold_29 rfl (by decide) rfl ?_
  refine v_aload_n C dL_isTold_31 rfl 1 rfl ?_
  refine v_iconst C (v := 2) dL_isTold_32 rfl rfl ?_
  refine v_iload C dL_isTold_33 rfl 0 rfl ?_
  refine v_iload C dL_isTold_35 rfl 6 rfl ?_
  refine v_bipush C (v := 11) dL_isTold_37 rfl rfl ?_
  refine v_idivN C X0 11 rfl rfl (by omega) (by omega) (by omega) dL_isTold_39 rfl ?_
  refine v_sipush C (v := 600) dL_isTold_40 rfl rfl ?_
  refine v_iremN C (X0 / 11) 600 rfl rfl (by omega) (by omega) (by omega) dL_isTold_43 rfl ?_
  refine v_iconst C (v := 0) dL_isTold_44 rfl rfl ?_
  refine v_iconst C (v := 0) dL_isTold_45 rfl rfl ?_
  by_cases hfull : nm = 12
  · skip
    refine l_actK C (ax_miner (s := s) (nm := nm) (nc := nc) (nr := nr) hst hG hMi hW hJ.bs (e := 2) (cd := -1793000000) (e4_2 ⟨⟨nI_pos' (by omega), nI_le (b := 1000) (by omega) (by omega)⟩, ⟨nI_pos' (by omega), nI_le (b := 100000) (by omega) (by omega)⟩⟩ hfull) (by decide) xLAS_2) (B + 7) (D + 119) ⟨⟨Nat.le_refl _, bl hKc (Nat.le_of_ble_eq_true rfl)⟩, Nat.le_refl _, bl hKn (Nat.le_of_ble_eq_true rfl)⟩ rfl dL_isTold_46 rfl (fun v_ w_ hv1 => ?_)
    obtain ⟨rfl, hw_, -⟩ := hv1
    rw [hw_]
    show V X G 15 _ _ _ _ _ _ [.int ((-1793000000))]
    refine v_istore C (lv1 := [(7, .int ((-1793000000))), (6, .int (nI (f))), (0, .ref (r 4)), (1, .ref (r 0)), (2, .ref (r 1)), (3, .ref (r 2)), (4, .int (nI (how))), (5, .int (nI (X0)))]) dL_isTold_49 rfl (by decide) rfl ?_
    refine v_iload C dL_isTold_51 rfl 0 rfl ?_
    refine v_aload_n C dL_isTold_53 rfl 3 rfl ?_
    refine v_iconst C (v := 0) dL_isTold_54 rfl rfl ?_
    refine v_mld C hW 0 (by decide) 0 (show 0 < 6 by omega) dL_isTold_55 rfl ?_
    refine xx_top (y := nI (nm)) hT.1.1 ?_
    refine v_bipush C (v := 12) dL_isTold_56 rfl rfl ?_
    refine v_icN_ne C (t := 66) nm 12 rfl rfl (by omega) (by omega) dL_isTold_58 rfl rfl (fun h => ((by omega : False)).elim) (fun _ => ?_)
    refine v_ldc C (v := (-1793000000)) dL_isTold_61 rfl N_L_114 ?_
    refine v_goto C (q := 69) dL_isTold_63 rfl ?_
    refine v_icmp_ne C (t := 76) dL_isTold_69 rfl rfl (fun h => absurd h (by decide)) (fun _ => ?_)
    refine v_iconst C (v := 1) dL_isTold_72 rfl rfl ?_
    refine v_goto C (q := 77) dL_isTold_73 rfl ?_
    refine v_istore C (lv1 := [(8, .int (1)), (7, .int ((-1793000000))), (6, .int (nI (f))), (0, .ref (r 4)), (1, .ref (r 0)), (2, .ref (r 1)), (3, .ref (r 2)), (4, .int (nI (how))), (5, .int (nI (X0)))]) dL_isTold_77 rfl (by decide) rfl ?_
    refine v_aload_n C dL_isTold_79 rfl 6 rfl ?_
    refine v_bipush C (v := 12) dL_isTold_80 rfl rfl ?_
    refine v_iload C dL_isTold_82 rfl 1 rfl ?_
    refine v_if_ge C (t := 91) dL_isTold_84 rfl rfl (fun h => absurd h (by decide)) (fun _ => ?_)
    refine v_iconst C (v := 0) dL_isTold_87 rfl rfl ?_
    refine v_goto C (q := 94) dL_isTold_88 rfl ?_
    refine v_iaddN C 12 0 rfl rfl dL_isTold_94 rfl ?_
    refine v_iload C dL_isTold_95 rfl 1 rfl ?_
    refine v_if_ge C (t := 107) dL_isTold_97 rfl rfl (fun h => absurd h (by decide)) (fun _ => ?_)
    refine v_aload_n C dL_isTold_100 rfl 6 rfl ?_
    refine v_bipush C (v := 12) dL_isTold_101 rfl rfl ?_
    refine v_mld C hW 2 (by decide) 12 (show 12 < 24 by omega) dL_isTold_103 rfl ?_
    refine v_goto C (q := 109) dL_isTold_104 rfl ?_
    refine v_mst C hW 2 (by decide) (12 + 0) (show (12 + 0) < 24 by omega) dL_isTold_109 rfl (fun w2 hW3 => ?_)
    refine v_aload_n C dL_isTold_110 rfl 4 rfl ?_
    refine v_iconst C (v := 0) dL_isTold_111 rfl rfl ?_
    refine v_dup2 C dL_isTold_112 rfl rfl rfl ?_
    refine v_mld C hW3 0 (by decide) 0 (show 0 < 6 by omega) dL_isTold_113 rfl ?_
    refine xx_top (y := t 0 0) (by simp [su, upd]; try omega) ?_
    refine xx_top (y := nI (nm)) hT.1.1 ?_
    refine v_iload C dL_isTold_114 rfl 1 rfl ?_
    refine v_if_lt C (t := 123) dL_isTold_116 rfl rfl (fun _ => ?_) (fun h => absurd h (by decide))
    refine v_iconst C (v := 0) dL_isTold_123 rfl rfl ?_
    refine v_iaddN C nm 0 rfl rfl dL_isTold_124 rfl ?_
    refine v_mst C hW3 0 (by decide) 0 (show 0 < 6 by omega) dL_isTold_125 rfl (fun w4 hW5 => ?_)
    rw [show (su (su t 2 (12 + 0) (t 2 12)) 0 0 (nI (nm + 0))) = t from by
        rw [show su t 2 (12 + 0) (t 2 12) = t from su_self, show nI (nm + 0) = t 0 0 from hT.1.1.symm]
        exact su_self] at hW5
    refine v_iload C dL_isTold_126 rfl 0 rfl ?_
    refine v_if_eq C (t := 174) dL_isTold_128 rfl rfl (fun h => absurd h (by decide)) (fun _ => ?_)
    refine v_iload C dL_isTold_131 rfl 1 rfl ?_
    refine v_if_lt C (t := 170) dL_isTold_133 rfl rfl (fun _ => ?_) (fun h => absurd h (by decide))
    refine v_iconst C (v := 1) dL_isTold_170 rfl rfl ?_
    refine v_goto C (q := 175) dL_isTold_171 rfl ?_
    exact v_zret C rfl (bl hKc (Nat.le_of_ble_eq_true rfl)) (bl hKn (Nat.le_of_ble_eq_true rfl)) dL_isTold_175 ⟨rfl, _, _, _, _, _, hW5, hJ.mono (by omega), hT.mono (by omega), by omega, by omega⟩
  · skip
    have hP_ := P_miner hJ hT (by omega) (f := f) (c := X0 / 11 % 600) hf (by omega)
    refine l_actK C (ao_miner (s := s) (nm := nm) (nc := nc) (nr := nr) hst hG hMi hW hJ.bs (e4_0 ⟨⟨nI_pos' (by omega), nI_le (b := 1000) (by omega) (by omega)⟩, ⟨nI_pos' (by omega), nI_le (b := 100000) (by omega) (by omega)⟩⟩ hfull)) (B + 7) (D + 119) ⟨⟨Nat.le_refl _, bl hKc (Nat.le_of_ble_eq_true rfl)⟩, Nat.le_refl _, bl hKn (Nat.le_of_ble_eq_true rfl)⟩ rfl dL_isTold_46 rfl (fun v_ w7 hv6 => ?_)
    obtain ⟨rfl, hW8⟩ := hv6
    show V X G 15 _ _ _ _ _ _ [.int (nI (nm))]
    generalize minerS s nm (nI (f)) (nI ((X0 / 11) % 600)) = s1 at hP_ hW8
    obtain ⟨hJ1, hT1, f1, f2, f3⟩ := hP_
    refine v_istore C (lv1 := [(7, .int (nI (nm))), (6, .int (nI (f))), (0, .ref (r 4)), (1, .ref (r 0)), (2, .ref (r 1)), (3, .ref (r 2)), (4, .int (nI (how))), (5, .int (nI (X0)))]) dL_isTold_49 rfl (by decide) rfl ?_
    refine v_iload C dL_isTold_51 rfl 0 rfl ?_
    refine v_aload_n C dL_isTold_53 rfl 3 rfl ?_
    refine v_iconst C (v := 0) dL_isTold_54 rfl rfl ?_
    refine v_mld C hW8 0 (by decide) 0 (show 0 < 6 by omega) dL_isTold_55 rfl ?_
    refine xx_top (y := nI (nm)) hT.1.1 ?_
    refine v_bipush C (v := 12) dL_isTold_56 rfl rfl ?_
    refine v_icN_ne C (t := 66) nm 12 rfl rfl (by omega) (by omega) dL_isTold_58 rfl rfl (fun _ => ?_) (fun h => ((by omega : False)).elim)
    refine v_aload_n C dL_isTold_66 rfl 3 rfl ?_
    refine v_iconst C (v := 0) dL_isTold_67 rfl rfl ?_
    refine v_mld C hW8 0 (by decide) 0 (show 0 < 6 by omega) dL_isTold_68 rfl ?_
    refine xx_top (y := nI (nm)) hT.1.1 ?_
    refine v_icN_ne C (t := 76) nm nm rfl rfl (by omega) (by omega) dL_isTold_69 rfl rfl (fun h => ((by omega : False)).elim) (fun _ => ?_)
    refine v_iconst C (v := 1) dL_isTold_72 rfl rfl ?_
    refine v_goto C (q := 77) dL_isTold_73 rfl ?_
    refine v_istore C (lv1 := [(8, .int (1)), (7, .int (nI (nm))), (6, .int (nI (f))), (0, .ref (r 4)), (1, .ref (r 0)), (2, .ref (r 1)), (3, .ref (r 2)), (4, .int (nI (how))), (5, .int (nI (X0)))]) dL_isTold_77 rfl (by decide) rfl ?_
    refine v_aload_n C dL_isTold_79 rfl 6 rfl ?_
    refine v_bipush C (v := 12) dL_isTold_80 rfl rfl ?_
    refine v_iload C dL_isTold_82 rfl 1 rfl ?_
    refine v_if_ge C (t := 91) dL_isTold_84 rfl rfl (fun _ => ?_) (fun h => absurd (nI_pos' (by omega)) h)
    refine v_aload_n C dL_isTold_91 rfl 4 rfl ?_
    refine v_iconst C (v := 0) dL_isTold_92 rfl rfl ?_
    refine v_mld C hW8 0 (by decide) 0 (show 0 < 6 by omega) dL_isTold_93 rfl ?_
    refine xx_top (y := nI (nm)) hT.1.1 ?_
    refine v_iaddN C 12 nm rfl rfl dL_isTold_94 rfl ?_
    refine v_iload C dL_isTold_95 rfl 1 rfl ?_
    refine v_if_ge C (t := 107) dL_isTold_97 rfl rfl (fun _ => ?_) (fun h => absurd (nI_pos' (by omega)) h)
    refine v_bipush C (v := 10) dL_isTold_107 rfl rfl ?_
    refine v_mst C hW8 2 (by decide) (12 + nm) (show (12 + nm) < 24 by omega) dL_isTold_109 rfl (fun w9 hW10 => ?_)
    refine v_aload_n C dL_isTold_110 rfl 4 rfl ?_
    refine v_iconst C (v := 0) dL_isTold_111 rfl rfl ?_
    refine v_dup2 C dL_isTold_112 rfl rfl rfl ?_
    refine v_mld C hW10 0 (by decide) 0 (show 0 < 6 by omega) dL_isTold_113 rfl ?_
    refine xx_top (y := t 0 0) (by simp [su, upd]; try omega) ?_
    refine xx_top (y := nI (nm)) hT.1.1 ?_
    refine v_iload C dL_isTold_114 rfl 1 rfl ?_
    refine v_if_lt C (t := 123) dL_isTold_116 rfl rfl (fun h => absurd h (nI_pos (by omega))) (fun _ => ?_)
    refine v_iconst C (v := 1) dL_isTold_119 rfl rfl ?_
    refine v_goto C (q := 124) dL_isTold_120 rfl ?_
    refine v_iaddN C nm 1 rfl rfl dL_isTold_124 rfl ?_
    refine v_mst C hW10 0 (by decide) 0 (show 0 < 6 by omega) dL_isTold_125 rfl (fun w11 hW12 => ?_)
    refine v_iload C dL_isTold_126 rfl 0 rfl ?_
    refine v_if_eq C (t := 174) dL_isTold_128 rfl rfl (fun h => absurd h (by decide)) (fun _ => ?_)
    refine v_iload C dL_isTold_131 rfl 1 rfl ?_
    refine v_if_lt C (t := 170) dL_isTold_133 rfl rfl (fun h => absurd h (nI_pos (by omega))) (fun _ => ?_)
    refine v_aload_n C dL_isTold_136 rfl 3 rfl ?_
    refine v_iload C dL_isTold_137 rfl 1 rfl ?_
    refine v_iconst C (v := 2) dL_isTold_139 rfl rfl ?_
    refine q_m2 C hW12 hJ1 (i := nm) (by omega) (B + 9) (D + 131) ⟨⟨Nat.le_refl _, bl hKc (Nat.le_of_ble_eq_true rfl)⟩, Nat.le_refl _, bl hKn (Nat.le_of_ble_eq_true rfl)⟩ rfl dL_isTold_140 rfl (fun b13 => ?_)
    refine v_iload C dL_isTold_143 rfl 2 rfl ?_
    refine v_icN_ne C (t := 174) (tn (s1 15 nm)) f rfl rfl (by omega) (by omega) dL_isTold_145 rfl rfl (fun h => (by omega : False).elim) (fun h14 => ?_)
    refine v_aload_n C dL_isTold_148 rfl 3 rfl ?_
    refine v_iload C dL_isTold_149 rfl 1 rfl ?_
    refine v_iconst C (v := 4) dL_isTold_151 rfl rfl ?_
    refine q_m4 C hW12 hJ1 (i := nm) (by omega) (B + 11) (D + 143) ⟨⟨Nat.le_refl _, bl hKc (Nat.le_of_ble_eq_true rfl)⟩, Nat.le_refl _, bl hKn (Nat.le_of_ble_eq_true rfl)⟩ rfl dL_isTold_152 rfl (fun b15 => ?_)
    refine v_bipush C (v := 10) dL_isTold_155 rfl rfl ?_
    refine v_icN_ne C (t := 174) (tn (s1 17 nm)) 10 rfl rfl (by omega) (by omega) dL_isTold_157 rfl rfl (fun h => (by omega : False).elim) (fun h16 => ?_)
    refine v_aload_n C dL_isTold_160 rfl 3 rfl ?_
    refine v_iload C dL_isTold_161 rfl 1 rfl ?_
    refine v_iconst C (v := 0) dL_isTold_163 rfl rfl ?_
    refine q_m0 C hW12 hJ1 (i := nm) (by omega) (B + 13) (D + 155) ⟨⟨Nat.le_refl _, bl hKc (Nat.le_of_ble_eq_true rfl)⟩, Nat.le_refl _, bl hKn (Nat.le_of_ble_eq_true rfl)⟩ rfl dL_isTold_164 rfl (fun b17 => ?_)
    refine v_ifN_ne C (t := 174) (tn (s1 13 nm)) rfl (by omega) dL_isTold_167 rfl rfl (fun h => (by omega : False).elim) (fun h18 => ?_)
    refine v_iconst C (v := 1) dL_isTold_170 rfl rfl ?_
    refine v_goto C (q := 175) dL_isTold_171 rfl ?_
    exact v_zret C rfl (bl hKc (Nat.le_of_ble_eq_true rfl)) (bl hKn (Nat.le_of_ble_eq_true rfl)) dL_isTold_175 ⟨rfl, _, _, _, _, _, hW12, hJ1.mono (by omega), hT1 _ rfl, by omega, by omega⟩

theorem sg_tld_B {X : XS} {G : GG} {w : va_W} {Q : State → Prop} {r : Nat → Nat} {s t : SS} {nm nc nr k B D : Nat} {X0 how : Nat} (C : Cx X G cL_isTold 15 RL (Option.some Jvm.ClassFile.FieldType.boolean) r_L_isTold "isTold" []) (hW : Wd G r s t nm nc nr w) (hJ : Js s nm nc nr k) (hMi : MiOK G) (hk : k ≤ 130) (hT : K9 s t nm nc nr k) (hX : X0 < 100000000) (hhow : how < 46) (hnm : 0 < nm) (hKc : B + 2 ≤ r_L_isTold.cells) (hKn : D + 12 ≤ r_L_isTold.slots) (kk : ∀ mi, mi < nm → ∀ yy, yy < 100000000 → V X G 15 w (B + 2) (D + 12) Q 208 [(0, .ref (r 4)), (1, .ref (r 0)), (2, .ref (r 1)), (3, .ref (r 2)), (4, .int (nI (how))), (5, .int (nI (X0))), (6, .int (nI (mi))), (7, .int (nI (yy))), (8, .int (bI (tn (s 17 mi) = 0)))] []) : V X G 15 w B D Q 176 [(0, .ref (r 4)), (1, .ref (r 0)), (2, .ref (r 1)), (3, .ref (r 2)), (4, .int (nI (how))), (5, .int (nI (X0)))] [] := by
  have hst : X.2.1.stackTraces = false := C.2.2.2.2.2.1
  have hG : GOK G := C.2.2.2.2.2.2.2.2.2.1
  have hm := hJ.1.1
  refine v_iload C dL_isTold_176 rfl 5 rfl ?_
  refine v_aload_n C dL_isTold_178 rfl 1 rfl ?_
  refine v_iconst C (v := 0) dL_isTold_179 rfl rfl ?_
  refine v_mld C hW 0 (by decide) 0 (show 0 < 6 by omega) dL_isTold_180 rfl ?_
  refine xx_top (y := nI (nm)) hT.1.1 ?_
  refine v_iremN C X0 nm rfl rfl (by omega) (by omega) (by omega) dL_isTold_181 rfl ?_
  have hmi : X0 % nm < nm := Nat.mod_lt _ hnm
  generalize X0 % nm = mi at hmi ⊢
  refine v_istore C (lv1 := [(6, .int (nI (mi))), (0, .ref (r 4)), (1, .ref (r 0)), (2, .ref (r 1)), (3, .ref (r 2)), (4, .int (nI (how))), (5, .int (nI (X0)))]) dL_isTold_182 rfl (by decide) rfl ?_
  refine v_iload C dL_isTold_184 rfl 6 rfl ?_
  refine v_bipush C (v := 12) dL_isTold_186 rfl rfl ?_
  refine v_idivN C X0 12 rfl rfl (by omega) (by omega) (by omega) dL_isTold_188 rfl ?_
  have hyy : X0 / 12 < 100000000 := by omega
  generalize X0 / 12 = yy at hyy ⊢
  refine v_istore C (lv1 := [(7, .int (nI (yy))), (6, .int (nI (mi))), (0, .ref (r 4)), (1, .ref (r 0)), (2, .ref (r 1)), (3, .ref (r 2)), (4, .int (nI (how))), (5, .int (nI (X0)))]) dL_isTold_189 rfl (by decide) rfl ?_
  refine v_aload_n C dL_isTold_191 rfl 2 rfl ?_
  refine v_iload C dL_isTold_192 rfl 1 rfl ?_
  refine v_iconst C (v := 4) dL_isTold_194 rfl rfl ?_
  refine q_m4 C hW hJ (i := mi) (by omega) (B + 2) (D + 12) ⟨⟨Nat.le_refl _, bl hKc (Nat.le_of_ble_eq_true rfl)⟩, Nat.le_refl _, bl hKn (Nat.le_of_ble_eq_true rfl)⟩ rfl dL_isTold_195 rfl (fun b1 => ?_)
  refine xx_sel (P := (tn (s 17 mi)) = 0) 206 [] ?_ (fun jj => ?_)
  · skip
    refine v_istore C (lv1 := [(8, .int (bI ((tn (s 17 mi)) = 0))), (7, .int (nI (yy))), (6, .int (nI (mi))), (0, .ref (r 4)), (1, .ref (r 0)), (2, .ref (r 1)), (3, .ref (r 2)), (4, .int (nI (how))), (5, .int (nI (X0)))]) dL_isTold_206 rfl (by decide) rfl ?_
    refine xx_lv [3, 4, 5, 6, 7, 8, 2, 1, 0] (lv' := [(0, .ref (r 4)), (1, .ref (r 0)), (2, .ref (r 1)), (3, .ref (r 2)), (4, .int (nI (how))), (5, .int (nI (X0))), (6, .int (nI (mi))), (7, .int (nI (yy))), (8, .int (bI (tn (s 17 mi) = 0)))]) rfl ?_
    exact xx_mono (bm (Nat.le_of_ble_eq_true rfl)) (bm (Nat.le_of_ble_eq_true rfl)) (kk mi hmi yy hyy)
  refine v_ifN_ne C (t := 205) (tn (s 17 mi)) rfl (by omega) dL_isTold_198 rfl rfl (fun h2 => ?_) (fun h2 => ?_)
  · skip
    refine v_iconst C (v := 0) dL_isTold_205 rfl rfl ?_
    exact jj _ (bI_f (by first | assumption | omega)).symm
  · skip
    refine v_iconst C (v := 1) dL_isTold_201 rfl rfl ?_
    refine v_goto C (q := 206) dL_isTold_202 rfl ?_
    exact jj _ (bI_t (by first | assumption | omega)).symm

theorem sg_tld_D {X : XS} {G : GG} {w : va_W} {Q : State → Prop} {r : Nat → Nat} {s t : SS} {nm nc nr k B D : Nat} {X0 how : Nat} {mi yy : Nat} (C : Cx X G cL_isTold 15 RL (Option.some Jvm.ClassFile.FieldType.boolean) r_L_isTold "isTold" []) (hW : Wd G r s t nm nc nr w) (hJ : Js s nm nc nr k) (hMi : MiOK G) (hk : k ≤ 130) (hT : K9 s t nm nc nr k) (hX : X0 < 100000000) (hhow : how < 46) (hmi : mi < nm) (hyy : yy < 100000000) (hKc : B + 0 ≤ r_L_isTold.cells) (hKn : D + 0 ≤ r_L_isTold.slots) (kk0 : V X G 15 w (B + 0) (D + 0) Q 214 [(0, .ref (r 4)), (1, .ref (r 0)), (2, .ref (r 1)), (3, .ref (r 2)), (4, .int (nI (how))), (5, .int (nI (X0))), (6, .int (nI (mi))), (7, .int (nI (yy))), (8, .int (bI (tn (s 17 mi) = 0)))] []) (kk1 : V X G 15 w (B + 0) (D + 0) Q 470 [(0, .ref (r 4)), (1, .ref (r 0)), (2, .ref (r 1)), (3, .ref (r 2)), (4, .int (nI (how))), (5, .int (nI (X0))), (6, .int (nI (mi))), (7, .int (nI (yy))), (8, .int (bI (tn (s 17 mi) = 0)))] []) (kk2 : V X G 15 w (B + 0) (D + 0) Q 575 [(0, .ref (r 4)), (1, .ref (r 0)), (2, .ref (r 1)), (3, .ref (r 2)), (4, .int (nI (how))), (5, .int (nI (X0))), (6, .int (nI (mi))), (7, .int (nI (yy))), (8, .int (bI (tn (s 17 mi) = 0)))] []) (kk3 : V X G 15 w (B + 0) (D + 0) Q 636 [(0, .ref (r 4)), (1, .ref (r 0)), (2, .ref (r 1)), (3, .ref (r 2)), (4, .int (nI (how))), (5, .int (nI (X0))), (6, .int (nI (mi))), (7, .int (nI (yy))), (8, .int (bI (tn (s 17 mi) = 0)))] []) (kk4 : V X G 15 w (B + 0) (D + 0) Q 788 [(0, .ref (r 4)), (1, .ref (r 0)), (2, .ref (r 1)), (3, .ref (r 2)), (4, .int (nI (how))), (5, .int (nI (X0))), (6, .int (nI (mi))), (7, .int (nI (yy))), (8, .int (bI (tn (s 17 mi) = 0)))] []) (kk5 : V X G 15 w (B + 0) (D + 0) Q 896 [(0, .ref (r 4)), (1, .ref (r 0)), (2, .ref (r 1)), (3, .ref (r 2)), (4, .int (nI (how))), (5, .int (nI (X0))), (6, .int (nI (mi))), (7, .int (nI (yy))), (8, .int (bI (tn (s 17 mi) = 0)))] []) (kk6 : V X G 15 w (B + 0) (D + 0) Q 1082 [(0, .ref (r 4)), (1, .ref (r 0)), (2, .ref (r 1)), (3, .ref (r 2)), (4, .int (nI (how))), (5, .int (nI (X0))), (6, .int (nI (mi))), (7, .int (nI (yy))), (8, .int (bI (tn (s 17 mi) = 0)))] []) (kk7 : V X G 15 w (B + 0) (D + 0) Q 1127 [(0, .ref (r 4)), (1, .ref (r 0)), (2, .ref (r 1)), (3, .ref (r 2)), (4, .int (nI (how))), (5, .int (nI (X0))), (6, .int (nI (mi))), (7, .int (nI (yy))), (8, .int (bI (tn (s 17 mi) = 0)))] []) : V X G 15 w B D Q 208 [(0, .ref (r 4)), (1, .ref (r 0)), (2, .ref (r 1)), (3, .ref (r 2)), (4, .int (nI (how))), (5, .int (nI (X0))), (6, .int (nI (mi))), (7, .int (nI (yy))), (8, .int (bI (tn (s 17 mi) = 0)))] [] := by
  have hst : X.2.1.stackTraces = false := C.2.2.2.2.2.1
  have hG : GOK G := C.2.2.2.2.2.2.2.2.2.1
  have hm := hJ.1.1
  refine v_iload C dL_isTold_208 rfl 4 rfl ?_
  refine v_iconst C (v := 4) dL_isTold_210 rfl rfl ?_
  refine v_icN_ge C (t := 463) how 4 rfl rfl (by omega) (by omega) dL_isTold_211 rfl rfl (fun h1 => ?_) (fun h1 => ?_)
  · skip
    refine v_iload C dL_isTold_463 rfl 4 rfl ?_
    refine v_bipush C (v := 6) dL_isTold_465 rfl rfl ?_
    refine v_icN_ge C (t := 568) how 6 rfl rfl (by omega) (by omega) dL_isTold_467 rfl rfl (fun h2 => ?_) (fun h2 => ?_)
    · skip
      refine v_iload C dL_isTold_568 rfl 4 rfl ?_
      refine v_bipush C (v := 6) dL_isTold_570 rfl rfl ?_
      refine v_icN_ne C (t := 629) how 6 rfl rfl (by omega) (by omega) dL_isTold_572 rfl rfl (fun h3 => ?_) (fun h3 => ?_)
      · skip
        refine v_iload C dL_isTold_629 rfl 4 rfl ?_
        refine v_bipush C (v := 7) dL_isTold_631 rfl rfl ?_
        refine v_icN_ne C (t := 781) how 7 rfl rfl (by omega) (by omega) dL_isTold_633 rfl rfl (fun h4 => ?_) (fun h4 => ?_)
        · skip
          refine v_iload C dL_isTold_781 rfl 4 rfl ?_
          refine v_bipush C (v := 8) dL_isTold_783 rfl rfl ?_
          refine v_icN_ne C (t := 889) how 8 rfl rfl (by omega) (by omega) dL_isTold_785 rfl rfl (fun h5 => ?_) (fun h5 => ?_)
          · skip
            refine v_iload C dL_isTold_889 rfl 4 rfl ?_
            refine v_bipush C (v := 11) dL_isTold_891 rfl rfl ?_
            refine v_icN_ge C (t := 1075) how 11 rfl rfl (by omega) (by omega) dL_isTold_893 rfl rfl (fun h6 => ?_) (fun h6 => ?_)
            · skip
              refine v_iload C dL_isTold_1075 rfl 4 rfl ?_
              refine v_bipush C (v := 11) dL_isTold_1077 rfl rfl ?_
              refine v_icN_ne C (t := 1127) how 11 rfl rfl (by omega) (by omega) dL_isTold_1079 rfl rfl (fun h7 => ?_) (fun h7 => ?_)
              · skip
                refine xx_lv [0, 1, 2, 3, 4, 5, 6, 7, 8] (lv' := [(0, .ref (r 4)), (1, .ref (r 0)), (2, .ref (r 1)), (3, .ref (r 2)), (4, .int (nI (how))), (5, .int (nI (X0))), (6, .int (nI (mi))), (7, .int (nI (yy))), (8, .int (bI (tn (s 17 mi) = 0)))]) rfl ?_
                exact xx_mono (Nat.le_add_right _ _) (Nat.le_add_right _ _) (kk7)
              · skip
                refine xx_lv [0, 1, 2, 3, 4, 5, 6, 7, 8] (lv' := [(0, .ref (r 4)), (1, .ref (r 0)), (2, .ref (r 1)), (3, .ref (r 2)), (4, .int (nI (how))), (5, .int (nI (X0))), (6, .int (nI (mi))), (7, .int (nI (yy))), (8, .int (bI (tn (s 17 mi) = 0)))]) rfl ?_
                exact xx_mono (Nat.le_add_right _ _) (Nat.le_add_right _ _) (kk6)
            · skip
              refine xx_lv [0, 1, 2, 3, 4, 5, 6, 7, 8] (lv' := [(0, .ref (r 4)), (1, .ref (r 0)), (2, .ref (r 1)), (3, .ref (r 2)), (4, .int (nI (how))), (5, .int (nI (X0))), (6, .int (nI (mi))), (7, .int (nI (yy))), (8, .int (bI (tn (s 17 mi) = 0)))]) rfl ?_
              exact xx_mono (Nat.le_add_right _ _) (Nat.le_add_right _ _) (kk5)
          · skip
            refine xx_lv [0, 1, 2, 3, 4, 5, 6, 7, 8] (lv' := [(0, .ref (r 4)), (1, .ref (r 0)), (2, .ref (r 1)), (3, .ref (r 2)), (4, .int (nI (how))), (5, .int (nI (X0))), (6, .int (nI (mi))), (7, .int (nI (yy))), (8, .int (bI (tn (s 17 mi) = 0)))]) rfl ?_
            exact xx_mono (Nat.le_add_right _ _) (Nat.le_add_right _ _) (kk4)
        · skip
          refine xx_lv [0, 1, 2, 3, 4, 5, 6, 7, 8] (lv' := [(0, .ref (r 4)), (1, .ref (r 0)), (2, .ref (r 1)), (3, .ref (r 2)), (4, .int (nI (how))), (5, .int (nI (X0))), (6, .int (nI (mi))), (7, .int (nI (yy))), (8, .int (bI (tn (s 17 mi) = 0)))]) rfl ?_
          exact xx_mono (Nat.le_add_right _ _) (Nat.le_add_right _ _) (kk3)
      · skip
        refine xx_lv [0, 1, 2, 3, 4, 5, 6, 7, 8] (lv' := [(0, .ref (r 4)), (1, .ref (r 0)), (2, .ref (r 1)), (3, .ref (r 2)), (4, .int (nI (how))), (5, .int (nI (X0))), (6, .int (nI (mi))), (7, .int (nI (yy))), (8, .int (bI (tn (s 17 mi) = 0)))]) rfl ?_
        exact xx_mono (Nat.le_add_right _ _) (Nat.le_add_right _ _) (kk2)
    · skip
      refine xx_lv [0, 1, 2, 3, 4, 5, 6, 7, 8] (lv' := [(0, .ref (r 4)), (1, .ref (r 0)), (2, .ref (r 1)), (3, .ref (r 2)), (4, .int (nI (how))), (5, .int (nI (X0))), (6, .int (nI (mi))), (7, .int (nI (yy))), (8, .int (bI (tn (s 17 mi) = 0)))]) rfl ?_
      exact xx_mono (Nat.le_add_right _ _) (Nat.le_add_right _ _) (kk1)
  · skip
    refine xx_lv [0, 1, 2, 3, 4, 5, 6, 7, 8] (lv' := [(0, .ref (r 4)), (1, .ref (r 0)), (2, .ref (r 1)), (3, .ref (r 2)), (4, .int (nI (how))), (5, .int (nI (X0))), (6, .int (nI (mi))), (7, .int (nI (yy))), (8, .int (bI (tn (s 17 mi) = 0)))]) rfl ?_
    exact xx_mono (Nat.le_add_right _ _) (Nat.le_add_right _ _) (kk0)

/-- have the first n cells no holder? -/
def FR (s : SS) (c nc n fr : Nat) : Prop := (fr = 1 ∧ ∀ j, j < n → heldC s (nI (c + j)) nc = -1) ∨ (fr = 0 ∧ ∃ j, j < n ∧ ¬ heldC s (nI (c + j)) nc = -1)
theorem FR.le {s : SS} {c nc n fr : Nat} (h : FR s c nc n fr) : fr ≤ 1 := by
  rcases h with ⟨h, -⟩ | ⟨h, -⟩ <;> omega
theorem FR.free {s : SS} {c nc n fr : Nat} (h : FR s c nc n fr) : freeC s c nc n = 0 ↔ fr = 0 := by
  rcases free_n (s := s) (nc := nc) (c := c) n with ⟨a, b⟩ | ⟨a, j, b, d⟩
  · rcases h with ⟨h, -⟩ | ⟨h, j, h1, h2⟩
    · rw [a]
      exact ⟨fun q => absurd q (by decide), fun q => by omega⟩
    · exact absurd (b j h1) h2
  · rcases h with ⟨-, h2⟩ | ⟨h, -⟩
    · exact absurd (h2 j b) d
    · exact ⟨fun _ => h, fun _ => a⟩
theorem sg_tld_P0 {X : XS} {G : GG} {w : va_W} {Q : State → Prop} {r : Nat → Nat} {s t : SS} {nm nc nr k B D : Nat} {X0 how : Nat} {mi yy : Nat} (C : Cx X G cL_isTold 15 RL (Option.some Jvm.ClassFile.FieldType.boolean) r_L_isTold "isTold" []) (hW : Wd G r s t nm nc nr w) (hJ : Js s nm nc nr k) (hMi : MiOK G) (hk : k ≤ 130) (hT : K9 s t nm nc nr k) (hX : X0 < 100000000) (hhow : how < 46) (hmi : mi < nm) (hyy : yy < 100000000) (hKc : B + 0 ≤ r_L_isTold.cells) (hKn : D + 0 ≤ r_L_isTold.slots) (kk : ∀ ce, ce < 40 → ∀ m0, m0 < 10 → V X G 15 w (B + 0) (D + 0) Q 242 [(0, .ref (r 4)), (1, .ref (r 0)), (2, .ref (r 1)), (3, .ref (r 2)), (4, .int (nI (how))), (5, .int (nI (X0))), (6, .int (nI (mi))), (7, .int (nI (yy))), (8, .int (bI (tn (s 17 mi) = 0))), (9, .int (nI (ce)))] [.int (nI (m0)), .int (1)]) : V X G 15 w B D Q 214 [(0, .ref (r 4)), (1, .ref (r 0)), (2, .ref (r 1)), (3, .ref (r 2)), (4, .int (nI (how))), (5, .int (nI (X0))), (6, .int (nI (mi))), (7, .int (nI (yy))), (8, .int (bI (tn (s 17 mi) = 0)))] [] := by
  have hst : X.2.1.stackTraces = false := C.2.2.2.2.2.1
  have hG : GOK G := C.2.2.2.2.2.2.2.2.2.1
  have hm := hJ.1.1
  refine v_iload C dL_isTold_214 rfl 7 rfl ?_
  refine v_bipush C (v := 40) dL_isTold_216 rfl rfl ?_
  refine v_iremN C yy 40 rfl rfl (by omega) (by omega) (by omega) dL_isTold_218 rfl ?_
  have hce : yy % 40 < 40 := by omega
  generalize yy % 40 = ce at hce ⊢
  refine v_istore C (lv1 := [(9, .int (nI (ce))), (0, .ref (r 4)), (1, .ref (r 0)), (2, .ref (r 1)), (3, .ref (r 2)), (4, .int (nI (how))), (5, .int (nI (X0))), (6, .int (nI (mi))), (7, .int (nI (yy))), (8, .int (bI (tn (s 17 mi) = 0)))]) dL_isTold_219 rfl (by decide) rfl ?_
  refine v_iconst C (v := 1) dL_isTold_221 rfl rfl ?_
  refine v_iload C dL_isTold_222 rfl 8 rfl ?_
  refine v_bipush C (v := 40) dL_isTold_224 rfl rfl ?_
  refine v_idivN C yy 40 rfl rfl (by omega) (by omega) (by omega) dL_isTold_226 rfl ?_
  refine v_iload C dL_isTold_227 rfl 8 rfl ?_
  refine v_bipush C (v := 6) dL_isTold_229 rfl rfl ?_
  refine v_iremN C yy 6 rfl rfl (by omega) (by omega) (by omega) dL_isTold_231 rfl ?_
  refine v_ifN_ne C (t := 240) (yy % 6) rfl (by omega) dL_isTold_232 rfl rfl (fun h1 => ?_) (fun h1 => ?_)
  · skip
    refine v_iconst C (v := 4) dL_isTold_240 rfl rfl ?_
    refine v_iremN C (yy / 40) 4 rfl rfl (by omega) (by omega) (by omega) dL_isTold_241 rfl ?_
    refine xx_lv [1, 2, 3, 4, 5, 6, 7, 8, 9, 0] (lv' := [(0, .ref (r 4)), (1, .ref (r 0)), (2, .ref (r 1)), (3, .ref (r 2)), (4, .int (nI (how))), (5, .int (nI (X0))), (6, .int (nI (mi))), (7, .int (nI (yy))), (8, .int (bI (tn (s 17 mi) = 0))), (9, .int (nI (ce)))]) rfl ?_
    exact xx_mono (Nat.le_add_right _ _) (Nat.le_add_right _ _) (kk ce hce ((yy / 40) % 4) (by omega))
  · skip
    refine v_bipush C (v := 10) dL_isTold_235 rfl rfl ?_
    refine v_goto C (q := 241) dL_isTold_237 rfl ?_
    refine v_iremN C (yy / 40) 10 rfl rfl (by omega) (by omega) (by omega) dL_isTold_241 rfl ?_
    refine xx_lv [1, 2, 3, 4, 5, 6, 7, 8, 9, 0] (lv' := [(0, .ref (r 4)), (1, .ref (r 0)), (2, .ref (r 1)), (3, .ref (r 2)), (4, .int (nI (how))), (5, .int (nI (X0))), (6, .int (nI (mi))), (7, .int (nI (yy))), (8, .int (bI (tn (s 17 mi) = 0))), (9, .int (nI (ce)))]) rfl ?_
    exact xx_mono (Nat.le_add_right _ _) (Nat.le_add_right _ _) (kk ce hce ((yy / 40) % 10) (by omega))

theorem sg_tld_P1 {X : XS} {G : GG} {w : va_W} {Q : State → Prop} {r : Nat → Nat} {s t : SS} {nm nc nr k B D : Nat} {X0 how : Nat} {mi yy : Nat} {ce m0 : Nat} (C : Cx X G cL_isTold 15 RL (Option.some Jvm.ClassFile.FieldType.boolean) r_L_isTold "isTold" []) (hW : Wd G r s t nm nc nr w) (hJ : Js s nm nc nr k) (hMi : MiOK G) (hk : k ≤ 130) (hT : K9 s t nm nc nr k) (hX : X0 < 100000000) (hhow : how < 46) (hmi : mi < nm) (hyy : yy < 100000000) (hce : ce < 40) (hm0 : m0 < 10) (hKc : B + 0 ≤ r_L_isTold.cells) (hKn : D + 0 ≤ r_L_isTold.slots) (kk : V X G 15 w (B + 0) (D + 0) Q 252 [(0, .ref (r 4)), (1, .ref (r 0)), (2, .ref (r 1)), (3, .ref (r 2)), (4, .int (nI (how))), (5, .int (nI (X0))), (6, .int (nI (mi))), (7, .int (nI (yy))), (8, .int (bI (tn (s 17 mi) = 0))), (9, .int (nI (ce))), (10, .int (nI (1 + m0))), (11, .int (nI (1))), (12, .int (nI (ce + 0)))] []) : V X G 15 w B D Q 242 [(0, .ref (r 4)), (1, .ref (r 0)), (2, .ref (r 1)), (3, .ref (r 2)), (4, .int (nI (how))), (5, .int (nI (X0))), (6, .int (nI (mi))), (7, .int (nI (yy))), (8, .int (bI (tn (s 17 mi) = 0))), (9, .int (nI (ce)))] [.int (nI (m0)), .int (1)] := by
  have hst : X.2.1.stackTraces = false := C.2.2.2.2.2.1
  have hG : GOK G := C.2.2.2.2.2.2.2.2.2.1
  have hm := hJ.1.1
  refine v_iaddN C 1 m0 rfl rfl dL_isTold_242 rfl ?_
  refine v_istore C (lv1 := [(10, .int (nI (1 + m0))), (0, .ref (r 4)), (1, .ref (r 0)), (2, .ref (r 1)), (3, .ref (r 2)), (4, .int (nI (how))), (5, .int (nI (X0))), (6, .int (nI (mi))), (7, .int (nI (yy))), (8, .int (bI (tn (s 17 mi) = 0))), (9, .int (nI (ce)))]) dL_isTold_243 rfl (by decide) rfl ?_
  refine v_iconst C (v := 1) dL_isTold_245 rfl rfl ?_
  refine v_istore C (lv1 := [(11, .int (1)), (10, .int (nI (1 + m0))), (0, .ref (r 4)), (1, .ref (r 0)), (2, .ref (r 1)), (3, .ref (r 2)), (4, .int (nI (how))), (5, .int (nI (X0))), (6, .int (nI (mi))), (7, .int (nI (yy))), (8, .int (bI (tn (s 17 mi) = 0))), (9, .int (nI (ce)))]) dL_isTold_246 rfl (by decide) rfl ?_
  refine v_iload C dL_isTold_248 rfl 11 rfl ?_
  refine v_istore C (lv1 := [(12, .int (nI (ce))), (11, .int (1)), (10, .int (nI (1 + m0))), (0, .ref (r 4)), (1, .ref (r 0)), (2, .ref (r 1)), (3, .ref (r 2)), (4, .int (nI (how))), (5, .int (nI (X0))), (6, .int (nI (mi))), (7, .int (nI (yy))), (8, .int (bI (tn (s 17 mi) = 0))), (9, .int (nI (ce)))]) dL_isTold_250 rfl (by decide) rfl ?_
  refine xx_lv [3, 4, 5, 6, 7, 8, 9, 10, 11, 12, 2, 1, 0] (lv' := [(0, .ref (r 4)), (1, .ref (r 0)), (2, .ref (r 1)), (3, .ref (r 2)), (4, .int (nI (how))), (5, .int (nI (X0))), (6, .int (nI (mi))), (7, .int (nI (yy))), (8, .int (bI (tn (s 17 mi) = 0))), (9, .int (nI (ce))), (10, .int (nI (1 + m0))), (11, .int (nI (1))), (12, .int (nI (ce + 0)))]) rfl ?_
  exact xx_mono (Nat.le_add_right _ _) (Nat.le_add_right _ _) (kk)

theorem sg_tld_P2 {X : XS} {G : GG} {w : va_W} {Q : State → Prop} {r : Nat → Nat} {s t : SS} {nm nc nr k B D : Nat} {X0 how : Nat} {mi yy : Nat} {ce mn : Nat} {i fr : Nat} (C : Cx X G cL_isTold 15 RL (Option.some Jvm.ClassFile.FieldType.boolean) r_L_isTold "isTold" []) (hW : Wd G r s t nm nc nr w) (hJ : Js s nm nc nr k) (hMi : MiOK G) (hk : k ≤ 130) (hT : K9 s t nm nc nr k) (hX : X0 < 100000000) (hhow : how < 46) (hmi : mi < nm) (hyy : yy < 100000000) (hce : ce < 40) (hmn1 : 1 ≤ mn) (hmn : mn ≤ 10) (hi0 : i ≤ mn) (hi1 : ce + i ≤ 40) (hfr : FR s ce nc i fr) (hKc : B + 1 ≤ r_L_isTold.cells) (hKn : D + 6 ≤ r_L_isTold.slots) (ih : i < mn → ce + i < 40 → ∀ fr1, FR s ce nc (i + 1) fr1 → V X G 15 w (B + 1) (D + 6) Q 252 [(0, .ref (r 4)), (1, .ref (r 0)), (2, .ref (r 1)), (3, .ref (r 2)), (4, .int (nI (how))), (5, .int (nI (X0))), (6, .int (nI (mi))), (7, .int (nI (yy))), (8, .int (bI (tn (s 17 mi) = 0))), (9, .int (nI (ce))), (10, .int (nI (mn))), (11, .int (nI (fr1))), (12, .int (nI (ce + (i + 1))))] []) (kk : ∀ n, (n = mn ∨ n < mn ∧ ce + n = 40) → ∀ fr1, FR s ce nc n fr1 → V X G 15 w (B + 1) (D + 6) Q 296 [(0, .ref (r 4)), (1, .ref (r 0)), (2, .ref (r 1)), (3, .ref (r 2)), (4, .int (nI (how))), (5, .int (nI (X0))), (6, .int (nI (mi))), (7, .int (nI (yy))), (8, .int (bI (tn (s 17 mi) = 0))), (9, .int (nI (ce))), (10, .int (nI (mn))), (11, .int (nI (fr1)))] []) : V X G 15 w B D Q 252 [(0, .ref (r 4)), (1, .ref (r 0)), (2, .ref (r 1)), (3, .ref (r 2)), (4, .int (nI (how))), (5, .int (nI (X0))), (6, .int (nI (mi))), (7, .int (nI (yy))), (8, .int (bI (tn (s 17 mi) = 0))), (9, .int (nI (ce))), (10, .int (nI (mn))), (11, .int (nI (fr))), (12, .int (nI (ce + i)))] [] := by
  have hst : X.2.1.stackTraces = false := C.2.2.2.2.2.1
  have hG : GOK G := C.2.2.2.2.2.2.2.2.2.1
  have hm := hJ.1.1
  have hfl := hfr.le
  refine v_iload C dL_isTold_252 rfl 12 rfl ?_
  refine v_iload C dL_isTold_254 rfl 9 rfl ?_
  refine v_iload C dL_isTold_256 rfl 10 rfl ?_
  refine v_iaddN C ce mn rfl rfl dL_isTold_258 rfl ?_
  refine v_icN_ge C (t := 296) (ce + i) (ce + mn) rfl rfl (by omega) (by omega) dL_isTold_259 rfl rfl (fun h1 => ?_) (fun h1 => ?_)
  · skip
    refine xx_lv [0, 1, 2, 3, 4, 5, 6, 7, 8, 9, 10, 11] (lv' := [(0, .ref (r 4)), (1, .ref (r 0)), (2, .ref (r 1)), (3, .ref (r 2)), (4, .int (nI (how))), (5, .int (nI (X0))), (6, .int (nI (mi))), (7, .int (nI (yy))), (8, .int (bI (tn (s 17 mi) = 0))), (9, .int (nI (ce))), (10, .int (nI (mn))), (11, .int (nI (fr)))]) rfl ?_
    exact xx_mono (Nat.le_add_right _ _) (Nat.le_add_right _ _) (kk i (by omega) _ hfr)
  · skip
    refine v_iload C dL_isTold_262 rfl 12 rfl ?_
    refine v_bipush C (v := 40) dL_isTold_264 rfl rfl ?_
    refine v_icN_ge C (t := 296) (ce + i) 40 rfl rfl (by omega) (by omega) dL_isTold_266 rfl rfl (fun h2 => ?_) (fun h2 => ?_)
    · skip
      refine xx_lv [0, 1, 2, 3, 4, 5, 6, 7, 8, 9, 10, 11] (lv' := [(0, .ref (r 4)), (1, .ref (r 0)), (2, .ref (r 1)), (3, .ref (r 2)), (4, .int (nI (how))), (5, .int (nI (X0))), (6, .int (nI (mi))), (7, .int (nI (yy))), (8, .int (bI (tn (s 17 mi) = 0))), (9, .int (nI (ce))), (10, .int (nI (mn))), (11, .int (nI (fr)))]) rfl ?_
      exact xx_mono (Nat.le_add_right _ _) (Nat.le_add_right _ _) (kk i (by omega) _ hfr)
    · skip
      have hi40 : ce + i < 40 := by omega
      have hhc := held_c hi40 hm.2.1 hJ.2.2.2.2.2.2.1
      rcases hfr with ⟨hf1, hf2⟩ | ⟨hf1, hf2⟩
      · skip
        rcases hhc with ⟨hh, -⟩ | ⟨hj, hh1, hh, -⟩
        · skip
          refine v_iload C dL_isTold_269 rfl 11 rfl ?_
          refine v_ifN_eq C (t := 287) fr rfl (by omega) dL_isTold_271 rfl rfl (fun h => ((by omega : False)).elim) (fun _ => ?_)
          refine v_aload_n C dL_isTold_274 rfl 0 rfl ?_
          refine v_iload C dL_isTold_275 rfl 12 rfl ?_
          refine q_holds C hW hJ (i := ce + i) (by omega) (B + 1) (D + 6) ⟨⟨Nat.le_refl _, bl hKc (Nat.le_of_ble_eq_true rfl)⟩, Nat.le_refl _, bl hKn (Nat.le_of_ble_eq_true rfl)⟩ rfl dL_isTold_277 rfl ?_
          refine xx_top (y := -1) hh ?_
          refine v_if_ge C (t := 287) dL_isTold_280 rfl rfl (fun h => absurd h (by decide)) (fun _ => ?_)
          refine v_iconst C (v := 1) dL_isTold_283 rfl rfl ?_
          refine v_goto C (q := 288) dL_isTold_284 rfl ?_
          refine v_istore C (lv1 := [(11, .int (1)), (0, .ref (r 4)), (1, .ref (r 0)), (2, .ref (r 1)), (3, .ref (r 2)), (4, .int (nI (how))), (5, .int (nI (X0))), (6, .int (nI (mi))), (7, .int (nI (yy))), (8, .int (bI (tn (s 17 mi) = 0))), (9, .int (nI (ce))), (10, .int (nI (mn))), (12, .int (nI (ce + i)))]) dL_isTold_288 rfl (by decide) rfl ?_
          refine v_iincN C (lv1 := [(12, .int (nI (ce + i + 1))), (11, .int (1)), (0, .ref (r 4)), (1, .ref (r 0)), (2, .ref (r 1)), (3, .ref (r 2)), (4, .int (nI (how))), (5, .int (nI (X0))), (6, .int (nI (mi))), (7, .int (nI (yy))), (8, .int (bI (tn (s 17 mi) = 0))), (9, .int (nI (ce))), (10, .int (nI (mn)))]) (ce + i) rfl dL_isTold_290 rfl 12 rfl (by decide) rfl ?_
          refine v_goto C (q := 252) dL_isTold_293 rfl ?_
          refine xx_lv [2, 3, 4, 5, 6, 7, 8, 9, 10, 11, 12, 1, 0] (lv' := [(0, .ref (r 4)), (1, .ref (r 0)), (2, .ref (r 1)), (3, .ref (r 2)), (4, .int (nI (how))), (5, .int (nI (X0))), (6, .int (nI (mi))), (7, .int (nI (yy))), (8, .int (bI (tn (s 17 mi) = 0))), (9, .int (nI (ce))), (10, .int (nI (mn))), (11, .int (nI (1))), (12, .int (nI (ce + (i + 1))))]) rfl ?_
          exact xx_mono (bm (Nat.le_of_ble_eq_true rfl)) (bm (Nat.le_of_ble_eq_true rfl)) (ih (by omega) (by omega) _ (Or.inl ⟨rfl, fun j hj => dite (j = i) (fun e => by rw [e]; exact hh) (fun e => hf2 j (by omega))⟩))
        · skip
          refine v_iload C dL_isTold_269 rfl 11 rfl ?_
          refine v_ifN_eq C (t := 287) fr rfl (by omega) dL_isTold_271 rfl rfl (fun h => ((by omega : False)).elim) (fun _ => ?_)
          refine v_aload_n C dL_isTold_274 rfl 0 rfl ?_
          refine v_iload C dL_isTold_275 rfl 12 rfl ?_
          refine q_holds C hW hJ (i := ce + i) (by omega) (B + 1) (D + 6) ⟨⟨Nat.le_refl _, bl hKc (Nat.le_of_ble_eq_true rfl)⟩, Nat.le_refl _, bl hKn (Nat.le_of_ble_eq_true rfl)⟩ rfl dL_isTold_277 rfl ?_
          refine xx_top (y := nI hj) hh ?_
          refine v_if_ge C (t := 287) dL_isTold_280 rfl rfl (fun _ => ?_) (fun h => absurd (nI_pos' (by omega)) h)
          refine v_iconst C (v := 0) dL_isTold_287 rfl rfl ?_
          refine v_istore C (lv1 := [(11, .int (0)), (0, .ref (r 4)), (1, .ref (r 0)), (2, .ref (r 1)), (3, .ref (r 2)), (4, .int (nI (how))), (5, .int (nI (X0))), (6, .int (nI (mi))), (7, .int (nI (yy))), (8, .int (bI (tn (s 17 mi) = 0))), (9, .int (nI (ce))), (10, .int (nI (mn))), (12, .int (nI (ce + i)))]) dL_isTold_288 rfl (by decide) rfl ?_
          refine v_iincN C (lv1 := [(12, .int (nI (ce + i + 1))), (11, .int (0)), (0, .ref (r 4)), (1, .ref (r 0)), (2, .ref (r 1)), (3, .ref (r 2)), (4, .int (nI (how))), (5, .int (nI (X0))), (6, .int (nI (mi))), (7, .int (nI (yy))), (8, .int (bI (tn (s 17 mi) = 0))), (9, .int (nI (ce))), (10, .int (nI (mn)))]) (ce + i) rfl dL_isTold_290 rfl 12 rfl (by decide) rfl ?_
          refine v_goto C (q := 252) dL_isTold_293 rfl ?_
          refine xx_lv [2, 3, 4, 5, 6, 7, 8, 9, 10, 11, 12, 1, 0] (lv' := [(0, .ref (r 4)), (1, .ref (r 0)), (2, .ref (r 1)), (3, .ref (r 2)), (4, .int (nI (how))), (5, .int (nI (X0))), (6, .int (nI (mi))), (7, .int (nI (yy))), (8, .int (bI (tn (s 17 mi) = 0))), (9, .int (nI (ce))), (10, .int (nI (mn))), (11, .int (nI (0))), (12, .int (nI (ce + (i + 1))))]) rfl ?_
          exact xx_mono (bm (Nat.le_of_ble_eq_true rfl)) (bm (Nat.le_of_ble_eq_true rfl)) (ih (by omega) (by omega) _ (Or.inr ⟨rfl, i, by omega, fun q => nI_m1 (n := hj) (by omega) (hh.symm.trans q)⟩))
      · skip
        refine v_iload C dL_isTold_269 rfl 11 rfl ?_
        refine v_ifN_eq C (t := 287) fr rfl (by omega) dL_isTold_271 rfl rfl (fun _ => ?_) (fun h => ((by omega : False)).elim)
        refine v_iconst C (v := 0) dL_isTold_287 rfl rfl ?_
        refine v_istore C (lv1 := [(11, .int (0)), (0, .ref (r 4)), (1, .ref (r 0)), (2, .ref (r 1)), (3, .ref (r 2)), (4, .int (nI (how))), (5, .int (nI (X0))), (6, .int (nI (mi))), (7, .int (nI (yy))), (8, .int (bI (tn (s 17 mi) = 0))), (9, .int (nI (ce))), (10, .int (nI (mn))), (12, .int (nI (ce + i)))]) dL_isTold_288 rfl (by decide) rfl ?_
        refine v_iincN C (lv1 := [(12, .int (nI (ce + i + 1))), (11, .int (0)), (0, .ref (r 4)), (1, .ref (r 0)), (2, .ref (r 1)), (3, .ref (r 2)), (4, .int (nI (how))), (5, .int (nI (X0))), (6, .int (nI (mi))), (7, .int (nI (yy))), (8, .int (bI (tn (s 17 mi) = 0))), (9, .int (nI (ce))), (10, .int (nI (mn)))]) (ce + i) rfl dL_isTold_290 rfl 12 rfl (by decide) rfl ?_
        refine v_goto C (q := 252) dL_isTold_293 rfl ?_
        refine xx_lv [2, 3, 4, 5, 6, 7, 8, 9, 10, 11, 12, 1, 0] (lv' := [(0, .ref (r 4)), (1, .ref (r 0)), (2, .ref (r 1)), (3, .ref (r 2)), (4, .int (nI (how))), (5, .int (nI (X0))), (6, .int (nI (mi))), (7, .int (nI (yy))), (8, .int (bI (tn (s 17 mi) = 0))), (9, .int (nI (ce))), (10, .int (nI (mn))), (11, .int (nI (0))), (12, .int (nI (ce + (i + 1))))]) rfl ?_
        exact xx_mono (Nat.le_add_right _ _) (Nat.le_add_right _ _) (ih (by omega) (by omega) _ (Or.inr ⟨rfl, by obtain ⟨j, h1, h2⟩ := hf2; exact ⟨j, by omega, h2⟩⟩))

theorem lp_tld_P {X : XS} {G : GG} {w : va_W} {Q : State → Prop} {r : Nat → Nat} {s t : SS} {nm nc nr k B D : Nat} {X0 how mi yy ce mn : Nat} (C : Cx X G cL_isTold 15 RL (Option.some Jvm.ClassFile.FieldType.boolean) r_L_isTold "isTold" []) (hW : Wd G r s t nm nc nr w) (hJ : Js s nm nc nr k) (hMi : MiOK G) (hk : k ≤ 130) (hT : K9 s t nm nc nr k) (hX : X0 < 100000000) (hhow : how < 46) (hmi : mi < nm) (hyy : yy < 100000000) (hce : ce < 40) (hmn1 : 1 ≤ mn) (hmn : mn ≤ 10) (hKc : B + 11 ≤ r_L_isTold.cells) (hKn : D + 66 ≤ r_L_isTold.slots) (kk : ∀ n, (n = mn ∨ n < mn ∧ ce + n = 40) → ∀ fr1, FR s ce nc n fr1 → V X G 15 w (B + 11) (D + 66) Q 296 [(0, .ref (r 4)), (1, .ref (r 0)), (2, .ref (r 1)), (3, .ref (r 2)), (4, .int (nI (how))), (5, .int (nI (X0))), (6, .int (nI (mi))), (7, .int (nI (yy))), (8, .int (bI (tn (s 17 mi) = 0))), (9, .int (nI (ce))), (10, .int (nI (mn))), (11, .int (nI (fr1)))] []) : V X G 15 w B D Q 252 [(0, .ref (r 4)), (1, .ref (r 0)), (2, .ref (r 1)), (3, .ref (r 2)), (4, .int (nI (how))), (5, .int (nI (X0))), (6, .int (nI (mi))), (7, .int (nI (yy))), (8, .int (bI (tn (s 17 mi) = 0))), (9, .int (nI (ce))), (10, .int (nI (mn))), (11, .int (nI (1))), (12, .int (nI (ce + 0)))] [] := by
  have key := ind_up (α := Nat) (P := fun i fr => ce + i ≤ 40 → FR s ce nc i fr → V X G 15 w (B + 1 * i) (D + 6 * i) Q 252 [(0, .ref (r 4)), (1, .ref (r 0)), (2, .ref (r 1)), (3, .ref (r 2)), (4, .int (nI (how))), (5, .int (nI (X0))), (6, .int (nI (mi))), (7, .int (nI (yy))), (8, .int (bI (tn (s 17 mi) = 0))), (9, .int (nI (ce))), (10, .int (nI (mn))), (11, .int (nI (fr))), (12, .int (nI (ce + i)))] []) mn (fun i fr hi ih hi1 hfr => sg_tld_P2 C hW hJ hMi hk hT hX hhow hmi hyy hce hmn1 hmn hi hi1 hfr (by omega) (by omega) (fun h h2 fr1 h3 => xx_mono (by omega) (by omega) (ih h fr1 (by omega) h3)) (fun n hn fr1 h3 => xx_mono (by omega) (by omega) (kk n hn fr1 h3)))
  exact key 0 1 (by omega) (by omega) (Or.inl ⟨rfl, fun j hj => absurd hj (Nat.not_lt_zero j)⟩)

theorem sg_tld_P3 {X : XS} {G : GG} {w : va_W} {Q : State → Prop} {r : Nat → Nat} {s t : SS} {nm nc nr k B D : Nat} {X0 how : Nat} {mi yy : Nat} {ce mn : Nat} {fr : Nat} (C : Cx X G cL_isTold 15 RL (Option.some Jvm.ClassFile.FieldType.boolean) r_L_isTold "isTold" []) (hW : Wd G r s t nm nc nr w) (hJ : Js s nm nc nr k) (hMi : MiOK G) (hk : k ≤ 130) (hT : K9 s t nm nc nr k) (hX : X0 < 100000000) (hhow : how < 46) (hmi : mi < nm) (hyy : yy < 100000000) (hce : ce < 40) (hmn1 : 1 ≤ mn) (hmn : mn ≤ 10) (hfl : fr ≤ 1) (hKc : B + 1 ≤ r_L_isTold.cells) (hKn : D + 6 ≤ r_L_isTold.slots) (kk : V X G 15 w (B + 1) (D + 6) Q 329 [(0, .ref (r 4)), (1, .ref (r 0)), (2, .ref (r 1)), (3, .ref (r 2)), (4, .int (nI (how))), (5, .int (nI (X0))), (6, .int (nI (mi))), (7, .int (nI (yy))), (8, .int (bI (tn (s 17 mi) = 0))), (9, .int (nI (ce))), (10, .int (nI (mn))), (11, .int (nI (fr)))] [.int (bI (¬ tn (s 17 mi) = 0 ∧ mn ≤ tn (s 2 0) ∧ fr = 1 ∧ nc < 30))]) : V X G 15 w B D Q 296 [(0, .ref (r 4)), (1, .ref (r 0)), (2, .ref (r 1)), (3, .ref (r 2)), (4, .int (nI (how))), (5, .int (nI (X0))), (6, .int (nI (mi))), (7, .int (nI (yy))), (8, .int (bI (tn (s 17 mi) = 0))), (9, .int (nI (ce))), (10, .int (nI (mn))), (11, .int (nI (fr)))] [] := by
  have hst : X.2.1.stackTraces = false := C.2.2.2.2.2.1
  have hG : GOK G := C.2.2.2.2.2.2.2.2.2.1
  have hm := hJ.1.1
  have h2b := hJ.1.2.2.2.1
  have h17b := (hJ.m17 hmi).2
  refine v_iload C dL_isTold_296 rfl 8 rfl ?_
  refine v_ifB_ne C (t := 328) dL_isTold_298 rfl rfl (fun h1 => ?_) (fun h1 => ?_)
  · skip
    refine v_iconst C (v := 0) dL_isTold_328 rfl rfl ?_
    refine xx_top (y := bI (¬ tn (s 17 mi) = 0 ∧ mn ≤ tn (s 2 0) ∧ fr = 1 ∧ nc < 30)) (bI_f (by omega)).symm ?_
    refine xx_lv [0, 1, 2, 3, 4, 5, 6, 7, 8, 9, 10, 11] (lv' := [(0, .ref (r 4)), (1, .ref (r 0)), (2, .ref (r 1)), (3, .ref (r 2)), (4, .int (nI (how))), (5, .int (nI (X0))), (6, .int (nI (mi))), (7, .int (nI (yy))), (8, .int (bI (tn (s 17 mi) = 0))), (9, .int (nI (ce))), (10, .int (nI (mn))), (11, .int (nI (fr)))]) rfl ?_
    exact xx_mono (Nat.le_add_right _ _) (Nat.le_add_right _ _) (kk)
  · skip
    refine v_iload C dL_isTold_301 rfl 10 rfl ?_
    refine v_aload_n C dL_isTold_303 rfl 0 rfl ?_
    refine v_iconst C (v := 0) dL_isTold_304 rfl rfl ?_
    refine q_p0 C hW hJ (B + 1) (D + 6) ⟨⟨Nat.le_refl _, bl hKc (Nat.le_of_ble_eq_true rfl)⟩, Nat.le_refl _, bl hKn (Nat.le_of_ble_eq_true rfl)⟩ rfl dL_isTold_305 rfl (fun b2 => ?_)
    refine v_icN_gt C (t := 328) mn (tn (s 2 0)) rfl rfl (by omega) (by omega) dL_isTold_308 rfl rfl (fun h3 => ?_) (fun h3 => ?_)
    · skip
      refine v_iconst C (v := 0) dL_isTold_328 rfl rfl ?_
      refine xx_top (y := bI (¬ tn (s 17 mi) = 0 ∧ mn ≤ tn (s 2 0) ∧ fr = 1 ∧ nc < 30)) (bI_f (by omega)).symm ?_
      refine xx_lv [0, 1, 2, 3, 4, 5, 6, 7, 8, 9, 10, 11] (lv' := [(0, .ref (r 4)), (1, .ref (r 0)), (2, .ref (r 1)), (3, .ref (r 2)), (4, .int (nI (how))), (5, .int (nI (X0))), (6, .int (nI (mi))), (7, .int (nI (yy))), (8, .int (bI (tn (s 17 mi) = 0))), (9, .int (nI (ce))), (10, .int (nI (mn))), (11, .int (nI (fr)))]) rfl ?_
      exact xx_mono (bm (Nat.le_of_ble_eq_true rfl)) (bm (Nat.le_of_ble_eq_true rfl)) (kk)
    · skip
      refine v_iload C dL_isTold_311 rfl 11 rfl ?_
      refine v_ifN_eq C (t := 328) fr rfl (by omega) dL_isTold_313 rfl rfl (fun h4 => ?_) (fun h4 => ?_)
      · skip
        refine v_iconst C (v := 0) dL_isTold_328 rfl rfl ?_
        refine xx_top (y := bI (¬ tn (s 17 mi) = 0 ∧ mn ≤ tn (s 2 0) ∧ fr = 1 ∧ nc < 30)) (bI_f (by omega)).symm ?_
        refine xx_lv [0, 1, 2, 3, 4, 5, 6, 7, 8, 9, 10, 11] (lv' := [(0, .ref (r 4)), (1, .ref (r 0)), (2, .ref (r 1)), (3, .ref (r 2)), (4, .int (nI (how))), (5, .int (nI (X0))), (6, .int (nI (mi))), (7, .int (nI (yy))), (8, .int (bI (tn (s 17 mi) = 0))), (9, .int (nI (ce))), (10, .int (nI (mn))), (11, .int (nI (fr)))]) rfl ?_
        exact xx_mono (bm (Nat.le_of_ble_eq_true rfl)) (bm (Nat.le_of_ble_eq_true rfl)) (kk)
      · skip
        refine v_aload_n C dL_isTold_316 rfl 1 rfl ?_
        refine v_iconst C (v := 1) dL_isTold_317 rfl rfl ?_
        refine v_mld C hW 0 (by decide) 1 (show 1 < 6 by omega) dL_isTold_318 rfl ?_
        refine xx_top (y := nI (nc)) hT.1.2.1 ?_
        refine v_bipush C (v := 30) dL_isTold_319 rfl rfl ?_
        refine xx_sel (P := nc < 30) 329 [] ?_ (fun jj => ?_)
        · skip
          refine xx_top (y := bI (¬ tn (s 17 mi) = 0 ∧ mn ≤ tn (s 2 0) ∧ fr = 1 ∧ nc < 30)) (bI_iff (by omega)) ?_
          refine xx_lv [0, 1, 2, 3, 4, 5, 6, 7, 8, 9, 10, 11] (lv' := [(0, .ref (r 4)), (1, .ref (r 0)), (2, .ref (r 1)), (3, .ref (r 2)), (4, .int (nI (how))), (5, .int (nI (X0))), (6, .int (nI (mi))), (7, .int (nI (yy))), (8, .int (bI (tn (s 17 mi) = 0))), (9, .int (nI (ce))), (10, .int (nI (mn))), (11, .int (nI (fr)))]) rfl ?_
          exact xx_mono (bm (Nat.le_of_ble_eq_true rfl)) (bm (Nat.le_of_ble_eq_true rfl)) (kk)
        refine v_icN_ge C (t := 328) nc 30 rfl rfl (by omega) (by omega) dL_isTold_321 rfl rfl (fun h5 => ?_) (fun h5 => ?_)
        · skip
          refine v_iconst C (v := 0) dL_isTold_328 rfl rfl ?_
          exact jj _ (bI_f (by first | assumption | omega)).symm
        · skip
          refine v_iconst C (v := 1) dL_isTold_324 rfl rfl ?_
          refine v_goto C (q := 329) dL_isTold_325 rfl ?_
          exact jj _ (bI_t (by first | assumption | omega)).symm

theorem sg_tld_P4 {X : XS} {G : GG} {w : va_W} {r : Nat → Nat} {s t : SS} {nm nc nr k B D : Nat} {X0 how : Nat} {mi yy : Nat} {ce mn : Nat} {fr : Nat} (C : Cx X G cL_isTold 15 RL (Option.some Jvm.ClassFile.FieldType.boolean) r_L_isTold "isTold" []) (hW : Wd G r s t nm nc nr w) (hJ : Js s nm nc nr k) (hMi : MiOK G) (hk : k ≤ 130) (hT : K9 s t nm nc nr k) (hX : X0 < 100000000) (hhow : how < 46) (hmi : mi < nm) (hyy : yy < 100000000) (hce : ce < 40) (hmn1 : 1 ≤ mn) (hmn : mn ≤ 10) (hfr : FR s ce nc mn fr ∨ 40 < ce + mn) (hKc : B + 14 ≤ r_L_isTold.cells) (hKn : D + 161 ≤ r_L_isTold.slots)  : V X G 15 w B D (Tg X G r_L_isTold (fun v w1 => v = some (.int 1) ∧ Nxt G r nm (k + 1) w1) nX) 329 [(0, .ref (r 4)), (1, .ref (r 0)), (2, .ref (r 1)), (3, .ref (r 2)), (4, .int (nI (how))), (5, .int (nI (X0))), (6, .int (nI (mi))), (7, .int (nI (yy))), (8, .int (bI (tn (s 17 mi) = 0))), (9, .int (nI (ce))), (10, .int (nI (mn))), (11, .int (nI (fr)))] [.int (bI (¬ tn (s 17 mi) = 0 ∧ mn ≤ tn (s 2 0) ∧ fr = 1 ∧ nc < 30))] := by
  have hst : X.2.1.stackTraces = false := C.2.2.2.2.2.1
  have hG : GOK G := C.2.2.2.2.2.2.2.2.2.1
  have hm := hJ.1.1
  have h2b := hJ.1.2.2.2.1
  refine v_istore C (lv1 := [(12, .int (bI (¬ tn (s 17 mi) = 0 ∧ mn ≤ tn (s 2 0) ∧ fr = 1 ∧ nc < 30))), (0, .ref (r 4)), (1, .ref (r 0)), (2, .ref (r 1)), (3, .ref (r 2)), (4, .int (nI (how))), (5, .int (nI (X0))), (6, .int (nI (mi))), (7, .int (nI (yy))), (8, .int (bI (tn (s 17 mi) = 0))), (9, .int (nI (ce))), (10, .int (nI (mn))), (11, .int (nI (fr)))]) dL_isTold_329 rfl (by decide) rfl ?_
  refine v_aload_n C dL_isTold_331 rfl 1 rfl ?_
  refine v_iconst C (v := 5) dL_isTold_332 rfl rfl ?_
  refine v_iload C dL_isTold_333 rfl 7 rfl ?_
  refine v_iload C dL_isTold_335 rfl 10 rfl ?_
  refine v_iload C dL_isTold_337 rfl 11 rfl ?_
  refine v_iconst C (v := 0) dL_isTold_339 rfl rfl ?_
  by_cases hin : ce + mn ≤ 40
  · skip
    by_cases hcan : ¬ tn (s 17 mi) = 0 ∧ mn ≤ tn (s 2 0) ∧ fr = 1 ∧ nc < 30
    · skip
      replace hfr := hfr.resolve_right (by omega)
      have hfl := hfr.le
      have hP_ := P_peg hJ hT hcan.2.2.2 hmi hmn1 hmn hin (fun q => hcan.1 ((hJ.m17 hmi).1.eq0.mp q)) (Or.elim hfr (fun h => h.2) (fun h => absurd hcan.2.2.1 (by have := h.1; omega)))
      refine l_actK C (ao_peg (s := s) (nm := nm) (nc := nc) (nr := nr) hst hG hMi hW hJ.bs (e3_0 ⟨(mi_of hW.cnt.1 hmi (by omega)), cell_in hce, (by rw [show (40 : Int32) = nI 40 from rfl, pk_sub (show ce ≤ 40 by omega), nI_leI (by omega) (by omega)]; omega)⟩ ⟨nI_le (a := 1) (by omega) (by omega), nI_le (b := 10) (by omega) (by omega)⟩ (by rw [tn_nI (show ce < 2 ^ 31 by omega), tn_nI (show mn < 2 ^ 31 by omega), tn_nI (show mi < 2 ^ 31 by omega), (hJ.m17 hmi).1.eq0, ((hJ.1.2.2.2.1.1).ltc (n := mn) (by omega)), hfr.free]; omega))) (B + 7) (D + 119) ⟨⟨Nat.le_refl _, bl hKc (Nat.le_of_ble_eq_true rfl)⟩, Nat.le_refl _, bl hKn (Nat.le_of_ble_eq_true rfl)⟩ rfl dL_isTold_340 rfl (fun v_ w2 hv1 => ?_)
      obtain ⟨rfl, hW3⟩ := hv1
      show V X G 15 _ _ _ _ _ _ [.int (nI (nc))]
      generalize pegS s nc (nI (mi)) (nI (ce)) (nI (mn)) = s1 at hP_ hW3
      obtain ⟨hJ1, hT1, f1, f2, f3, f4⟩ := hP_
      refine v_istore C (lv1 := [(13, .int (nI (nc))), (12, .int (bI (¬ tn (s 17 mi) = 0 ∧ mn ≤ tn (s 2 0) ∧ fr = 1 ∧ nc < 30))), (0, .ref (r 4)), (1, .ref (r 0)), (2, .ref (r 1)), (3, .ref (r 2)), (4, .int (nI (how))), (5, .int (nI (X0))), (6, .int (nI (mi))), (7, .int (nI (yy))), (8, .int (bI (tn (s 17 mi) = 0))), (9, .int (nI (ce))), (10, .int (nI (mn))), (11, .int (nI (fr)))]) dL_isTold_343 rfl (by decide) rfl ?_
      refine v_aload_n C dL_isTold_345 rfl 3 rfl ?_
      refine v_iconst C (v := 1) dL_isTold_346 rfl rfl ?_
      refine v_dup2 C dL_isTold_347 rfl rfl rfl ?_
      refine v_mld C hW3 0 (by decide) 1 (show 1 < 6 by omega) dL_isTold_348 rfl ?_
      refine xx_top (y := nI (nc)) hT.1.2.1 ?_
      refine v_iload C dL_isTold_349 rfl 0 rfl ?_
      refine v_if_lt C (t := 358) dL_isTold_351 rfl rfl (fun h => absurd h (nI_pos (by omega))) (fun _ => ?_)
      refine v_iconst C (v := 1) dL_isTold_354 rfl rfl ?_
      refine v_goto C (q := 359) dL_isTold_355 rfl ?_
      refine v_iaddN C nc 1 rfl rfl dL_isTold_359 rfl ?_
      refine v_mst C hW3 0 (by decide) 1 (show 1 < 6 by omega) dL_isTold_360 rfl (fun w4 hW5 => ?_)
      refine v_iload C dL_isTold_361 rfl 0 rfl ?_
      refine v_iload C dL_isTold_363 rfl 11 rfl ?_
      refine v_iload C dL_isTold_365 rfl 12 rfl ?_
      refine v_iaddN C ce mn rfl rfl dL_isTold_367 rfl ?_
      refine v_bipush C (v := 40) dL_isTold_368 rfl rfl ?_
      refine v_icN_le C (t := 378) (ce + mn) 40 rfl rfl (by omega) (by omega) dL_isTold_370 rfl rfl (fun _ => ?_) (fun h => ((by omega : False)).elim)
      refine v_iload C dL_isTold_378 rfl 1 rfl ?_
      refine v_ifB_eq C (t := 391) dL_isTold_380 rfl rfl (fun h => absurd hcan h) (fun _ => ?_)
      refine v_aload_n C dL_isTold_383 rfl 3 rfl ?_
      refine v_iconst C (v := 1) dL_isTold_384 rfl rfl ?_
      refine v_mld C hW5 0 (by decide) 1 (show 1 < 6 by omega) dL_isTold_385 rfl ?_
      refine xx_top (y := nI (nc + 1)) (by simp [su, upd]) ?_
      refine v_iconst C (v := 1) dL_isTold_386 rfl rfl ?_
      refine v_isubN C (nc + 1) 1 (by omega) rfl rfl dL_isTold_387 rfl ?_
      refine v_goto C (q := 393) dL_isTold_388 rfl ?_
      refine v_icN_ne C (t := 461) nc ((nc + 1) - 1) rfl rfl (by omega) (by omega) dL_isTold_393 rfl rfl (fun h => (by omega : False).elim) (fun h6 => ?_)
      refine v_iload C dL_isTold_396 rfl 0 rfl ?_
      refine v_if_lt C (t := 457) dL_isTold_398 rfl rfl (fun h => absurd h (nI_pos (by omega))) (fun _ => ?_)
      refine v_aload_n C dL_isTold_401 rfl 2 rfl ?_
      refine v_iload C dL_isTold_402 rfl 11 rfl ?_
      refine q_holds C hW5 hJ1 (i := ce) (by omega) (B + 8) (D + 125) ⟨⟨Nat.le_refl _, bl hKc (Nat.le_of_ble_eq_true rfl)⟩, Nat.le_refl _, bl hKn (Nat.le_of_ble_eq_true rfl)⟩ rfl dL_isTold_404 rfl ?_
      refine xx_top (y := nI nc) f1 ?_
      refine v_iload C dL_isTold_407 rfl 0 rfl ?_
      refine v_icN_ne C (t := 461) nc nc rfl rfl (by omega) (by omega) dL_isTold_409 rfl rfl (fun h => (by omega : False).elim) (fun h7 => ?_)
      refine v_aload_n C dL_isTold_412 rfl 2 rfl ?_
      refine v_iload C dL_isTold_413 rfl 11 rfl ?_
      refine v_iload C dL_isTold_415 rfl 12 rfl ?_
      refine v_iaddN C ce mn rfl rfl dL_isTold_417 rfl ?_
      refine v_iconst C (v := 1) dL_isTold_418 rfl rfl ?_
      refine v_isubN C (ce + mn) 1 (by omega) rfl rfl dL_isTold_419 rfl ?_
      refine q_holds C hW5 hJ1 (i := (ce + mn) - 1) (by omega) (B + 9) (D + 131) ⟨⟨Nat.le_refl _, bl hKc (Nat.le_of_ble_eq_true rfl)⟩, Nat.le_refl _, bl hKn (Nat.le_of_ble_eq_true rfl)⟩ rfl dL_isTold_420 rfl ?_
      refine xx_top (y := nI nc) f2 ?_
      refine v_iload C dL_isTold_423 rfl 0 rfl ?_
      refine v_icN_ne C (t := 461) nc nc rfl rfl (by omega) (by omega) dL_isTold_425 rfl rfl (fun h => (by omega : False).elim) (fun h8 => ?_)
      refine v_aload_n C dL_isTold_428 rfl 2 rfl ?_
      refine v_iload C dL_isTold_429 rfl 0 rfl ?_
      refine v_iconst C (v := 4) dL_isTold_431 rfl rfl ?_
      refine q_c4 C hW5 hJ1 (i := nc) (by omega) (B + 11) (D + 143) ⟨⟨Nat.le_refl _, bl hKc (Nat.le_of_ble_eq_true rfl)⟩, Nat.le_refl _, bl hKn (Nat.le_of_ble_eq_true rfl)⟩ rfl dL_isTold_432 rfl (fun b9 => ?_)
      refine v_aload_n C dL_isTold_435 rfl 2 rfl ?_
      refine q_day C hW5 hJ1 (B + 11) (D + 143) ⟨⟨Nat.le_refl _, bl hKc (Nat.le_of_ble_eq_true rfl)⟩, Nat.le_refl _, bl hKn (Nat.le_of_ble_eq_true rfl)⟩ rfl dL_isTold_436 rfl (fun b10 => ?_)
      refine v_icN_ne C (t := 461) (tn (s1 26 nc)) (tn (s1 0 0)) rfl rfl (by omega) (by omega) dL_isTold_439 rfl rfl (fun h => (by omega : False).elim) (fun h11 => ?_)
      refine v_aload_n C dL_isTold_442 rfl 2 rfl ?_
      refine v_iload C dL_isTold_443 rfl 0 rfl ?_
      refine v_iconst C (v := 5) dL_isTold_445 rfl rfl ?_
      refine q_c5 C hW5 hJ1 (i := nc) (by omega) (B + 13) (D + 155) ⟨⟨Nat.le_refl _, bl hKc (Nat.le_of_ble_eq_true rfl)⟩, Nat.le_refl _, bl hKn (Nat.le_of_ble_eq_true rfl)⟩ rfl dL_isTold_446 rfl (fun b12 => ?_)
      refine v_aload_n C dL_isTold_449 rfl 2 rfl ?_
      refine v_iconst C (v := 1) dL_isTold_450 rfl rfl ?_
      refine q_p1 C hW5 hJ1 (B + 14) (D + 161) ⟨⟨Nat.le_refl _, bl hKc (Nat.le_of_ble_eq_true rfl)⟩, Nat.le_refl _, bl hKn (Nat.le_of_ble_eq_true rfl)⟩ rfl dL_isTold_451 rfl (fun b13 => ?_)
      refine v_icN_ne C (t := 461) (tn (s1 27 nc)) (tn (s1 3 0)) rfl rfl (by omega) (by omega) dL_isTold_454 rfl rfl (fun h => (by omega : False).elim) (fun h14 => ?_)
      refine v_iconst C (v := 1) dL_isTold_457 rfl rfl ?_
      refine v_goto C (q := 462) dL_isTold_458 rfl ?_
      exact v_zret C rfl (bl hKc (Nat.le_of_ble_eq_true rfl)) (bl hKn (Nat.le_of_ble_eq_true rfl)) dL_isTold_462 ⟨rfl, _, _, _, _, _, hW5, hJ1.mono (by omega), hT1 _ rfl, by omega, by omega⟩
    · skip
      replace hfr := hfr.resolve_right (by omega)
      have hfl := hfr.le
      refine l_actK C (ax_peg (s := s) (nm := nm) (nc := nc) (nr := nr) hst hG hMi hW hJ.bs (e := 3) (cd := -1793000000) (e3_3 ⟨(mi_of hW.cnt.1 hmi (by omega)), cell_in hce, (by rw [show (40 : Int32) = nI 40 from rfl, pk_sub (show ce ≤ 40 by omega), nI_leI (by omega) (by omega)]; omega)⟩ ⟨nI_le (a := 1) (by omega) (by omega), nI_le (b := 10) (by omega) (by omega)⟩ (by rw [tn_nI (show ce < 2 ^ 31 by omega), tn_nI (show mn < 2 ^ 31 by omega), tn_nI (show mi < 2 ^ 31 by omega), (hJ.m17 hmi).1.eq0, ((hJ.1.2.2.2.1.1).ltc (n := mn) (by omega)), hfr.free]; omega)) (by decide) xL3_3) (B + 7) (D + 119) ⟨⟨Nat.le_refl _, bl hKc (Nat.le_of_ble_eq_true rfl)⟩, Nat.le_refl _, bl hKn (Nat.le_of_ble_eq_true rfl)⟩ rfl dL_isTold_340 rfl (fun v_ w_ hv15 => ?_)
      obtain ⟨rfl, hw_, -⟩ := hv15
      rw [hw_]
      show V X G 15 _ _ _ _ _ _ [.int ((-1793000000))]
      refine v_istore C (lv1 := [(13, .int ((-1793000000))), (12, .int (bI (¬ tn (s 17 mi) = 0 ∧ mn ≤ tn (s 2 0) ∧ fr = 1 ∧ nc < 30))), (0, .ref (r 4)), (1, .ref (r 0)), (2, .ref (r 1)), (3, .ref (r 2)), (4, .int (nI (how))), (5, .int (nI (X0))), (6, .int (nI (mi))), (7, .int (nI (yy))), (8, .int (bI (tn (s 17 mi) = 0))), (9, .int (nI (ce))), (10, .int (nI (mn))), (11, .int (nI (fr)))]) dL_isTold_343 rfl (by decide) rfl ?_
      refine v_aload_n C dL_isTold_345 rfl 3 rfl ?_
      refine v_iconst C (v := 1) dL_isTold_346 rfl rfl ?_
      refine v_dup2 C dL_isTold_347 rfl rfl rfl ?_
      refine v_mld C hW 0 (by decide) 1 (show 1 < 6 by omega) dL_isTold_348 rfl ?_
      refine xx_top (y := nI (nc)) hT.1.2.1 ?_
      refine v_iload C dL_isTold_349 rfl 0 rfl ?_
      refine v_if_lt C (t := 358) dL_isTold_351 rfl rfl (fun _ => ?_) (fun h => absurd h (by decide))
      refine v_iconst C (v := 0) dL_isTold_358 rfl rfl ?_
      refine v_iaddN C nc 0 rfl rfl dL_isTold_359 rfl ?_
      refine v_mst C hW 0 (by decide) 1 (show 1 < 6 by omega) dL_isTold_360 rfl (fun w16 hW17 => ?_)
      rw [show (su t 0 1 (nI (nc + 0))) = t from by rw [show nI (nc + 0) = t 0 1 from hT.1.2.1.symm]; exact su_self] at hW17
      refine v_iload C dL_isTold_361 rfl 0 rfl ?_
      refine v_iload C dL_isTold_363 rfl 11 rfl ?_
      refine v_iload C dL_isTold_365 rfl 12 rfl ?_
      refine v_iaddN C ce mn rfl rfl dL_isTold_367 rfl ?_
      refine v_bipush C (v := 40) dL_isTold_368 rfl rfl ?_
      refine v_icN_le C (t := 378) (ce + mn) 40 rfl rfl (by omega) (by omega) dL_isTold_370 rfl rfl (fun _ => ?_) (fun h => ((by omega : False)).elim)
      refine v_iload C dL_isTold_378 rfl 1 rfl ?_
      refine v_ifB_eq C (t := 391) dL_isTold_380 rfl rfl (fun _ => ?_) (fun h => absurd h hcan)
      refine v_ldc C (v := (-1793000000)) dL_isTold_391 rfl N_L_114 ?_
      refine v_icmp_ne C (t := 461) dL_isTold_393 rfl rfl (fun h => absurd h (by decide)) (fun _ => ?_)
      refine v_iload C dL_isTold_396 rfl 0 rfl ?_
      refine v_if_lt C (t := 457) dL_isTold_398 rfl rfl (fun _ => ?_) (fun h => absurd h (by decide))
      refine v_iconst C (v := 1) dL_isTold_457 rfl rfl ?_
      refine v_goto C (q := 462) dL_isTold_458 rfl ?_
      exact v_zret C rfl (bl hKc (Nat.le_of_ble_eq_true rfl)) (bl hKn (Nat.le_of_ble_eq_true rfl)) dL_isTold_462 ⟨rfl, _, _, _, _, _, hW17, hJ.mono (by omega), hT.mono (by omega), by omega, by omega⟩
  · skip
    refine l_actK C (ax_peg (s := s) (nm := nm) (nc := nc) (nr := nr) hst hG hMi hW hJ.bs (e := 1) (cd := -1791000000) (e3_1 (fun h => hin (by have h9 := h.2.2; rw [show (40 : Int32) = nI 40 from rfl, pk_sub (show ce ≤ 40 by omega), nI_leI (by omega) (by omega)] at h9; omega))) (by decide) xL3_1) (B + 7) (D + 119) ⟨⟨Nat.le_refl _, bl hKc (Nat.le_of_ble_eq_true rfl)⟩, Nat.le_refl _, bl hKn (Nat.le_of_ble_eq_true rfl)⟩ rfl dL_isTold_340 rfl (fun v_ w_ hv18 => ?_)
    obtain ⟨rfl, hw_, -⟩ := hv18
    rw [hw_]
    show V X G 15 _ _ _ _ _ _ [.int ((-1791000000))]
    refine v_istore C (lv1 := [(13, .int ((-1791000000))), (12, .int (bI (¬ tn (s 17 mi) = 0 ∧ mn ≤ tn (s 2 0) ∧ fr = 1 ∧ nc < 30))), (0, .ref (r 4)), (1, .ref (r 0)), (2, .ref (r 1)), (3, .ref (r 2)), (4, .int (nI (how))), (5, .int (nI (X0))), (6, .int (nI (mi))), (7, .int (nI (yy))), (8, .int (bI (tn (s 17 mi) = 0))), (9, .int (nI (ce))), (10, .int (nI (mn))), (11, .int (nI (fr)))]) dL_isTold_343 rfl (by decide) rfl ?_
    refine v_aload_n C dL_isTold_345 rfl 3 rfl ?_
    refine v_iconst C (v := 1) dL_isTold_346 rfl rfl ?_
    refine v_dup2 C dL_isTold_347 rfl rfl rfl ?_
    refine v_mld C hW 0 (by decide) 1 (show 1 < 6 by omega) dL_isTold_348 rfl ?_
    refine xx_top (y := nI (nc)) hT.1.2.1 ?_
    refine v_iload C dL_isTold_349 rfl 0 rfl ?_
    refine v_if_lt C (t := 358) dL_isTold_351 rfl rfl (fun _ => ?_) (fun h => absurd h (by decide))
    refine v_iconst C (v := 0) dL_isTold_358 rfl rfl ?_
    refine v_iaddN C nc 0 rfl rfl dL_isTold_359 rfl ?_
    refine v_mst C hW 0 (by decide) 1 (show 1 < 6 by omega) dL_isTold_360 rfl (fun w19 hW20 => ?_)
    rw [show (su t 0 1 (nI (nc + 0))) = t from by rw [show nI (nc + 0) = t 0 1 from hT.1.2.1.symm]; exact su_self] at hW20
    refine v_iload C dL_isTold_361 rfl 0 rfl ?_
    refine v_iload C dL_isTold_363 rfl 11 rfl ?_
    refine v_iload C dL_isTold_365 rfl 12 rfl ?_
    refine v_iaddN C ce mn rfl rfl dL_isTold_367 rfl ?_
    refine v_bipush C (v := 40) dL_isTold_368 rfl rfl ?_
    refine v_icN_le C (t := 378) (ce + mn) 40 rfl rfl (by omega) (by omega) dL_isTold_370 rfl rfl (fun h => ((by omega : False)).elim) (fun _ => ?_)
    refine v_ldc C (v := (-1791000000)) dL_isTold_373 rfl N_L_108 ?_
    refine v_goto C (q := 393) dL_isTold_375 rfl ?_
    refine v_icmp_ne C (t := 461) dL_isTold_393 rfl rfl (fun h => absurd h (by decide)) (fun _ => ?_)
    refine v_iload C dL_isTold_396 rfl 0 rfl ?_
    refine v_if_lt C (t := 457) dL_isTold_398 rfl rfl (fun _ => ?_) (fun h => absurd h (by decide))
    refine v_iconst C (v := 1) dL_isTold_457 rfl rfl ?_
    refine v_goto C (q := 462) dL_isTold_458 rfl ?_
    exact v_zret C rfl (bl hKc (Nat.le_of_ble_eq_true rfl)) (bl hKn (Nat.le_of_ble_eq_true rfl)) dL_isTold_462 ⟨rfl, _, _, _, _, _, hW20, hJ.mono (by omega), hT.mono (by omega), by omega, by omega⟩

theorem sg_tld_R0 {X : XS} {G : GG} {w : va_W} {Q : State → Prop} {r : Nat → Nat} {s t : SS} {nm nc nr k B D : Nat} {X0 how : Nat} {mi yy : Nat} (C : Cx X G cL_isTold 15 RL (Option.some Jvm.ClassFile.FieldType.boolean) r_L_isTold "isTold" []) (hW : Wd G r s t nm nc nr w) (hJ : Js s nm nc nr k) (hMi : MiOK G) (hk : k ≤ 130) (hT : K9 s t nm nc nr k) (hX : X0 < 100000000) (hhow : how < 46) (hmi : mi < nm) (hyy : yy < 100000000) (hKc : B + 0 ≤ r_L_isTold.cells) (hKn : D + 0 ≤ r_L_isTold.slots) (kk : ∀ i0, i0 < 200 → V X G 15 w (B + 0) (D + 0) Q 489 [(0, .ref (r 4)), (1, .ref (r 0)), (2, .ref (r 1)), (3, .ref (r 2)), (4, .int (nI (how))), (5, .int (nI (X0))), (6, .int (nI (mi))), (7, .int (nI (yy))), (8, .int (bI (tn (s 17 mi) = 0)))] [.int (nI (i0)), .int (1)]) : V X G 15 w B D Q 470 [(0, .ref (r 4)), (1, .ref (r 0)), (2, .ref (r 1)), (3, .ref (r 2)), (4, .int (nI (how))), (5, .int (nI (X0))), (6, .int (nI (mi))), (7, .int (nI (yy))), (8, .int (bI (tn (s 17 mi) = 0)))] [] := by
  have hst : X.2.1.stackTraces = false := C.2.2.2.2.2.1
  have hG : GOK G := C.2.2.2.2.2.2.2.2.2.1
  have hm := hJ.1.1
  refine v_iconst C (v := 1) dL_isTold_470 rfl rfl ?_
  refine v_iload C dL_isTold_471 rfl 7 rfl ?_
  refine v_iload C dL_isTold_473 rfl 7 rfl ?_
  refine v_iconst C (v := 4) dL_isTold_475 rfl rfl ?_
  refine v_iremN C yy 4 rfl rfl (by omega) (by omega) (by omega) dL_isTold_476 rfl ?_
  refine v_ifN_ne C (t := 486) (yy % 4) rfl (by omega) dL_isTold_477 rfl rfl (fun h1 => ?_) (fun h1 => ?_)
  · skip
    refine v_bipush C (v := 45) dL_isTold_486 rfl rfl ?_
    refine v_iremN C yy 45 rfl rfl (by omega) (by omega) (by omega) dL_isTold_488 rfl ?_
    refine xx_lv [0, 1, 2, 3, 4, 5, 6, 7, 8] (lv' := [(0, .ref (r 4)), (1, .ref (r 0)), (2, .ref (r 1)), (3, .ref (r 2)), (4, .int (nI (how))), (5, .int (nI (X0))), (6, .int (nI (mi))), (7, .int (nI (yy))), (8, .int (bI (tn (s 17 mi) = 0)))]) rfl ?_
    exact xx_mono (Nat.le_add_right _ _) (Nat.le_add_right _ _) (kk (yy % 45) (by omega))
  · skip
    refine v_sipush C (v := 200) dL_isTold_480 rfl rfl ?_
    refine v_goto C (q := 488) dL_isTold_483 rfl ?_
    refine v_iremN C yy 200 rfl rfl (by omega) (by omega) (by omega) dL_isTold_488 rfl ?_
    refine xx_lv [0, 1, 2, 3, 4, 5, 6, 7, 8] (lv' := [(0, .ref (r 4)), (1, .ref (r 0)), (2, .ref (r 1)), (3, .ref (r 2)), (4, .int (nI (how))), (5, .int (nI (X0))), (6, .int (nI (mi))), (7, .int (nI (yy))), (8, .int (bI (tn (s 17 mi) = 0)))]) rfl ?_
    exact xx_mono (Nat.le_add_right _ _) (Nat.le_add_right _ _) (kk (yy % 200) (by omega))

theorem sg_tld_R1 {X : XS} {G : GG} {w : va_W} {r : Nat → Nat} {s t : SS} {nm nc nr k B D : Nat} {X0 how : Nat} {mi yy : Nat} {i0 : Nat} (C : Cx X G cL_isTold 15 RL (Option.some Jvm.ClassFile.FieldType.boolean) r_L_isTold "isTold" []) (hW : Wd G r s t nm nc nr w) (hJ : Js s nm nc nr k) (hMi : MiOK G) (hk : k ≤ 130) (hT : K9 s t nm nc nr k) (hX : X0 < 100000000) (hhow : how < 46) (hmi : mi < nm) (hyy : yy < 100000000) (hi0 : i0 < 200) (hKc : B + 7 ≤ r_L_isTold.cells) (hKn : D + 119 ≤ r_L_isTold.slots)  : V X G 15 w B D (Tg X G r_L_isTold (fun v w1 => v = some (.int 1) ∧ Nxt G r nm (k + 1) w1) nX) 489 [(0, .ref (r 4)), (1, .ref (r 0)), (2, .ref (r 1)), (3, .ref (r 2)), (4, .int (nI (how))), (5, .int (nI (X0))), (6, .int (nI (mi))), (7, .int (nI (yy))), (8, .int (bI (tn (s 17 mi) = 0)))] [.int (nI (i0)), .int (1)] := by
  have hst : X.2.1.stackTraces = false := C.2.2.2.2.2.1
  have hG : GOK G := C.2.2.2.2.2.2.2.2.2.1
  have hm := hJ.1.1
  refine v_iaddN C 1 i0 rfl rfl dL_isTold_489 rfl ?_
  refine v_istore C (lv1 := [(9, .int (nI (1 + i0))), (0, .ref (r 4)), (1, .ref (r 0)), (2, .ref (r 1)), (3, .ref (r 2)), (4, .int (nI (how))), (5, .int (nI (X0))), (6, .int (nI (mi))), (7, .int (nI (yy))), (8, .int (bI (tn (s 17 mi) = 0)))]) dL_isTold_490 rfl (by decide) rfl ?_
  refine v_aload_n C dL_isTold_492 rfl 1 rfl ?_
  refine v_bipush C (v := 6) dL_isTold_493 rfl rfl ?_
  refine v_iload C dL_isTold_495 rfl 7 rfl ?_
  refine v_iload C dL_isTold_497 rfl 0 rfl ?_
  refine v_iconst C (v := 0) dL_isTold_499 rfl rfl ?_
  refine v_iconst C (v := 0) dL_isTold_500 rfl rfl ?_
  by_cases hd : tn (s 17 mi) = 0
  · skip
    refine l_actK C (ax_right (s := s) (nm := nm) (nc := nc) (nr := nr) hst hG hMi hW hJ.bs (e := 3) (cd := -1793000000) (e3_3 (mi_of hW.cnt.1 hmi (by omega)) ⟨nI_le (a := 1) (by omega) (by omega), nI_le (b := 200) (by omega) (by omega)⟩ (Or.inl (by rw [tn_nI (show mi < 2 ^ 31 by omega)]; exact (hJ.m17 hmi).1.eq0.mpr hd))) (by decide) xL3_3) (B + 7) (D + 119) ⟨⟨Nat.le_refl _, bl hKc (Nat.le_of_ble_eq_true rfl)⟩, Nat.le_refl _, bl hKn (Nat.le_of_ble_eq_true rfl)⟩ rfl dL_isTold_501 rfl (fun v_ w_ hv1 => ?_)
    obtain ⟨rfl, hw_, -⟩ := hv1
    rw [hw_]
    show V X G 15 _ _ _ _ _ _ [.int ((-1793000000))]
    refine v_istore C (lv1 := [(10, .int ((-1793000000))), (9, .int (nI (1 + i0))), (0, .ref (r 4)), (1, .ref (r 0)), (2, .ref (r 1)), (3, .ref (r 2)), (4, .int (nI (how))), (5, .int (nI (X0))), (6, .int (nI (mi))), (7, .int (nI (yy))), (8, .int (bI (tn (s 17 mi) = 0)))]) dL_isTold_504 rfl (by decide) rfl ?_
    refine v_iload C dL_isTold_506 rfl 0 rfl ?_
    refine v_iload C dL_isTold_508 rfl 10 rfl ?_
    refine v_ifB_ne C (t := 521) dL_isTold_510 rfl rfl (fun _ => ?_) (fun h => absurd hd h)
    refine v_ldc C (v := (-1793000000)) dL_isTold_521 rfl N_L_114 ?_
    refine v_goto C (q := 529) dL_isTold_523 rfl ?_
    refine v_icmp_ne C (t := 536) dL_isTold_529 rfl rfl (fun h => absurd h (by decide)) (fun _ => ?_)
    refine v_iconst C (v := 1) dL_isTold_532 rfl rfl ?_
    refine v_goto C (q := 537) dL_isTold_533 rfl ?_
    refine v_istore C (lv1 := [(11, .int (1)), (10, .int ((-1793000000))), (9, .int (nI (1 + i0))), (0, .ref (r 4)), (1, .ref (r 0)), (2, .ref (r 1)), (3, .ref (r 2)), (4, .int (nI (how))), (5, .int (nI (X0))), (6, .int (nI (mi))), (7, .int (nI (yy))), (8, .int (bI (tn (s 17 mi) = 0)))]) dL_isTold_537 rfl (by decide) rfl ?_
    refine v_iload C dL_isTold_539 rfl 1 rfl ?_
    refine v_if_lt C (t := 565) dL_isTold_541 rfl rfl (fun _ => ?_) (fun h => absurd h (by decide))
    refine v_iload C dL_isTold_565 rfl 0 rfl ?_
    exact v_zret C rfl (bl hKc (Nat.le_of_ble_eq_true rfl)) (bl hKn (Nat.le_of_ble_eq_true rfl)) dL_isTold_567 ⟨rfl, _, _, _, _, _, hW, hJ.mono (by omega), hT.mono (by omega), by omega, by omega⟩
  · skip
    by_cases hfull : nr = 20
    · skip
      refine l_actK C (ax_right (s := s) (nm := nm) (nc := nc) (nr := nr) hst hG hMi hW hJ.bs (e := 3) (cd := -1793000000) (e3_3 (mi_of hW.cnt.1 hmi (by omega)) ⟨nI_le (a := 1) (by omega) (by omega), nI_le (b := 200) (by omega) (by omega)⟩ (Or.inr hfull)) (by decide) xL3_3) (B + 7) (D + 119) ⟨⟨Nat.le_refl _, bl hKc (Nat.le_of_ble_eq_true rfl)⟩, Nat.le_refl _, bl hKn (Nat.le_of_ble_eq_true rfl)⟩ rfl dL_isTold_501 rfl (fun v_ w_ hv2 => ?_)
      obtain ⟨rfl, hw_, -⟩ := hv2
      rw [hw_]
      show V X G 15 _ _ _ _ _ _ [.int ((-1793000000))]
      refine v_istore C (lv1 := [(10, .int ((-1793000000))), (9, .int (nI (1 + i0))), (0, .ref (r 4)), (1, .ref (r 0)), (2, .ref (r 1)), (3, .ref (r 2)), (4, .int (nI (how))), (5, .int (nI (X0))), (6, .int (nI (mi))), (7, .int (nI (yy))), (8, .int (bI (tn (s 17 mi) = 0)))]) dL_isTold_504 rfl (by decide) rfl ?_
      refine v_iload C dL_isTold_506 rfl 0 rfl ?_
      refine v_iload C dL_isTold_508 rfl 10 rfl ?_
      refine v_ifB_ne C (t := 521) dL_isTold_510 rfl rfl (fun h => absurd h hd) (fun _ => ?_)
      refine v_aload_n C dL_isTold_513 rfl 3 rfl ?_
      refine v_iconst C (v := 2) dL_isTold_514 rfl rfl ?_
      refine v_mld C hW 0 (by decide) 2 (show 2 < 6 by omega) dL_isTold_515 rfl ?_
      refine xx_top (y := nI (nr)) hT.1.2.2.1 ?_
      refine v_bipush C (v := 20) dL_isTold_516 rfl rfl ?_
      refine v_icN_ne C (t := 526) nr 20 rfl rfl (by omega) (by omega) dL_isTold_518 rfl rfl (fun h => ((by omega : False)).elim) (fun _ => ?_)
      refine v_ldc C (v := (-1793000000)) dL_isTold_521 rfl N_L_114 ?_
      refine v_goto C (q := 529) dL_isTold_523 rfl ?_
      refine v_icmp_ne C (t := 536) dL_isTold_529 rfl rfl (fun h => absurd h (by decide)) (fun _ => ?_)
      refine v_iconst C (v := 1) dL_isTold_532 rfl rfl ?_
      refine v_goto C (q := 537) dL_isTold_533 rfl ?_
      refine v_istore C (lv1 := [(11, .int (1)), (10, .int ((-1793000000))), (9, .int (nI (1 + i0))), (0, .ref (r 4)), (1, .ref (r 0)), (2, .ref (r 1)), (3, .ref (r 2)), (4, .int (nI (how))), (5, .int (nI (X0))), (6, .int (nI (mi))), (7, .int (nI (yy))), (8, .int (bI (tn (s 17 mi) = 0)))]) dL_isTold_537 rfl (by decide) rfl ?_
      refine v_iload C dL_isTold_539 rfl 1 rfl ?_
      refine v_if_lt C (t := 565) dL_isTold_541 rfl rfl (fun _ => ?_) (fun h => absurd h (by decide))
      refine v_iload C dL_isTold_565 rfl 0 rfl ?_
      exact v_zret C rfl (bl hKc (Nat.le_of_ble_eq_true rfl)) (bl hKn (Nat.le_of_ble_eq_true rfl)) dL_isTold_567 ⟨rfl, _, _, _, _, _, hW, hJ.mono (by omega), hT.mono (by omega), by omega, by omega⟩
    · skip
      have hP_ := P_right hJ hT (x := mi) (i := 1 + i0) (by omega) hmi (by omega) (by omega)
      refine l_actK C (ao_right (s := s) (nm := nm) (nc := nc) (nr := nr) hst hG hMi hW hJ.bs (e3_0 (mi_of hW.cnt.1 hmi (by omega)) ⟨nI_le (a := 1) (by omega) (by omega), nI_le (b := 200) (by omega) (by omega)⟩ (fun z => z.elim (by rw [tn_nI (show mi < 2 ^ 31 by omega)]; exact fun q => hd ((hJ.m17 hmi).1.eq0.mp q)) hfull))) (B + 7) (D + 119) ⟨⟨Nat.le_refl _, bl hKc (Nat.le_of_ble_eq_true rfl)⟩, Nat.le_refl _, bl hKn (Nat.le_of_ble_eq_true rfl)⟩ rfl dL_isTold_501 rfl (fun v_ w4 hv3 => ?_)
      obtain ⟨rfl, hW5⟩ := hv3
      show V X G 15 _ _ _ _ _ _ [.int (nI (nr))]
      generalize su (rightU s nr (nI (mi)) (nI (1 + i0))) 55 2 (s 55 2 + 1) = s1 at hP_ hW5
      obtain ⟨hJ1, hT1⟩ := hP_
      refine v_istore C (lv1 := [(10, .int (nI (nr))), (9, .int (nI (1 + i0))), (0, .ref (r 4)), (1, .ref (r 0)), (2, .ref (r 1)), (3, .ref (r 2)), (4, .int (nI (how))), (5, .int (nI (X0))), (6, .int (nI (mi))), (7, .int (nI (yy))), (8, .int (bI (tn (s 17 mi) = 0)))]) dL_isTold_504 rfl (by decide) rfl ?_
      refine v_iload C dL_isTold_506 rfl 0 rfl ?_
      refine v_iload C dL_isTold_508 rfl 10 rfl ?_
      refine v_ifB_ne C (t := 521) dL_isTold_510 rfl rfl (fun h => absurd h hd) (fun _ => ?_)
      refine v_aload_n C dL_isTold_513 rfl 3 rfl ?_
      refine v_iconst C (v := 2) dL_isTold_514 rfl rfl ?_
      refine v_mld C hW5 0 (by decide) 2 (show 2 < 6 by omega) dL_isTold_515 rfl ?_
      refine xx_top (y := nI (nr)) hT.1.2.2.1 ?_
      refine v_bipush C (v := 20) dL_isTold_516 rfl rfl ?_
      refine v_icN_ne C (t := 526) nr 20 rfl rfl (by omega) (by omega) dL_isTold_518 rfl rfl (fun _ => ?_) (fun h => ((by omega : False)).elim)
      refine v_aload_n C dL_isTold_526 rfl 3 rfl ?_
      refine v_iconst C (v := 2) dL_isTold_527 rfl rfl ?_
      refine v_mld C hW5 0 (by decide) 2 (show 2 < 6 by omega) dL_isTold_528 rfl ?_
      refine xx_top (y := nI (nr)) hT.1.2.2.1 ?_
      refine v_icN_ne C (t := 536) nr nr rfl rfl (by omega) (by omega) dL_isTold_529 rfl rfl (fun h => ((by omega : False)).elim) (fun _ => ?_)
      refine v_iconst C (v := 1) dL_isTold_532 rfl rfl ?_
      refine v_goto C (q := 537) dL_isTold_533 rfl ?_
      refine v_istore C (lv1 := [(11, .int (1)), (10, .int (nI (nr))), (9, .int (nI (1 + i0))), (0, .ref (r 4)), (1, .ref (r 0)), (2, .ref (r 1)), (3, .ref (r 2)), (4, .int (nI (how))), (5, .int (nI (X0))), (6, .int (nI (mi))), (7, .int (nI (yy))), (8, .int (bI (tn (s 17 mi) = 0)))]) dL_isTold_537 rfl (by decide) rfl ?_
      refine v_iload C dL_isTold_539 rfl 1 rfl ?_
      refine v_if_lt C (t := 565) dL_isTold_541 rfl rfl (fun h => absurd h (nI_pos (by omega))) (fun _ => ?_)
      refine v_aload_n C dL_isTold_544 rfl 5 rfl ?_
      refine v_aload_n C dL_isTold_545 rfl 4 rfl ?_
      refine v_iconst C (v := 2) dL_isTold_546 rfl rfl ?_
      refine v_mld C hW5 0 (by decide) 2 (show 2 < 6 by omega) dL_isTold_547 rfl ?_
      refine xx_top (y := nI (nr)) hT.1.2.2.1 ?_
      refine v_iload C dL_isTold_548 rfl 2 rfl ?_
      refine v_sipush C (v := 1000) dL_isTold_550 rfl rfl ?_
      refine v_iload C dL_isTold_553 rfl 9 rfl ?_
      refine v_imulN C 1000 mi rfl rfl dL_isTold_555 rfl ?_
      refine v_iaddN C (1 + i0) (1000 * mi) rfl rfl dL_isTold_556 rfl ?_
      refine v_mst C hW5 1 (by decide) nr (show nr < 20 by omega) dL_isTold_557 rfl (fun w6 hW7 => ?_)
      refine v_aload_n C dL_isTold_558 rfl 4 rfl ?_
      refine v_iconst C (v := 2) dL_isTold_559 rfl rfl ?_
      refine v_dup2 C dL_isTold_560 rfl rfl rfl ?_
      refine v_mld C hW7 0 (by decide) 2 (show 2 < 6 by omega) dL_isTold_561 rfl ?_
      refine xx_top (y := t 0 2) (by simp [su, upd]; try omega) ?_
      refine xx_top (y := nI (nr)) hT.1.2.2.1 ?_
      refine v_iconst C (v := 1) dL_isTold_562 rfl rfl ?_
      refine v_iaddN C nr 1 rfl rfl dL_isTold_563 rfl ?_
      refine v_mst C hW7 0 (by decide) 2 (show 2 < 6 by omega) dL_isTold_564 rfl (fun w8 hW9 => ?_)
      refine v_iload C dL_isTold_565 rfl 0 rfl ?_
      exact v_zret C rfl (bl hKc (Nat.le_of_ble_eq_true rfl)) (bl hKn (Nat.le_of_ble_eq_true rfl)) dL_isTold_567 ⟨rfl, _, _, _, _, _, hW9, hJ1.mono (by omega), hT1 _ rfl, by omega, by omega⟩

theorem sg_tld_F0 {X : XS} {G : GG} {w : va_W} {Q : State → Prop} {r : Nat → Nat} {s t : SS} {nm nc nr k B D : Nat} {X0 how : Nat} {mi yy : Nat} (C : Cx X G cL_isTold 15 RL (Option.some Jvm.ClassFile.FieldType.boolean) r_L_isTold "isTold" []) (hW : Wd G r s t nm nc nr w) (hJ : Js s nm nc nr k) (hMi : MiOK G) (hk : k ≤ 130) (hT : K9 s t nm nc nr k) (hX : X0 < 100000000) (hhow : how < 46) (hmi : mi < nm) (hyy : yy < 100000000) (hKc : B + 0 ≤ r_L_isTold.cells) (hKn : D + 0 ≤ r_L_isTold.slots) (kk : ∀ f, f ≤ 1000 → V X G 15 w (B + 0) (D + 0) Q 593 [(0, .ref (r 4)), (1, .ref (r 0)), (2, .ref (r 1)), (3, .ref (r 2)), (4, .int (nI (how))), (5, .int (nI (X0))), (6, .int (nI (mi))), (7, .int (nI (yy))), (8, .int (bI (tn (s 17 mi) = 0)))] [.int (nI (f))]) : V X G 15 w B D Q 575 [(0, .ref (r 4)), (1, .ref (r 0)), (2, .ref (r 1)), (3, .ref (r 2)), (4, .int (nI (how))), (5, .int (nI (X0))), (6, .int (nI (mi))), (7, .int (nI (yy))), (8, .int (bI (tn (s 17 mi) = 0)))] [] := by
  have hst : X.2.1.stackTraces = false := C.2.2.2.2.2.1
  have hG : GOK G := C.2.2.2.2.2.2.2.2.2.1
  have hm := hJ.1.1
  refine v_iload C dL_isTold_575 rfl 7 rfl ?_
  refine v_iload C dL_isTold_577 rfl 7 rfl ?_
  refine v_iconst C (v := 3) dL_isTold_579 rfl rfl ?_
  refine v_iremN C yy 3 rfl rfl (by omega) (by omega) (by omega) dL_isTold_580 rfl ?_
  refine v_ifN_ne C (t := 590) (yy % 3) rfl (by omega) dL_isTold_581 rfl rfl (fun h1 => ?_) (fun h1 => ?_)
  · skip
    refine v_bipush C (v := 90) dL_isTold_590 rfl rfl ?_
    refine v_iremN C yy 90 rfl rfl (by omega) (by omega) (by omega) dL_isTold_592 rfl ?_
    refine xx_lv [0, 1, 2, 3, 4, 5, 6, 7, 8] (lv' := [(0, .ref (r 4)), (1, .ref (r 0)), (2, .ref (r 1)), (3, .ref (r 2)), (4, .int (nI (how))), (5, .int (nI (X0))), (6, .int (nI (mi))), (7, .int (nI (yy))), (8, .int (bI (tn (s 17 mi) = 0)))]) rfl ?_
    exact xx_mono (Nat.le_add_right _ _) (Nat.le_add_right _ _) (kk (yy % 90) (by omega))
  · skip
    refine v_sipush C (v := 1001) dL_isTold_584 rfl rfl ?_
    refine v_goto C (q := 592) dL_isTold_587 rfl ?_
    refine v_iremN C yy 1001 rfl rfl (by omega) (by omega) (by omega) dL_isTold_592 rfl ?_
    refine xx_lv [0, 1, 2, 3, 4, 5, 6, 7, 8] (lv' := [(0, .ref (r 4)), (1, .ref (r 0)), (2, .ref (r 1)), (3, .ref (r 2)), (4, .int (nI (how))), (5, .int (nI (X0))), (6, .int (nI (mi))), (7, .int (nI (yy))), (8, .int (bI (tn (s 17 mi) = 0)))]) rfl ?_
    exact xx_mono (Nat.le_add_right _ _) (Nat.le_add_right _ _) (kk (yy % 1001) (by omega))

theorem sg_tld_F1 {X : XS} {G : GG} {w : va_W} {r : Nat → Nat} {s t : SS} {nm nc nr k B D : Nat} {X0 how : Nat} {mi yy : Nat} {f : Nat} (C : Cx X G cL_isTold 15 RL (Option.some Jvm.ClassFile.FieldType.boolean) r_L_isTold "isTold" []) (hW : Wd G r s t nm nc nr w) (hJ : Js s nm nc nr k) (hMi : MiOK G) (hk : k ≤ 130) (hT : K9 s t nm nc nr k) (hX : X0 < 100000000) (hhow : how < 46) (hmi : mi < nm) (hyy : yy < 100000000) (hf : f ≤ 1000) (hKc : B + 14 ≤ r_L_isTold.cells) (hKn : D + 238 ≤ r_L_isTold.slots)  : V X G 15 w B D (Tg X G r_L_isTold (fun v w1 => v = some (.int 1) ∧ Nxt G r nm (k + 1) w1) nX) 593 [(0, .ref (r 4)), (1, .ref (r 0)), (2, .ref (r 1)), (3, .ref (r 2)), (4, .int (nI (how))), (5, .int (nI (X0))), (6, .int (nI (mi))), (7, .int (nI (yy))), (8, .int (bI (tn (s 17 mi) = 0)))] [.int (nI (f))] := by
  have hst : X.2.1.stackTraces = false := C.2.2.2.2.2.1
  have hG : GOK G := C.2.2.2.2.2.2.2.2.2.1
  have hm := hJ.1.1
  have h1b := hJ.1.2.2.1.2
  refine v_istore C (lv1 := [(9, .int (nI (f))), (0, .ref (r 4)), (1, .ref (r 0)), (2, .ref (r 1)), (3, .ref (r 2)), (4, .int (nI (how))), (5, .int (nI (X0))), (6, .int (nI (mi))), (7, .int (nI (yy))), (8, .int (bI (tn (s 17 mi) = 0)))]) dL_isTold_593 rfl (by decide) rfl ?_
  refine v_aload_n C dL_isTold_595 rfl 1 rfl ?_
  refine v_iconst C (v := 1) dL_isTold_596 rfl rfl ?_
  refine v_iload C dL_isTold_597 rfl 0 rfl ?_
  refine v_iconst C (v := 0) dL_isTold_599 rfl rfl ?_
  refine v_iconst C (v := 0) dL_isTold_600 rfl rfl ?_
  refine v_iconst C (v := 0) dL_isTold_601 rfl rfl ?_
  have hP_ := P_flow hJ hT (x := f) hf
  refine l_actK C (ao_flow (s := s) (nm := nm) (nc := nc) (nr := nr) hst hG hW hJ.bs (e1_0 ⟨nI_pos' (by omega), nI_le (b := 1000) (by omega) (by omega)⟩)) (B + 7) (D + 119) ⟨⟨Nat.le_refl _, bl hKc (Nat.le_of_ble_eq_true rfl)⟩, Nat.le_refl _, bl hKn (Nat.le_of_ble_eq_true rfl)⟩ rfl dL_isTold_602 rfl (fun v_ w2 hv1 => ?_)
  obtain ⟨rfl, hW3⟩ := hv1
  show V X G 15 _ _ _ _ _ _ [.int (flowR s (nI (f)))]
  generalize flowU s (nI (f)) = s1 at hP_ hW3
  obtain ⟨hJ1, hT1, f1⟩ := hP_
  refine xx_top (y := nI (tn (s 1 0))) hJ.1.2.2.1.1.e ?_
  refine v_if_lt C (t := 627) dL_isTold_605 rfl rfl (fun h => absurd h (nI_pos (by omega))) (fun _ => ?_)
  refine v_aload_n C dL_isTold_608 rfl 1 rfl ?_
  refine v_iconst C (v := 1) dL_isTold_609 rfl rfl ?_
  refine v_iload C dL_isTold_610 rfl 0 rfl ?_
  refine v_iconst C (v := 0) dL_isTold_612 rfl rfl ?_
  refine v_iconst C (v := 0) dL_isTold_613 rfl rfl ?_
  refine v_iconst C (v := 0) dL_isTold_614 rfl rfl ?_
  have hP_ := P_flow hJ1 hT1 (x := f) hf
  refine l_actK C (ao_flow (s := s1) (nm := nm) (nc := nc) (nr := nr) hst hG hW3 hJ1.bs (e1_0 ⟨nI_pos' (by omega), nI_le (b := 1000) (by omega) (by omega)⟩)) (B + 14) (D + 238) ⟨⟨Nat.le_refl _, bl hKc (Nat.le_of_ble_eq_true rfl)⟩, Nat.le_refl _, bl hKn (Nat.le_of_ble_eq_true rfl)⟩ rfl dL_isTold_615 rfl (fun v_ w5 hv4 => ?_)
  obtain ⟨rfl, hW6⟩ := hv4
  show V X G 15 _ _ _ _ _ _ [.int (flowR s1 (nI (f)))]
  generalize flowU s1 (nI (f)) = s2 at hP_ hW6
  obtain ⟨hJ2, hT2, f2⟩ := hP_
  refine xx_top (y := nI (f)) (hJ1.1.2.2.1.1.e.trans (congrArg nI f1)) ?_
  refine v_iload C dL_isTold_618 rfl 0 rfl ?_
  refine v_icN_ne C (t := 627) f f rfl rfl (by omega) (by omega) dL_isTold_620 rfl rfl (fun h => (by omega : False).elim) (fun h7 => ?_)
  refine v_iconst C (v := 1) dL_isTold_623 rfl rfl ?_
  refine v_goto C (q := 628) dL_isTold_624 rfl ?_
  exact v_zret C rfl (bl hKc (Nat.le_of_ble_eq_true rfl)) (bl hKn (Nat.le_of_ble_eq_true rfl)) dL_isTold_628 ⟨rfl, _, _, _, _, _, hW6, hJ2.mono (by omega), hT2.mono (by omega), by omega, by omega⟩

theorem sg_tld_M {X : XS} {G : GG} {w : va_W} {r : Nat → Nat} {s t : SS} {nm nc nr k B D : Nat} {X0 how : Nat} {mi yy : Nat} (C : Cx X G cL_isTold 15 RL (Option.some Jvm.ClassFile.FieldType.boolean) r_L_isTold "isTold" []) (hW : Wd G r s t nm nc nr w) (hJ : Js s nm nc nr k) (hMi : MiOK G) (hk : k ≤ 130) (hT : K9 s t nm nc nr k) (hX : X0 < 100000000) (hhow : how < 46) (hmi : mi < nm) (hyy : yy < 100000000) (hKc : B + 10 ≤ r_L_isTold.cells) (hKn : D + 137 ≤ r_L_isTold.slots)  : V X G 15 w B D (Tg X G r_L_isTold (fun v w1 => v = some (.int 1) ∧ Nxt G r nm (k + 1) w1) nX) 636 [(0, .ref (r 4)), (1, .ref (r 0)), (2, .ref (r 1)), (3, .ref (r 2)), (4, .int (nI (how))), (5, .int (nI (X0))), (6, .int (nI (mi))), (7, .int (nI (yy))), (8, .int (bI (tn (s 17 mi) = 0)))] [] := by
  have hst : X.2.1.stackTraces = false := C.2.2.2.2.2.1
  have hG : GOK G := C.2.2.2.2.2.2.2.2.2.1
  have hm := hJ.1.1
  have h2b := hJ.1.2.2.2.1
  have hlv := LV_b (s := s) nm
  refine v_iload C dL_isTold_636 rfl 7 rfl ?_
  refine v_bipush C (v := 7) dL_isTold_638 rfl rfl ?_
  refine v_iremN C yy 7 rfl rfl (by omega) (by omega) (by omega) dL_isTold_640 rfl ?_
  have hys : yy % 7 ≤ 6 := by omega
  generalize yy % 7 = ys at hys ⊢
  refine v_istore C (lv1 := [(9, .int (nI (ys))), (0, .ref (r 4)), (1, .ref (r 0)), (2, .ref (r 1)), (3, .ref (r 2)), (4, .int (nI (how))), (5, .int (nI (X0))), (6, .int (nI (mi))), (7, .int (nI (yy))), (8, .int (bI (tn (s 17 mi) = 0)))]) dL_isTold_641 rfl (by decide) rfl ?_
  refine v_iload C dL_isTold_643 rfl 8 rfl ?_
  refine v_bipush C (v := 7) dL_isTold_645 rfl rfl ?_
  refine v_idivN C yy 7 rfl rfl (by omega) (by omega) (by omega) dL_isTold_647 rfl ?_
  refine v_iconst C (v := 4) dL_isTold_648 rfl rfl ?_
  refine v_iremN C (yy / 7) 4 rfl rfl (by omega) (by omega) (by omega) dL_isTold_649 rfl ?_
  have hns : (yy / 7) % 4 ≤ 3 := by omega
  generalize (yy / 7) % 4 = ns at hns ⊢
  refine v_istore C (lv1 := [(10, .int (nI (ns))), (9, .int (nI (ys))), (0, .ref (r 4)), (1, .ref (r 0)), (2, .ref (r 1)), (3, .ref (r 2)), (4, .int (nI (how))), (5, .int (nI (X0))), (6, .int (nI (mi))), (7, .int (nI (yy))), (8, .int (bI (tn (s 17 mi) = 0)))]) dL_isTold_650 rfl (by decide) rfl ?_
  refine v_aload_n C dL_isTold_652 rfl 2 rfl ?_
  refine v_iconst C (v := 0) dL_isTold_653 rfl rfl ?_
  refine q_p0 C hW hJ (B + 1) (D + 6) ⟨⟨Nat.le_refl _, bl hKc (Nat.le_of_ble_eq_true rfl)⟩, Nat.le_refl _, bl hKn (Nat.le_of_ble_eq_true rfl)⟩ rfl dL_isTold_654 rfl (fun b1 => ?_)
  refine v_istore C (lv1 := [(11, .int (nI (tn (s 2 0)))), (10, .int (nI (ns))), (9, .int (nI (ys))), (0, .ref (r 4)), (1, .ref (r 0)), (2, .ref (r 1)), (3, .ref (r 2)), (4, .int (nI (how))), (5, .int (nI (X0))), (6, .int (nI (mi))), (7, .int (nI (yy))), (8, .int (bI (tn (s 17 mi) = 0)))]) dL_isTold_657 rfl (by decide) rfl ?_
  refine v_aload_n C dL_isTold_659 rfl 3 rfl ?_
  refine v_iconst C (v := 4) dL_isTold_660 rfl rfl ?_
  refine v_iconst C (v := 1) dL_isTold_661 rfl rfl ?_
  refine v_iload C dL_isTold_662 rfl 10 rfl ?_
  refine v_bipush C (v := 28) dL_isTold_664 rfl rfl ?_
  refine v_idivN C yy 28 rfl rfl (by omega) (by omega) (by omega) dL_isTold_666 rfl ?_
  refine v_bipush C (v := 10) dL_isTold_667 rfl rfl ?_
  refine v_iremN C (yy / 28) 10 rfl rfl (by omega) (by omega) (by omega) dL_isTold_669 rfl ?_
  refine v_iaddN C 1 ((yy / 28) % 10) rfl rfl dL_isTold_670 rfl ?_
  refine v_iconst C (v := 1) dL_isTold_671 rfl rfl ?_
  refine v_iload C dL_isTold_672 rfl 10 rfl ?_
  refine v_bipush C (v := 31) dL_isTold_674 rfl rfl ?_
  refine v_idivN C yy 31 rfl rfl (by omega) (by omega) (by omega) dL_isTold_676 rfl ?_
  refine v_bipush C (v := 20) dL_isTold_677 rfl rfl ?_
  refine v_iremN C (yy / 31) 20 rfl rfl (by omega) (by omega) (by omega) dL_isTold_679 rfl ?_
  refine v_iaddN C 1 ((yy / 31) % 20) rfl rfl dL_isTold_680 rfl ?_
  refine v_iload C dL_isTold_681 rfl 2 rfl ?_
  refine v_iload C dL_isTold_683 rfl 1 rfl ?_
  by_cases hok : ys + ns ≤ LV s nm
  · skip
    by_cases hmost : ns < ys
    · skip
      have hP_ := and3 (P_meet hJ hT (m := 1 + ((yy / 28) % 10)) (d := 1 + ((yy / 31) % 20)) (y := ys) (n := ns) (by omega) (by omega) (by omega) (by omega) (by omega) (by omega)) (LV_meet (s := s) (nm := nm) (m := nI (1 + ((yy / 28) % 10))) (d := nI (1 + ((yy / 31) % 20))) (y := nI (ys)) (n_ := nI (ns)) (q := nm))
      refine l_actK C (ao_meet (s := s) (nm := nm) (nc := nc) (nr := nr) hst hG hW hJ.bs (e1_0 ⟨⟨⟨nI_le (a := 1) (by omega) (by omega), nI_le (b := 10) (by omega) (by omega)⟩, ⟨nI_le (a := 1) (by omega) (by omega), nI_le (b := 100) (by omega) (by omega)⟩, ⟨nI_pos' (by omega), nI_le (b := 12) (by omega) (by omega)⟩, ⟨nI_pos' (by omega), nI_le (b := 12) (by omega) (by omega)⟩⟩, (by rw [nI_add, liv_n, nI_leI (by omega) (by omega)]; omega)⟩)) (B + 8) (D + 125) ⟨⟨Nat.le_refl _, bl hKc (Nat.le_of_ble_eq_true rfl)⟩, Nat.le_refl _, bl hKn (Nat.le_of_ble_eq_true rfl)⟩ rfl dL_isTold_685 rfl (fun v_ w3 hv2 => ?_)
      obtain ⟨rfl, hW4⟩ := hv2
      show V X G 15 _ _ _ _ _ _ [.int (if meetR s nm (nI (1 + ((yy / 28) % 10))) (nI (1 + ((yy / 31) % 20))) (nI (ys)) (nI (ns)) = 0 then 0 else 1)]
      generalize meetU s nm (nI (1 + ((yy / 28) % 10))) (nI (1 + ((yy / 31) % 20))) (nI (ys)) (nI (ns)) = s1 at hP_ hW4
      obtain ⟨hJ1, hT1, f1, flv⟩ := hP_
      rw [if_pos hmost] at f1
      refine xx_top (y := 1) (by unfold meetR; rw [bI_t ((nI_ltI (by omega) (by omega)).mpr hmost)]; rfl) ?_
      refine v_istore C (lv1 := [(12, .int (1)), (11, .int (nI (tn (s 2 0)))), (10, .int (nI (ns))), (9, .int (nI (ys))), (0, .ref (r 4)), (1, .ref (r 0)), (2, .ref (r 1)), (3, .ref (r 2)), (4, .int (nI (how))), (5, .int (nI (X0))), (6, .int (nI (mi))), (7, .int (nI (yy))), (8, .int (bI (tn (s 17 mi) = 0)))]) dL_isTold_688 rfl (by decide) rfl ?_
      refine v_iload C dL_isTold_690 rfl 3 rfl ?_
      refine v_iload C dL_isTold_692 rfl 2 rfl ?_
      refine v_iaddN C ys ns rfl rfl dL_isTold_694 rfl ?_
      refine v_aload_n C dL_isTold_695 rfl 4 rfl ?_
      refine v_iconst C (v := 5) dL_isTold_696 rfl rfl ?_
      refine q_p5 C hW4 hJ1 (B + 9) (D + 131) ⟨⟨Nat.le_refl _, bl hKc (Nat.le_of_ble_eq_true rfl)⟩, Nat.le_refl _, bl hKn (Nat.le_of_ble_eq_true rfl)⟩ rfl dL_isTold_697 rfl (fun b5 => ?_)
      refine v_icN_le C (t := 728) (ys + ns) (LV s1 nm) rfl rfl (by omega) (by omega) dL_isTold_700 rfl rfl (fun _ => ?_) (fun h => ((by omega : False)).elim)
      refine v_iload C dL_isTold_728 rfl 0 rfl ?_
      refine v_iload C dL_isTold_730 rfl 3 rfl ?_
      refine v_iload C dL_isTold_732 rfl 2 rfl ?_
      refine v_icN_le C (t := 741) ys ns rfl rfl (by omega) (by omega) dL_isTold_734 rfl rfl (fun h => ((by omega : False)).elim) (fun _ => ?_)
      refine v_iconst C (v := 1) dL_isTold_737 rfl rfl ?_
      refine v_goto C (q := 742) dL_isTold_738 rfl ?_
      refine v_icmp_ne C (t := 779) dL_isTold_742 rfl rfl (fun h => absurd h (by decide)) (fun _ => ?_)
      refine v_aload_n C dL_isTold_745 rfl 4 rfl ?_
      refine v_iconst C (v := 0) dL_isTold_746 rfl rfl ?_
      refine q_p0 C hW4 hJ1 (B + 10) (D + 137) ⟨⟨Nat.le_refl _, bl hKc (Nat.le_of_ble_eq_true rfl)⟩, Nat.le_refl _, bl hKn (Nat.le_of_ble_eq_true rfl)⟩ rfl dL_isTold_747 rfl (fun b6 => ?_)
      refine v_iload C dL_isTold_750 rfl 3 rfl ?_
      refine v_iload C dL_isTold_752 rfl 2 rfl ?_
      refine v_icN_le C (t := 770) ys ns rfl rfl (by omega) (by omega) dL_isTold_754 rfl rfl (fun h => ((by omega : False)).elim) (fun _ => ?_)
      refine v_iconst C (v := 1) dL_isTold_757 rfl rfl ?_
      refine v_iload C dL_isTold_758 rfl 11 rfl ?_
      refine v_bipush C (v := 28) dL_isTold_760 rfl rfl ?_
      refine v_idivN C yy 28 rfl rfl (by omega) (by omega) (by omega) dL_isTold_762 rfl ?_
      refine v_bipush C (v := 10) dL_isTold_763 rfl rfl ?_
      refine v_iremN C (yy / 28) 10 rfl rfl (by omega) (by omega) (by omega) dL_isTold_765 rfl ?_
      refine v_iaddN C 1 ((yy / 28) % 10) rfl rfl dL_isTold_766 rfl ?_
      refine v_goto C (q := 772) dL_isTold_767 rfl ?_
      refine v_icN_ne C (t := 779) (tn (s1 2 0)) (1 + ((yy / 28) % 10)) rfl rfl (by omega) (by omega) dL_isTold_772 rfl rfl (fun h => (by omega : False).elim) (fun h7 => ?_)
      refine v_iconst C (v := 1) dL_isTold_775 rfl rfl ?_
      refine v_goto C (q := 780) dL_isTold_776 rfl ?_
      exact v_zret C rfl (bl hKc (Nat.le_of_ble_eq_true rfl)) (bl hKn (Nat.le_of_ble_eq_true rfl)) dL_isTold_780 ⟨rfl, _, _, _, _, _, hW4, hJ1.mono (by omega), hT1.mono (by omega), by omega, by omega⟩
    · skip
      have hP_ := and3 (P_meet hJ hT (m := 1 + ((yy / 28) % 10)) (d := 1 + ((yy / 31) % 20)) (y := ys) (n := ns) (by omega) (by omega) (by omega) (by omega) (by omega) (by omega)) (LV_meet (s := s) (nm := nm) (m := nI (1 + ((yy / 28) % 10))) (d := nI (1 + ((yy / 31) % 20))) (y := nI (ys)) (n_ := nI (ns)) (q := nm))
      refine l_actK C (ao_meet (s := s) (nm := nm) (nc := nc) (nr := nr) hst hG hW hJ.bs (e1_0 ⟨⟨⟨nI_le (a := 1) (by omega) (by omega), nI_le (b := 10) (by omega) (by omega)⟩, ⟨nI_le (a := 1) (by omega) (by omega), nI_le (b := 100) (by omega) (by omega)⟩, ⟨nI_pos' (by omega), nI_le (b := 12) (by omega) (by omega)⟩, ⟨nI_pos' (by omega), nI_le (b := 12) (by omega) (by omega)⟩⟩, (by rw [nI_add, liv_n, nI_leI (by omega) (by omega)]; omega)⟩)) (B + 8) (D + 125) ⟨⟨Nat.le_refl _, bl hKc (Nat.le_of_ble_eq_true rfl)⟩, Nat.le_refl _, bl hKn (Nat.le_of_ble_eq_true rfl)⟩ rfl dL_isTold_685 rfl (fun v_ w9 hv8 => ?_)
      obtain ⟨rfl, hW10⟩ := hv8
      show V X G 15 _ _ _ _ _ _ [.int (if meetR s nm (nI (1 + ((yy / 28) % 10))) (nI (1 + ((yy / 31) % 20))) (nI (ys)) (nI (ns)) = 0 then 0 else 1)]
      generalize meetU s nm (nI (1 + ((yy / 28) % 10))) (nI (1 + ((yy / 31) % 20))) (nI (ys)) (nI (ns)) = s1 at hP_ hW10
      obtain ⟨hJ1, hT1, f1, flv⟩ := hP_
      rw [if_neg hmost] at f1
      refine xx_top (y := 0) (by unfold meetR; rw [bI_f (fun z => hmost ((nI_ltI (by omega) (by omega)).mp z))]; rfl) ?_
      refine v_istore C (lv1 := [(12, .int (0)), (11, .int (nI (tn (s 2 0)))), (10, .int (nI (ns))), (9, .int (nI (ys))), (0, .ref (r 4)), (1, .ref (r 0)), (2, .ref (r 1)), (3, .ref (r 2)), (4, .int (nI (how))), (5, .int (nI (X0))), (6, .int (nI (mi))), (7, .int (nI (yy))), (8, .int (bI (tn (s 17 mi) = 0)))]) dL_isTold_688 rfl (by decide) rfl ?_
      refine v_iload C dL_isTold_690 rfl 3 rfl ?_
      refine v_iload C dL_isTold_692 rfl 2 rfl ?_
      refine v_iaddN C ys ns rfl rfl dL_isTold_694 rfl ?_
      refine v_aload_n C dL_isTold_695 rfl 4 rfl ?_
      refine v_iconst C (v := 5) dL_isTold_696 rfl rfl ?_
      refine q_p5 C hW10 hJ1 (B + 9) (D + 131) ⟨⟨Nat.le_refl _, bl hKc (Nat.le_of_ble_eq_true rfl)⟩, Nat.le_refl _, bl hKn (Nat.le_of_ble_eq_true rfl)⟩ rfl dL_isTold_697 rfl (fun b11 => ?_)
      refine v_icN_le C (t := 728) (ys + ns) (LV s1 nm) rfl rfl (by omega) (by omega) dL_isTold_700 rfl rfl (fun _ => ?_) (fun h => ((by omega : False)).elim)
      refine v_iload C dL_isTold_728 rfl 0 rfl ?_
      refine v_iload C dL_isTold_730 rfl 3 rfl ?_
      refine v_iload C dL_isTold_732 rfl 2 rfl ?_
      refine v_icN_le C (t := 741) ys ns rfl rfl (by omega) (by omega) dL_isTold_734 rfl rfl (fun _ => ?_) (fun h => ((by omega : False)).elim)
      refine v_iconst C (v := 0) dL_isTold_741 rfl rfl ?_
      refine v_icmp_ne C (t := 779) dL_isTold_742 rfl rfl (fun h => absurd h (by decide)) (fun _ => ?_)
      refine v_aload_n C dL_isTold_745 rfl 4 rfl ?_
      refine v_iconst C (v := 0) dL_isTold_746 rfl rfl ?_
      refine q_p0 C hW10 hJ1 (B + 10) (D + 137) ⟨⟨Nat.le_refl _, bl hKc (Nat.le_of_ble_eq_true rfl)⟩, Nat.le_refl _, bl hKn (Nat.le_of_ble_eq_true rfl)⟩ rfl dL_isTold_747 rfl (fun b12 => ?_)
      refine v_iload C dL_isTold_750 rfl 3 rfl ?_
      refine v_iload C dL_isTold_752 rfl 2 rfl ?_
      refine v_icN_le C (t := 770) ys ns rfl rfl (by omega) (by omega) dL_isTold_754 rfl rfl (fun _ => ?_) (fun h => ((by omega : False)).elim)
      refine v_iload C dL_isTold_770 rfl 1 rfl ?_
      refine v_icN_ne C (t := 779) (tn (s1 2 0)) (tn (s 2 0)) rfl rfl (by omega) (by omega) dL_isTold_772 rfl rfl (fun h => (by omega : False).elim) (fun h13 => ?_)
      refine v_iconst C (v := 1) dL_isTold_775 rfl rfl ?_
      refine v_goto C (q := 780) dL_isTold_776 rfl ?_
      exact v_zret C rfl (bl hKc (Nat.le_of_ble_eq_true rfl)) (bl hKn (Nat.le_of_ble_eq_true rfl)) dL_isTold_780 ⟨rfl, _, _, _, _, _, hW10, hJ1.mono (by omega), hT1.mono (by omega), by omega, by omega⟩
  · skip
    refine l_actK C (ax_meet (s := s) (nm := nm) (nc := nc) (nr := nr) hst hG hW hJ.bs (e := 1) (cd := -1792000000) (e1_1 (fun h => hok (by have h9 := h.2; rw [nI_add, liv_n, nI_leI (by omega) (by omega)] at h9; omega))) (by decide) xLA_1) (B + 8) (D + 125) ⟨⟨Nat.le_refl _, bl hKc (Nat.le_of_ble_eq_true rfl)⟩, Nat.le_refl _, bl hKn (Nat.le_of_ble_eq_true rfl)⟩ rfl dL_isTold_685 rfl (fun v_ w_ hv14 => ?_)
    obtain ⟨rfl, hw_, -⟩ := hv14
    rw [hw_]
    show V X G 15 _ _ _ _ _ _ [.int ((-1792000000))]
    refine v_istore C (lv1 := [(12, .int ((-1792000000))), (11, .int (nI (tn (s 2 0)))), (10, .int (nI (ns))), (9, .int (nI (ys))), (0, .ref (r 4)), (1, .ref (r 0)), (2, .ref (r 1)), (3, .ref (r 2)), (4, .int (nI (how))), (5, .int (nI (X0))), (6, .int (nI (mi))), (7, .int (nI (yy))), (8, .int (bI (tn (s 17 mi) = 0)))]) dL_isTold_688 rfl (by decide) rfl ?_
    refine v_iload C dL_isTold_690 rfl 3 rfl ?_
    refine v_iload C dL_isTold_692 rfl 2 rfl ?_
    refine v_iaddN C ys ns rfl rfl dL_isTold_694 rfl ?_
    refine v_aload_n C dL_isTold_695 rfl 4 rfl ?_
    refine v_iconst C (v := 5) dL_isTold_696 rfl rfl ?_
    refine q_p5 C hW hJ (B + 9) (D + 131) ⟨⟨Nat.le_refl _, bl hKc (Nat.le_of_ble_eq_true rfl)⟩, Nat.le_refl _, bl hKn (Nat.le_of_ble_eq_true rfl)⟩ rfl dL_isTold_697 rfl (fun b15 => ?_)
    refine v_icN_le C (t := 728) (ys + ns) (LV s nm) rfl rfl (by omega) (by omega) dL_isTold_700 rfl rfl (fun h => ((by omega : False)).elim) (fun _ => ?_)
    refine v_iload C dL_isTold_703 rfl 0 rfl ?_
    refine v_ldc C (v := (-1792000000)) dL_isTold_705 rfl N_L_111 ?_
    refine v_icmp_ne C (t := 724) dL_isTold_707 rfl rfl (fun h => absurd h (by decide)) (fun _ => ?_)
    refine v_aload_n C dL_isTold_710 rfl 4 rfl ?_
    refine v_iconst C (v := 0) dL_isTold_711 rfl rfl ?_
    refine q_p0 C hW hJ (B + 10) (D + 137) ⟨⟨Nat.le_refl _, bl hKc (Nat.le_of_ble_eq_true rfl)⟩, Nat.le_refl _, bl hKn (Nat.le_of_ble_eq_true rfl)⟩ rfl dL_isTold_712 rfl (fun b16 => ?_)
    refine v_iload C dL_isTold_715 rfl 1 rfl ?_
    refine v_icN_ne C (t := 724) (tn (s 2 0)) (tn (s 2 0)) rfl rfl (by omega) (by omega) dL_isTold_717 rfl rfl (fun h => (by omega : False).elim) (fun h17 => ?_)
    refine v_iconst C (v := 1) dL_isTold_720 rfl rfl ?_
    refine v_goto C (q := 780) dL_isTold_721 rfl ?_
    exact v_zret C rfl (bl hKc (Nat.le_of_ble_eq_true rfl)) (bl hKn (Nat.le_of_ble_eq_true rfl)) dL_isTold_780 ⟨rfl, _, _, _, _, _, hW, hJ.mono (by omega), hT.mono (by omega), by omega, by omega⟩

theorem sg_tld_S {X : XS} {G : GG} {w : va_W} {r : Nat → Nat} {s t : SS} {nm nc nr k B D : Nat} {X0 how : Nat} {mi yy : Nat} (C : Cx X G cL_isTold 15 RL (Option.some Jvm.ClassFile.FieldType.boolean) r_L_isTold "isTold" []) (hW : Wd G r s t nm nc nr w) (hJ : Js s nm nc nr k) (hMi : MiOK G) (hk : k ≤ 130) (hT : K9 s t nm nc nr k) (hX : X0 < 100000000) (hhow : how < 46) (hmi : mi < nm) (hyy : yy < 100000000) (hKc : B + 9 ≤ r_L_isTold.cells) (hKn : D + 131 ≤ r_L_isTold.slots)  : V X G 15 w B D (Tg X G r_L_isTold (fun v w1 => v = some (.int 1) ∧ Nxt G r nm (k + 1) w1) nX) 788 [(0, .ref (r 4)), (1, .ref (r 0)), (2, .ref (r 1)), (3, .ref (r 2)), (4, .int (nI (how))), (5, .int (nI (X0))), (6, .int (nI (mi))), (7, .int (nI (yy))), (8, .int (bI (tn (s 17 mi) = 0)))] [] := by
  have hst : X.2.1.stackTraces = false := C.2.2.2.2.2.1
  have hG : GOK G := C.2.2.2.2.2.2.2.2.2.1
  have hm := hJ.1.1
  have hdy := hJ.1.2.1.2
  have hfr20 := frN_le (z := s) 20
  refine v_aload_n C dL_isTold_788 rfl 0 rfl ?_
  refine v_iconst C (v := 4) dL_isTold_789 rfl rfl ?_
  refine q_p4 C hW hJ (B + 1) (D + 6) ⟨⟨Nat.le_refl _, bl hKc (Nat.le_of_ble_eq_true rfl)⟩, Nat.le_refl _, bl hKn (Nat.le_of_ble_eq_true rfl)⟩ rfl dL_isTold_790 rfl (fun b1 => ?_)
  refine v_istore C (lv1 := [(9, .int (nI (frN s 20))), (0, .ref (r 4)), (1, .ref (r 0)), (2, .ref (r 1)), (3, .ref (r 2)), (4, .int (nI (how))), (5, .int (nI (X0))), (6, .int (nI (mi))), (7, .int (nI (yy))), (8, .int (bI (tn (s 17 mi) = 0)))]) dL_isTold_793 rfl (by decide) rfl ?_
  refine v_aload_n C dL_isTold_795 rfl 1 rfl ?_
  refine q_day C hW hJ (B + 1) (D + 6) ⟨⟨Nat.le_refl _, bl hKc (Nat.le_of_ble_eq_true rfl)⟩, Nat.le_refl _, bl hKn (Nat.le_of_ble_eq_true rfl)⟩ rfl dL_isTold_796 rfl (fun b2 => ?_)
  refine v_iconst C (v := 1) dL_isTold_799 rfl rfl ?_
  refine v_iaddN C (tn (s 0 0)) 1 rfl rfl dL_isTold_800 rfl ?_
  refine v_iload C dL_isTold_801 rfl 8 rfl ?_
  refine v_bipush C (v := 60) dL_isTold_803 rfl rfl ?_
  refine v_idivN C yy 60 rfl rfl (by omega) (by omega) (by omega) dL_isTold_805 rfl ?_
  refine v_bipush C (v := 30) dL_isTold_806 rfl rfl ?_
  refine v_iremN C (yy / 60) 30 rfl rfl (by omega) (by omega) (by omega) dL_isTold_808 rfl ?_
  refine v_iaddN C ((tn (s 0 0)) + 1) ((yy / 60) % 30) rfl rfl dL_isTold_809 rfl ?_
  have hdd : tn (s 0 0) + 1 ≤ ((tn (s 0 0)) + 1) + ((yy / 60) % 30) ∧ ((tn (s 0 0)) + 1) + ((yy / 60) % 30) ≤ tn (s 0 0) + 30 := by omega
  generalize ((tn (s 0 0)) + 1) + ((yy / 60) % 30) = dd at hdd ⊢
  refine v_istore C (lv1 := [(10, .int (nI (dd))), (9, .int (nI (frN s 20))), (0, .ref (r 4)), (1, .ref (r 0)), (2, .ref (r 1)), (3, .ref (r 2)), (4, .int (nI (how))), (5, .int (nI (X0))), (6, .int (nI (mi))), (7, .int (nI (yy))), (8, .int (bI (tn (s 17 mi) = 0)))]) dL_isTold_810 rfl (by decide) rfl ?_
  refine v_aload_n C dL_isTold_812 rfl 2 rfl ?_
  refine v_bipush C (v := 13) dL_isTold_813 rfl rfl ?_
  refine v_iconst C (v := 1) dL_isTold_815 rfl rfl ?_
  refine v_iload C dL_isTold_816 rfl 9 rfl ?_
  refine v_bipush C (v := 60) dL_isTold_818 rfl rfl ?_
  refine v_iremN C yy 60 rfl rfl (by omega) (by omega) (by omega) dL_isTold_820 rfl ?_
  refine v_iaddN C 1 (yy % 60) rfl rfl dL_isTold_821 rfl ?_
  refine v_iload C dL_isTold_822 rfl 0 rfl ?_
  refine v_iconst C (v := 0) dL_isTold_824 rfl rfl ?_
  refine v_iconst C (v := 0) dL_isTold_825 rfl rfl ?_
  by_cases hlate : 5000 < dd
  · skip
    refine l_actK C (ax_freight (s := s) (nm := nm) (nc := nc) (nr := nr) hst hG hW hJ.bs (e := 1) (cd := -1792000000) ((if_neg (fun z => z ⟨nI_le (a := 1) (by omega) (by omega), nI_le (b := 1000) (by omega) (by omega)⟩)).trans (if_pos (fun h => absurd ((nI_leI (b := 5000) (by omega) (by omega)).mp h.2) (by omega)))) (by decide) xLAS_1) (B + 8) (D + 125) ⟨⟨Nat.le_refl _, bl hKc (Nat.le_of_ble_eq_true rfl)⟩, Nat.le_refl _, bl hKn (Nat.le_of_ble_eq_true rfl)⟩ rfl dL_isTold_826 rfl (fun v_ w_ hv3 => ?_)
    obtain ⟨rfl, hw_, -⟩ := hv3
    rw [hw_]
    show V X G 15 _ _ _ _ _ _ [.int ((-1792000000))]
    refine v_istore C (lv1 := [(11, .int ((-1792000000))), (10, .int (nI (dd))), (9, .int (nI (frN s 20))), (0, .ref (r 4)), (1, .ref (r 0)), (2, .ref (r 1)), (3, .ref (r 2)), (4, .int (nI (how))), (5, .int (nI (X0))), (6, .int (nI (mi))), (7, .int (nI (yy))), (8, .int (bI (tn (s 17 mi) = 0)))]) dL_isTold_829 rfl (by decide) rfl ?_
    refine v_iload C dL_isTold_831 rfl 0 rfl ?_
    refine v_iload C dL_isTold_833 rfl 1 rfl ?_
    refine v_sipush C (v := 5000) dL_isTold_835 rfl rfl ?_
    refine v_icN_le C (t := 846) dd 5000 rfl rfl (by omega) (by omega) dL_isTold_838 rfl rfl (fun h => ((by omega : False)).elim) (fun _ => ?_)
    refine v_ldc C (v := (-1792000000)) dL_isTold_841 rfl N_L_111 ?_
    refine v_goto C (q := 859) dL_isTold_843 rfl ?_
    refine v_icmp_ne C (t := 887) dL_isTold_859 rfl rfl (fun h => absurd h (by decide)) (fun _ => ?_)
    refine v_aload_n C dL_isTold_862 rfl 3 rfl ?_
    refine v_iconst C (v := 4) dL_isTold_863 rfl rfl ?_
    refine q_p4 C hW hJ (B + 9) (D + 131) ⟨⟨Nat.le_refl _, bl hKc (Nat.le_of_ble_eq_true rfl)⟩, Nat.le_refl _, bl hKn (Nat.le_of_ble_eq_true rfl)⟩ rfl dL_isTold_864 rfl (fun b4 => ?_)
    refine v_iload C dL_isTold_867 rfl 2 rfl ?_
    refine v_iload C dL_isTold_869 rfl 0 rfl ?_
    refine v_if_ne C (t := 878) dL_isTold_871 rfl rfl (fun _ => ?_) (fun h => absurd h (by decide))
    refine v_iconst C (v := 0) dL_isTold_878 rfl rfl ?_
    refine v_iaddN C (frN s 20) 0 rfl rfl dL_isTold_879 rfl ?_
    refine v_icN_ne C (t := 887) (frN s 20) ((frN s 20) + 0) rfl rfl (by omega) (by omega) dL_isTold_880 rfl rfl (fun h => (by omega : False).elim) (fun h5 => ?_)
    refine v_iconst C (v := 1) dL_isTold_883 rfl rfl ?_
    refine v_goto C (q := 888) dL_isTold_884 rfl ?_
    exact v_zret C rfl (bl hKc (Nat.le_of_ble_eq_true rfl)) (bl hKn (Nat.le_of_ble_eq_true rfl)) dL_isTold_888 ⟨rfl, _, _, _, _, _, hW, hJ.mono (by omega), hT.mono (by omega), by omega, by omega⟩
  · skip
    by_cases hfull : ¬ frN s 20 < 20
    · skip
      refine l_actK C (ax_freight (s := s) (nm := nm) (nc := nc) (nr := nr) hst hG hW hJ.bs (e := 2) (cd := -1793000000) ((if_neg (fun z => z ⟨nI_le (a := 1) (by omega) (by omega), nI_le (b := 1000) (by omega) (by omega)⟩)).trans ((if_neg (fun z => z ⟨by rw [hJ.1.2.1.1.e, nI_1]; exact nI_le (by omega) (by omega), nI_le (b := 5000) (by omega) (by omega)⟩)).trans (if_pos hfull))) (by decide) xLAS_2) (B + 8) (D + 125) ⟨⟨Nat.le_refl _, bl hKc (Nat.le_of_ble_eq_true rfl)⟩, Nat.le_refl _, bl hKn (Nat.le_of_ble_eq_true rfl)⟩ rfl dL_isTold_826 rfl (fun v_ w_ hv6 => ?_)
      obtain ⟨rfl, hw_, -⟩ := hv6
      rw [hw_]
      show V X G 15 _ _ _ _ _ _ [.int ((-1793000000))]
      refine v_istore C (lv1 := [(11, .int ((-1793000000))), (10, .int (nI (dd))), (9, .int (nI (frN s 20))), (0, .ref (r 4)), (1, .ref (r 0)), (2, .ref (r 1)), (3, .ref (r 2)), (4, .int (nI (how))), (5, .int (nI (X0))), (6, .int (nI (mi))), (7, .int (nI (yy))), (8, .int (bI (tn (s 17 mi) = 0)))]) dL_isTold_829 rfl (by decide) rfl ?_
      refine v_iload C dL_isTold_831 rfl 0 rfl ?_
      refine v_iload C dL_isTold_833 rfl 1 rfl ?_
      refine v_sipush C (v := 5000) dL_isTold_835 rfl rfl ?_
      refine v_icN_le C (t := 846) dd 5000 rfl rfl (by omega) (by omega) dL_isTold_838 rfl rfl (fun _ => ?_) (fun h => ((by omega : False)).elim)
      refine v_iload C dL_isTold_846 rfl 2 rfl ?_
      refine v_bipush C (v := 20) dL_isTold_848 rfl rfl ?_
      refine v_icN_ne C (t := 858) (frN s 20) 20 rfl rfl (by omega) (by omega) dL_isTold_850 rfl rfl (fun h => ((by omega : False)).elim) (fun _ => ?_)
      refine v_ldc C (v := (-1793000000)) dL_isTold_853 rfl N_L_114 ?_
      refine v_goto C (q := 859) dL_isTold_855 rfl ?_
      refine v_icmp_ne C (t := 887) dL_isTold_859 rfl rfl (fun h => absurd h (by decide)) (fun _ => ?_)
      refine v_aload_n C dL_isTold_862 rfl 3 rfl ?_
      refine v_iconst C (v := 4) dL_isTold_863 rfl rfl ?_
      refine q_p4 C hW hJ (B + 9) (D + 131) ⟨⟨Nat.le_refl _, bl hKc (Nat.le_of_ble_eq_true rfl)⟩, Nat.le_refl _, bl hKn (Nat.le_of_ble_eq_true rfl)⟩ rfl dL_isTold_864 rfl (fun b7 => ?_)
      refine v_iload C dL_isTold_867 rfl 2 rfl ?_
      refine v_iload C dL_isTold_869 rfl 0 rfl ?_
      refine v_if_ne C (t := 878) dL_isTold_871 rfl rfl (fun _ => ?_) (fun h => absurd h (by decide))
      refine v_iconst C (v := 0) dL_isTold_878 rfl rfl ?_
      refine v_iaddN C (frN s 20) 0 rfl rfl dL_isTold_879 rfl ?_
      refine v_icN_ne C (t := 887) (frN s 20) ((frN s 20) + 0) rfl rfl (by omega) (by omega) dL_isTold_880 rfl rfl (fun h => (by omega : False).elim) (fun h8 => ?_)
      refine v_iconst C (v := 1) dL_isTold_883 rfl rfl ?_
      refine v_goto C (q := 888) dL_isTold_884 rfl ?_
      exact v_zret C rfl (bl hKc (Nat.le_of_ble_eq_true rfl)) (bl hKn (Nat.le_of_ble_eq_true rfl)) dL_isTold_888 ⟨rfl, _, _, _, _, _, hW, hJ.mono (by omega), hT.mono (by omega), by omega, by omega⟩
    · skip
      have hP_ := P_freight hJ hT (m := 1 + (yy % 60)) (d := nI (dd)) (by omega) (by omega) (by omega)
      refine l_actK C (ao_freight (s := s) (nm := nm) (nc := nc) (nr := nr) hst hG hW hJ.bs ((if_neg (fun z => z ⟨nI_le (a := 1) (by omega) (by omega), nI_le (b := 1000) (by omega) (by omega)⟩)).trans ((if_neg (fun z => z ⟨by rw [hJ.1.2.1.1.e, nI_1]; exact nI_le (by omega) (by omega), nI_le (b := 5000) (by omega) (by omega)⟩)).trans (if_neg hfull)))) (B + 8) (D + 125) ⟨⟨Nat.le_refl _, bl hKc (Nat.le_of_ble_eq_true rfl)⟩, Nat.le_refl _, bl hKn (Nat.le_of_ble_eq_true rfl)⟩ rfl dL_isTold_826 rfl (fun v_ w10 hv9 => ?_)
      obtain ⟨rfl, hW11⟩ := hv9
      show V X G 15 _ _ _ _ _ _ [.int (0)]
      generalize sndF s (nI (1 + (yy % 60))) (nI (dd)) = s1 at hP_ hW11
      obtain ⟨hJ1, hT1, f1⟩ := hP_
      refine v_istore C (lv1 := [(11, .int (0)), (10, .int (nI (dd))), (9, .int (nI (frN s 20))), (0, .ref (r 4)), (1, .ref (r 0)), (2, .ref (r 1)), (3, .ref (r 2)), (4, .int (nI (how))), (5, .int (nI (X0))), (6, .int (nI (mi))), (7, .int (nI (yy))), (8, .int (bI (tn (s 17 mi) = 0)))]) dL_isTold_829 rfl (by decide) rfl ?_
      refine v_iload C dL_isTold_831 rfl 0 rfl ?_
      refine v_iload C dL_isTold_833 rfl 1 rfl ?_
      refine v_sipush C (v := 5000) dL_isTold_835 rfl rfl ?_
      refine v_icN_le C (t := 846) dd 5000 rfl rfl (by omega) (by omega) dL_isTold_838 rfl rfl (fun _ => ?_) (fun h => ((by omega : False)).elim)
      refine v_iload C dL_isTold_846 rfl 2 rfl ?_
      refine v_bipush C (v := 20) dL_isTold_848 rfl rfl ?_
      refine v_icN_ne C (t := 858) (frN s 20) 20 rfl rfl (by omega) (by omega) dL_isTold_850 rfl rfl (fun _ => ?_) (fun h => ((by omega : False)).elim)
      refine v_iconst C (v := 0) dL_isTold_858 rfl rfl ?_
      refine v_icmp_ne C (t := 887) dL_isTold_859 rfl rfl (fun h => absurd h (by decide)) (fun _ => ?_)
      refine v_aload_n C dL_isTold_862 rfl 3 rfl ?_
      refine v_iconst C (v := 4) dL_isTold_863 rfl rfl ?_
      refine q_p4 C hW11 hJ1 (B + 9) (D + 131) ⟨⟨Nat.le_refl _, bl hKc (Nat.le_of_ble_eq_true rfl)⟩, Nat.le_refl _, bl hKn (Nat.le_of_ble_eq_true rfl)⟩ rfl dL_isTold_864 rfl (fun b12 => ?_)
      refine v_iload C dL_isTold_867 rfl 2 rfl ?_
      refine v_iload C dL_isTold_869 rfl 0 rfl ?_
      refine v_if_ne C (t := 878) dL_isTold_871 rfl rfl (fun h => absurd h (by decide)) (fun _ => ?_)
      refine v_iconst C (v := 1) dL_isTold_874 rfl rfl ?_
      refine v_goto C (q := 879) dL_isTold_875 rfl ?_
      refine v_iaddN C (frN s 20) 1 rfl rfl dL_isTold_879 rfl ?_
      refine v_icN_ne C (t := 887) (frN s1 20) ((frN s 20) + 1) rfl rfl (by omega) (by omega) dL_isTold_880 rfl rfl (fun h => (by omega : False).elim) (fun h13 => ?_)
      refine v_iconst C (v := 1) dL_isTold_883 rfl rfl ?_
      refine v_goto C (q := 888) dL_isTold_884 rfl ?_
      exact v_zret C rfl (bl hKc (Nat.le_of_ble_eq_true rfl)) (bl hKn (Nat.le_of_ble_eq_true rfl)) dL_isTold_888 ⟨rfl, _, _, _, _, _, hW11, hJ1.mono (by omega), hT1, by omega, by omega⟩

theorem sg_tld_B0 {X : XS} {G : GG} {w : va_W} {Q : State → Prop} {r : Nat → Nat} {s t : SS} {nm nc nr k B D : Nat} {X0 how : Nat} {mi yy : Nat} (C : Cx X G cL_isTold 15 RL (Option.some Jvm.ClassFile.FieldType.boolean) r_L_isTold "isTold" []) (hW : Wd G r s t nm nc nr w) (hJ : Js s nm nc nr k) (hMi : MiOK G) (hk : k ≤ 130) (hT : K9 s t nm nc nr k) (hX : X0 < 100000000) (hhow : how < 46) (hmi : mi < nm) (hyy : yy < 100000000) (hKc : B + 0 ≤ r_L_isTold.cells) (hKn : D + 0 ≤ r_L_isTold.slots) (kk : ∀ i0, i0 < 60 → V X G 15 w (B + 0) (D + 0) Q 914 [(0, .ref (r 4)), (1, .ref (r 0)), (2, .ref (r 1)), (3, .ref (r 2)), (4, .int (nI (how))), (5, .int (nI (X0))), (6, .int (nI (mi))), (7, .int (nI (yy))), (8, .int (bI (tn (s 17 mi) = 0)))] [.int (nI (i0)), .int (1)]) : V X G 15 w B D Q 896 [(0, .ref (r 4)), (1, .ref (r 0)), (2, .ref (r 1)), (3, .ref (r 2)), (4, .int (nI (how))), (5, .int (nI (X0))), (6, .int (nI (mi))), (7, .int (nI (yy))), (8, .int (bI (tn (s 17 mi) = 0)))] [] := by
  have hst : X.2.1.stackTraces = false := C.2.2.2.2.2.1
  have hG : GOK G := C.2.2.2.2.2.2.2.2.2.1
  have hm := hJ.1.1
  refine v_iconst C (v := 1) dL_isTold_896 rfl rfl ?_
  refine v_iload C dL_isTold_897 rfl 7 rfl ?_
  refine v_iload C dL_isTold_899 rfl 7 rfl ?_
  refine v_iconst C (v := 4) dL_isTold_901 rfl rfl ?_
  refine v_iremN C yy 4 rfl rfl (by omega) (by omega) (by omega) dL_isTold_902 rfl ?_
  refine v_ifN_ne C (t := 911) (yy % 4) rfl (by omega) dL_isTold_903 rfl rfl (fun h1 => ?_) (fun h1 => ?_)
  · skip
    refine v_bipush C (v := 12) dL_isTold_911 rfl rfl ?_
    refine v_iremN C yy 12 rfl rfl (by omega) (by omega) (by omega) dL_isTold_913 rfl ?_
    refine xx_lv [0, 1, 2, 3, 4, 5, 6, 7, 8] (lv' := [(0, .ref (r 4)), (1, .ref (r 0)), (2, .ref (r 1)), (3, .ref (r 2)), (4, .int (nI (how))), (5, .int (nI (X0))), (6, .int (nI (mi))), (7, .int (nI (yy))), (8, .int (bI (tn (s 17 mi) = 0)))]) rfl ?_
    exact xx_mono (Nat.le_add_right _ _) (Nat.le_add_right _ _) (kk (yy % 12) (by omega))
  · skip
    refine v_bipush C (v := 60) dL_isTold_906 rfl rfl ?_
    refine v_goto C (q := 913) dL_isTold_908 rfl ?_
    refine v_iremN C yy 60 rfl rfl (by omega) (by omega) (by omega) dL_isTold_913 rfl ?_
    refine xx_lv [0, 1, 2, 3, 4, 5, 6, 7, 8] (lv' := [(0, .ref (r 4)), (1, .ref (r 0)), (2, .ref (r 1)), (3, .ref (r 2)), (4, .int (nI (how))), (5, .int (nI (X0))), (6, .int (nI (mi))), (7, .int (nI (yy))), (8, .int (bI (tn (s 17 mi) = 0)))]) rfl ?_
    exact xx_mono (Nat.le_add_right _ _) (Nat.le_add_right _ _) (kk (yy % 60) (by omega))

theorem sg_tld_B1 {X : XS} {G : GG} {w : va_W} {Q : State → Prop} {r : Nat → Nat} {s t : SS} {nm nc nr k B D : Nat} {X0 how : Nat} {mi yy : Nat} {i0 : Nat} (C : Cx X G cL_isTold 15 RL (Option.some Jvm.ClassFile.FieldType.boolean) r_L_isTold "isTold" []) (hW : Wd G r s t nm nc nr w) (hJ : Js s nm nc nr k) (hMi : MiOK G) (hk : k ≤ 130) (hT : K9 s t nm nc nr k) (hX : X0 < 100000000) (hhow : how < 46) (hmi : mi < nm) (hyy : yy < 100000000) (hi0 : i0 < 60) (hKc : B + 6 ≤ r_L_isTold.cells) (hKn : D + 36 ≤ r_L_isTold.slots) (kk : V X G 15 w (B + 6) (D + 36) Q 976 [(0, .ref (r 4)), (1, .ref (r 0)), (2, .ref (r 1)), (3, .ref (r 2)), (4, .int (nI (how))), (5, .int (nI (X0))), (6, .int (nI (mi))), (7, .int (nI (yy))), (8, .int (bI (tn (s 17 mi) = 0))), (9, .int (nI (1 + i0))), (10, .int (nI (PR (tn (s 5 0))))), (11, .int (nI (tn (s 5 0)))), (12, .int (nI (tn (s 16 mi)))), (13, .int (nI (tn (s 15 mi))))] [.int (bI (¬ tn (s 17 mi) = 0 ∧ 1 + i0 ≤ tn (s 5 0) ∧ (1 + i0) * PR (tn (s 5 0)) ≤ tn (s 16 mi)))]) : V X G 15 w B D Q 914 [(0, .ref (r 4)), (1, .ref (r 0)), (2, .ref (r 1)), (3, .ref (r 2)), (4, .int (nI (how))), (5, .int (nI (X0))), (6, .int (nI (mi))), (7, .int (nI (yy))), (8, .int (bI (tn (s 17 mi) = 0)))] [.int (nI (i0)), .int (1)] := by
  have hst : X.2.1.stackTraces = false := C.2.2.2.2.2.1
  have hG : GOK G := C.2.2.2.2.2.2.2.2.2.1
  have hm := hJ.1.1
  have hp1 := PR_b (tn (s 5 0))
  have hp2 : (1 + i0) * PR (tn (s 5 0)) ≤ 60 * 25 := Nat.mul_le_mul (by omega) hp1.2
  have m15 := (hJ.m15 hmi).2
  have m16 := (hJ.m16 hmi).2
  have h5b := hJ.2.1.2.2
  refine v_iaddN C 1 i0 rfl rfl dL_isTold_914 rfl ?_
  refine v_istore C (lv1 := [(9, .int (nI (1 + i0))), (0, .ref (r 4)), (1, .ref (r 0)), (2, .ref (r 1)), (3, .ref (r 2)), (4, .int (nI (how))), (5, .int (nI (X0))), (6, .int (nI (mi))), (7, .int (nI (yy))), (8, .int (bI (tn (s 17 mi) = 0)))]) dL_isTold_915 rfl (by decide) rfl ?_
  refine v_aload_n C dL_isTold_917 rfl 1 rfl ?_
  refine v_iconst C (v := 3) dL_isTold_918 rfl rfl ?_
  refine q_p3 C hW hJ (B + 1) (D + 6) ⟨⟨Nat.le_refl _, bl hKc (Nat.le_of_ble_eq_true rfl)⟩, Nat.le_refl _, bl hKn (Nat.le_of_ble_eq_true rfl)⟩ rfl dL_isTold_919 rfl (fun b1 => ?_)
  refine v_istore C (lv1 := [(10, .int (nI (PR (tn (s 5 0))))), (9, .int (nI (1 + i0))), (0, .ref (r 4)), (1, .ref (r 0)), (2, .ref (r 1)), (3, .ref (r 2)), (4, .int (nI (how))), (5, .int (nI (X0))), (6, .int (nI (mi))), (7, .int (nI (yy))), (8, .int (bI (tn (s 17 mi) = 0)))]) dL_isTold_922 rfl (by decide) rfl ?_
  refine v_aload_n C dL_isTold_924 rfl 2 rfl ?_
  refine v_iconst C (v := 2) dL_isTold_925 rfl rfl ?_
  refine q_p2 C hW hJ (B + 2) (D + 12) ⟨⟨Nat.le_refl _, bl hKc (Nat.le_of_ble_eq_true rfl)⟩, Nat.le_refl _, bl hKn (Nat.le_of_ble_eq_true rfl)⟩ rfl dL_isTold_926 rfl (fun b2 => ?_)
  refine v_istore C (lv1 := [(11, .int (nI (tn (s 5 0)))), (10, .int (nI (PR (tn (s 5 0))))), (9, .int (nI (1 + i0))), (0, .ref (r 4)), (1, .ref (r 0)), (2, .ref (r 1)), (3, .ref (r 2)), (4, .int (nI (how))), (5, .int (nI (X0))), (6, .int (nI (mi))), (7, .int (nI (yy))), (8, .int (bI (tn (s 17 mi) = 0)))]) dL_isTold_929 rfl (by decide) rfl ?_
  refine v_aload_n C dL_isTold_931 rfl 3 rfl ?_
  refine v_iload C dL_isTold_932 rfl 9 rfl ?_
  refine v_iconst C (v := 3) dL_isTold_934 rfl rfl ?_
  refine q_m3 C hW hJ (i := mi) (by omega) (B + 4) (D + 24) ⟨⟨Nat.le_refl _, bl hKc (Nat.le_of_ble_eq_true rfl)⟩, Nat.le_refl _, bl hKn (Nat.le_of_ble_eq_true rfl)⟩ rfl dL_isTold_935 rfl (fun b3 => ?_)
  refine v_istore C (lv1 := [(12, .int (nI (tn (s 16 mi)))), (11, .int (nI (tn (s 5 0)))), (10, .int (nI (PR (tn (s 5 0))))), (9, .int (nI (1 + i0))), (0, .ref (r 4)), (1, .ref (r 0)), (2, .ref (r 1)), (3, .ref (r 2)), (4, .int (nI (how))), (5, .int (nI (X0))), (6, .int (nI (mi))), (7, .int (nI (yy))), (8, .int (bI (tn (s 17 mi) = 0)))]) dL_isTold_938 rfl (by decide) rfl ?_
  refine v_aload_n C dL_isTold_940 rfl 4 rfl ?_
  refine v_iload C dL_isTold_941 rfl 10 rfl ?_
  refine v_iconst C (v := 2) dL_isTold_943 rfl rfl ?_
  refine q_m2 C hW hJ (i := mi) (by omega) (B + 6) (D + 36) ⟨⟨Nat.le_refl _, bl hKc (Nat.le_of_ble_eq_true rfl)⟩, Nat.le_refl _, bl hKn (Nat.le_of_ble_eq_true rfl)⟩ rfl dL_isTold_944 rfl (fun b4 => ?_)
  refine v_istore C (lv1 := [(13, .int (nI (tn (s 15 mi)))), (12, .int (nI (tn (s 16 mi)))), (11, .int (nI (tn (s 5 0)))), (10, .int (nI (PR (tn (s 5 0))))), (9, .int (nI (1 + i0))), (0, .ref (r 4)), (1, .ref (r 0)), (2, .ref (r 1)), (3, .ref (r 2)), (4, .int (nI (how))), (5, .int (nI (X0))), (6, .int (nI (mi))), (7, .int (nI (yy))), (8, .int (bI (tn (s 17 mi) = 0)))]) dL_isTold_947 rfl (by decide) rfl ?_
  refine v_iload C dL_isTold_949 rfl 13 rfl ?_
  refine v_ifB_ne C (t := 975) dL_isTold_951 rfl rfl (fun h5 => ?_) (fun h5 => ?_)
  · skip
    refine v_iconst C (v := 0) dL_isTold_975 rfl rfl ?_
    refine xx_top (y := bI (¬ tn (s 17 mi) = 0 ∧ 1 + i0 ≤ tn (s 5 0) ∧ (1 + i0) * PR (tn (s 5 0)) ≤ tn (s 16 mi))) (bI_f (by omega)).symm ?_
    refine xx_lv [5, 6, 7, 8, 9, 10, 11, 12, 13, 4, 3, 2, 1, 0] (lv' := [(0, .ref (r 4)), (1, .ref (r 0)), (2, .ref (r 1)), (3, .ref (r 2)), (4, .int (nI (how))), (5, .int (nI (X0))), (6, .int (nI (mi))), (7, .int (nI (yy))), (8, .int (bI (tn (s 17 mi) = 0))), (9, .int (nI (1 + i0))), (10, .int (nI (PR (tn (s 5 0))))), (11, .int (nI (tn (s 5 0)))), (12, .int (nI (tn (s 16 mi)))), (13, .int (nI (tn (s 15 mi))))]) rfl ?_
    exact xx_mono (bm (Nat.le_of_ble_eq_true rfl)) (bm (Nat.le_of_ble_eq_true rfl)) (kk)
  · skip
    refine v_iload C dL_isTold_954 rfl 4 rfl ?_
    refine v_iload C dL_isTold_956 rfl 2 rfl ?_
    refine v_icN_gt C (t := 975) (1 + i0) (tn (s 5 0)) rfl rfl (by omega) (by omega) dL_isTold_958 rfl rfl (fun h6 => ?_) (fun h6 => ?_)
    · skip
      refine v_iconst C (v := 0) dL_isTold_975 rfl rfl ?_
      refine xx_top (y := bI (¬ tn (s 17 mi) = 0 ∧ 1 + i0 ≤ tn (s 5 0) ∧ (1 + i0) * PR (tn (s 5 0)) ≤ tn (s 16 mi))) (bI_f (by omega)).symm ?_
      refine xx_lv [5, 6, 7, 8, 9, 10, 11, 12, 13, 4, 3, 2, 1, 0] (lv' := [(0, .ref (r 4)), (1, .ref (r 0)), (2, .ref (r 1)), (3, .ref (r 2)), (4, .int (nI (how))), (5, .int (nI (X0))), (6, .int (nI (mi))), (7, .int (nI (yy))), (8, .int (bI (tn (s 17 mi) = 0))), (9, .int (nI (1 + i0))), (10, .int (nI (PR (tn (s 5 0))))), (11, .int (nI (tn (s 5 0)))), (12, .int (nI (tn (s 16 mi)))), (13, .int (nI (tn (s 15 mi))))]) rfl ?_
      exact xx_mono (bm (Nat.le_of_ble_eq_true rfl)) (bm (Nat.le_of_ble_eq_true rfl)) (kk)
    · skip
      refine v_iload C dL_isTold_961 rfl 4 rfl ?_
      refine v_iload C dL_isTold_963 rfl 3 rfl ?_
      refine v_imulN C (1 + i0) (PR (tn (s 5 0))) rfl rfl dL_isTold_965 rfl ?_
      refine v_iload C dL_isTold_966 rfl 1 rfl ?_
      refine xx_sel (P := ((1 + i0) * (PR (tn (s 5 0)))) ≤ (tn (s 16 mi))) 976 [] ?_ (fun jj => ?_)
      · skip
        refine xx_top (y := bI (¬ tn (s 17 mi) = 0 ∧ 1 + i0 ≤ tn (s 5 0) ∧ (1 + i0) * PR (tn (s 5 0)) ≤ tn (s 16 mi))) (bI_iff (by omega)) ?_
        refine xx_lv [5, 6, 7, 8, 9, 10, 11, 12, 13, 4, 3, 2, 1, 0] (lv' := [(0, .ref (r 4)), (1, .ref (r 0)), (2, .ref (r 1)), (3, .ref (r 2)), (4, .int (nI (how))), (5, .int (nI (X0))), (6, .int (nI (mi))), (7, .int (nI (yy))), (8, .int (bI (tn (s 17 mi) = 0))), (9, .int (nI (1 + i0))), (10, .int (nI (PR (tn (s 5 0))))), (11, .int (nI (tn (s 5 0)))), (12, .int (nI (tn (s 16 mi)))), (13, .int (nI (tn (s 15 mi))))]) rfl ?_
        exact xx_mono (bm (Nat.le_of_ble_eq_true rfl)) (bm (Nat.le_of_ble_eq_true rfl)) (kk)
      refine v_icN_gt C (t := 975) ((1 + i0) * (PR (tn (s 5 0)))) (tn (s 16 mi)) rfl rfl (by omega) (by omega) dL_isTold_968 rfl rfl (fun h7 => ?_) (fun h7 => ?_)
      · skip
        refine v_iconst C (v := 0) dL_isTold_975 rfl rfl ?_
        exact jj _ (bI_f (by first | assumption | omega)).symm
      · skip
        refine v_iconst C (v := 1) dL_isTold_971 rfl rfl ?_
        refine v_goto C (q := 976) dL_isTold_972 rfl ?_
        exact jj _ (bI_t (by first | assumption | omega)).symm

theorem sg_tld_B2 {X : XS} {G : GG} {w : va_W} {r : Nat → Nat} {s t : SS} {nm nc nr k B D : Nat} {X0 how : Nat} {mi yy : Nat} {i0 : Nat} (C : Cx X G cL_isTold 15 RL (Option.some Jvm.ClassFile.FieldType.boolean) r_L_isTold "isTold" []) (hW : Wd G r s t nm nc nr w) (hJ : Js s nm nc nr k) (hMi : MiOK G) (hk : k ≤ 130) (hT : K9 s t nm nc nr k) (hX : X0 < 100000000) (hhow : how < 46) (hmi : mi < nm) (hyy : yy < 100000000) (hi0 : i0 < 60) (hKc : B + 13 ≤ r_L_isTold.cells) (hKn : D + 155 ≤ r_L_isTold.slots)  : V X G 15 w B D (Tg X G r_L_isTold (fun v w1 => v = some (.int 1) ∧ Nxt G r nm (k + 1) w1) nX) 976 [(0, .ref (r 4)), (1, .ref (r 0)), (2, .ref (r 1)), (3, .ref (r 2)), (4, .int (nI (how))), (5, .int (nI (X0))), (6, .int (nI (mi))), (7, .int (nI (yy))), (8, .int (bI (tn (s 17 mi) = 0))), (9, .int (nI (1 + i0))), (10, .int (nI (PR (tn (s 5 0))))), (11, .int (nI (tn (s 5 0)))), (12, .int (nI (tn (s 16 mi)))), (13, .int (nI (tn (s 15 mi))))] [.int (bI (¬ tn (s 17 mi) = 0 ∧ 1 + i0 ≤ tn (s 5 0) ∧ (1 + i0) * PR (tn (s 5 0)) ≤ tn (s 16 mi)))] := by
  have hst : X.2.1.stackTraces = false := C.2.2.2.2.2.1
  have hG : GOK G := C.2.2.2.2.2.2.2.2.2.1
  have hm := hJ.1.1
  have hp1 := PR_b (tn (s 5 0))
  have hp2 : (1 + i0) * PR (tn (s 5 0)) ≤ 60 * 25 := Nat.mul_le_mul (by omega) hp1.2
  have m15 := (hJ.m15 hmi).2
  have m16 := (hJ.m16 hmi).2
  have h5b := hJ.2.1.2.2
  refine v_istore C (lv1 := [(14, .int (bI (¬ tn (s 17 mi) = 0 ∧ 1 + i0 ≤ tn (s 5 0) ∧ (1 + i0) * PR (tn (s 5 0)) ≤ tn (s 16 mi)))), (0, .ref (r 4)), (1, .ref (r 0)), (2, .ref (r 1)), (3, .ref (r 2)), (4, .int (nI (how))), (5, .int (nI (X0))), (6, .int (nI (mi))), (7, .int (nI (yy))), (8, .int (bI (tn (s 17 mi) = 0))), (9, .int (nI (1 + i0))), (10, .int (nI (PR (tn (s 5 0))))), (11, .int (nI (tn (s 5 0)))), (12, .int (nI (tn (s 16 mi)))), (13, .int (nI (tn (s 15 mi))))]) dL_isTold_976 rfl (by decide) rfl ?_
  refine v_aload_n C dL_isTold_978 rfl 1 rfl ?_
  refine v_bipush C (v := 14) dL_isTold_979 rfl rfl ?_
  refine v_iload C dL_isTold_981 rfl 7 rfl ?_
  refine v_iload C dL_isTold_983 rfl 10 rfl ?_
  refine v_iconst C (v := 0) dL_isTold_985 rfl rfl ?_
  refine v_iconst C (v := 0) dL_isTold_986 rfl rfl ?_
  by_cases hcan : ¬ tn (s 17 mi) = 0 ∧ 1 + i0 ≤ tn (s 5 0) ∧ (1 + i0) * PR (tn (s 5 0)) ≤ tn (s 16 mi)
  · skip
    have hP_ := P_buy hJ hT (x := mi) (m := 1 + i0) hk hmi (by omega) (by omega) (by omega)
    refine l_actK C (ao_buy (s := s) (nm := nm) (nc := nc) (nr := nr) hst hG hW hJ.bs (e3_0 (mi_of hW.cnt.1 hmi (by omega)) ⟨nI_le (a := 1) (by omega) (by omega), nI_le (b := 1000) (by omega) (by omega)⟩ (by rw [price_n hJ.2.1.1, pk_mul, tn_nI (show mi < 2 ^ 31 by omega), (hJ.m16 hmi).1.ltc (by omega), (hJ.m17 hmi).1.eq0, (hJ.2.1.1).ltc (n := 1 + i0) (by omega)]; omega))) (B + 7) (D + 119) ⟨⟨Nat.le_refl _, bl hKc (Nat.le_of_ble_eq_true rfl)⟩, Nat.le_refl _, bl hKn (Nat.le_of_ble_eq_true rfl)⟩ rfl dL_isTold_987 rfl (fun v_ w2 hv1 => ?_)
    obtain ⟨rfl, hW3⟩ := hv1
    show V X G 15 _ _ _ _ _ _ [.int (buyR s (nI (mi)) (nI (1 + i0)))]
    generalize buyU s (nI (mi)) (nI (1 + i0)) = s1 at hP_ hW3
    obtain ⟨hJ1, hT1, f1, f2, f3⟩ := hP_
    have f4 := PR_m (show tn (s1 5 0) ≤ tn (s 5 0) by omega)
    refine xx_top (y := nI ((1 + i0) * PR (tn (s 5 0)))) (by unfold buyR; rw [price_n hJ.2.1.1, pk_mul]) ?_
    refine v_iload C dL_isTold_990 rfl 0 rfl ?_
    refine v_ifB_eq C (t := 1003) dL_isTold_992 rfl rfl (fun h => absurd hcan h) (fun _ => ?_)
    refine v_iload C dL_isTold_995 rfl 10 rfl ?_
    refine v_iload C dL_isTold_997 rfl 11 rfl ?_
    refine v_imulN C (1 + i0) (PR (tn (s 5 0))) rfl rfl dL_isTold_999 rfl ?_
    refine v_goto C (q := 1005) dL_isTold_1000 rfl ?_
    refine v_icN_ne C (t := 1073) ((1 + i0) * PR (tn (s 5 0))) ((1 + i0) * (PR (tn (s 5 0)))) rfl rfl (by omega) (by omega) dL_isTold_1005 rfl rfl (fun h => ((by omega : False)).elim) (fun _ => ?_)
    refine v_iload C dL_isTold_1008 rfl 0 rfl ?_
    refine v_ifB_eq C (t := 1069) dL_isTold_1010 rfl rfl (fun h => absurd hcan h) (fun _ => ?_)
    refine v_aload_n C dL_isTold_1013 rfl 1 rfl ?_
    refine v_iconst C (v := 2) dL_isTold_1014 rfl rfl ?_
    refine q_p2 C hW3 hJ1 (B + 8) (D + 125) ⟨⟨Nat.le_refl _, bl hKc (Nat.le_of_ble_eq_true rfl)⟩, Nat.le_refl _, bl hKn (Nat.le_of_ble_eq_true rfl)⟩ rfl dL_isTold_1015 rfl (fun b4 => ?_)
    refine v_iload C dL_isTold_1018 rfl 12 rfl ?_
    refine v_iload C dL_isTold_1020 rfl 10 rfl ?_
    refine v_isubN C (tn (s 5 0)) (1 + i0) (by omega) rfl rfl dL_isTold_1022 rfl ?_
    refine v_icN_ne C (t := 1073) (tn (s1 5 0)) ((tn (s 5 0)) - (1 + i0)) rfl rfl (by omega) (by omega) dL_isTold_1023 rfl rfl (fun h => (by omega : False).elim) (fun h5 => ?_)
    refine v_aload_n C dL_isTold_1026 rfl 1 rfl ?_
    refine v_iload C dL_isTold_1027 rfl 7 rfl ?_
    refine v_iconst C (v := 2) dL_isTold_1029 rfl rfl ?_
    refine q_m2 C hW3 hJ1 (i := mi) (by omega) (B + 10) (D + 137) ⟨⟨Nat.le_refl _, bl hKc (Nat.le_of_ble_eq_true rfl)⟩, Nat.le_refl _, bl hKn (Nat.le_of_ble_eq_true rfl)⟩ rfl dL_isTold_1030 rfl (fun b6 => ?_)
    refine v_iload C dL_isTold_1033 rfl 14 rfl ?_
    refine v_iload C dL_isTold_1035 rfl 10 rfl ?_
    refine v_iaddN C (tn (s 15 mi)) (1 + i0) rfl rfl dL_isTold_1037 rfl ?_
    refine v_icN_ne C (t := 1073) (tn (s1 15 mi)) ((tn (s 15 mi)) + (1 + i0)) rfl rfl (by omega) (by omega) dL_isTold_1038 rfl rfl (fun h => (by omega : False).elim) (fun h7 => ?_)
    refine v_aload_n C dL_isTold_1041 rfl 1 rfl ?_
    refine v_iload C dL_isTold_1042 rfl 7 rfl ?_
    refine v_iconst C (v := 3) dL_isTold_1044 rfl rfl ?_
    refine q_m3 C hW3 hJ1 (i := mi) (by omega) (B + 12) (D + 149) ⟨⟨Nat.le_refl _, bl hKc (Nat.le_of_ble_eq_true rfl)⟩, Nat.le_refl _, bl hKn (Nat.le_of_ble_eq_true rfl)⟩ rfl dL_isTold_1045 rfl (fun b8 => ?_)
    refine v_iload C dL_isTold_1048 rfl 13 rfl ?_
    refine v_iload C dL_isTold_1050 rfl 10 rfl ?_
    refine v_iload C dL_isTold_1052 rfl 11 rfl ?_
    refine v_imulN C (1 + i0) (PR (tn (s 5 0))) rfl rfl dL_isTold_1054 rfl ?_
    refine v_isubN C (tn (s 16 mi)) ((1 + i0) * (PR (tn (s 5 0)))) (by omega) rfl rfl dL_isTold_1055 rfl ?_
    refine v_icN_ne C (t := 1073) (tn (s1 16 mi)) ((tn (s 16 mi)) - ((1 + i0) * (PR (tn (s 5 0))))) rfl rfl (by omega) (by omega) dL_isTold_1056 rfl rfl (fun h => (by omega : False).elim) (fun h9 => ?_)
    refine v_aload_n C dL_isTold_1059 rfl 1 rfl ?_
    refine v_iconst C (v := 3) dL_isTold_1060 rfl rfl ?_
    refine q_p3 C hW3 hJ1 (B + 13) (D + 155) ⟨⟨Nat.le_refl _, bl hKc (Nat.le_of_ble_eq_true rfl)⟩, Nat.le_refl _, bl hKn (Nat.le_of_ble_eq_true rfl)⟩ rfl dL_isTold_1061 rfl (fun b10 => ?_)
    refine v_iload C dL_isTold_1064 rfl 11 rfl ?_
    refine v_icN_lt C (t := 1073) (PR (tn (s1 5 0))) (PR (tn (s 5 0))) rfl rfl (by omega) (by omega) dL_isTold_1066 rfl rfl (fun h => (by omega : False).elim) (fun h11 => ?_)
    refine v_iconst C (v := 1) dL_isTold_1069 rfl rfl ?_
    refine v_goto C (q := 1074) dL_isTold_1070 rfl ?_
    exact v_zret C rfl (bl hKc (Nat.le_of_ble_eq_true rfl)) (bl hKn (Nat.le_of_ble_eq_true rfl)) dL_isTold_1074 ⟨rfl, _, _, _, _, _, hW3, hJ1.mono (by omega), hT1, by omega, by omega⟩
  · skip
    refine l_actK C (ax_buy (s := s) (nm := nm) (nc := nc) (nr := nr) hst hG hW hJ.bs (e := 3) (cd := -1793000000) (e3_3 (mi_of hW.cnt.1 hmi (by omega)) ⟨nI_le (a := 1) (by omega) (by omega), nI_le (b := 1000) (by omega) (by omega)⟩ (by rw [price_n hJ.2.1.1, pk_mul, tn_nI (show mi < 2 ^ 31 by omega), (hJ.m16 hmi).1.ltc (by omega), (hJ.m17 hmi).1.eq0, (hJ.2.1.1).ltc (n := 1 + i0) (by omega)]; omega)) (by decide) xL3_3) (B + 7) (D + 119) ⟨⟨Nat.le_refl _, bl hKc (Nat.le_of_ble_eq_true rfl)⟩, Nat.le_refl _, bl hKn (Nat.le_of_ble_eq_true rfl)⟩ rfl dL_isTold_987 rfl (fun v_ w_ hv12 => ?_)
    obtain ⟨rfl, hw_, -⟩ := hv12
    rw [hw_]
    show V X G 15 _ _ _ _ _ _ [.int ((-1793000000))]
    refine v_iload C dL_isTold_990 rfl 0 rfl ?_
    refine v_ifB_eq C (t := 1003) dL_isTold_992 rfl rfl (fun _ => ?_) (fun h => absurd h hcan)
    refine v_ldc C (v := (-1793000000)) dL_isTold_1003 rfl N_L_114 ?_
    refine v_icmp_ne C (t := 1073) dL_isTold_1005 rfl rfl (fun h => absurd h (by decide)) (fun _ => ?_)
    refine v_iload C dL_isTold_1008 rfl 0 rfl ?_
    refine v_ifB_eq C (t := 1069) dL_isTold_1010 rfl rfl (fun _ => ?_) (fun h => absurd h hcan)
    refine v_iconst C (v := 1) dL_isTold_1069 rfl rfl ?_
    refine v_goto C (q := 1074) dL_isTold_1070 rfl ?_
    exact v_zret C rfl (bl hKc (Nat.le_of_ble_eq_true rfl)) (bl hKn (Nat.le_of_ble_eq_true rfl)) dL_isTold_1074 ⟨rfl, _, _, _, _, _, hW, hJ.mono (by omega), hT.mono (by omega), by omega, by omega⟩

theorem sg_tld_T {X : XS} {G : GG} {w : va_W} {r : Nat → Nat} {s t : SS} {nm nc nr k B D : Nat} {X0 how : Nat} {mi yy : Nat} (C : Cx X G cL_isTold 15 RL (Option.some Jvm.ClassFile.FieldType.boolean) r_L_isTold "isTold" []) (hW : Wd G r s t nm nc nr w) (hJ : Js s nm nc nr k) (hMi : MiOK G) (hk : k ≤ 130) (hT : K9 s t nm nc nr k) (hX : X0 < 100000000) (hhow : how < 46) (hmi : mi < nm) (hyy : yy < 100000000) (hKc : B + 14 ≤ r_L_isTold.cells) (hKn : D + 238 ≤ r_L_isTold.slots)  : V X G 15 w B D (Tg X G r_L_isTold (fun v w1 => v = some (.int 1) ∧ Nxt G r nm (k + 1) w1) nX) 1082 [(0, .ref (r 4)), (1, .ref (r 0)), (2, .ref (r 1)), (3, .ref (r 2)), (4, .int (nI (how))), (5, .int (nI (X0))), (6, .int (nI (mi))), (7, .int (nI (yy))), (8, .int (bI (tn (s 17 mi) = 0)))] [] := by
  have hst : X.2.1.stackTraces = false := C.2.2.2.2.2.1
  have hG : GOK G := C.2.2.2.2.2.2.2.2.2.1
  have hm := hJ.1.1
  have h4b := hJ.1.2.2.2.2.2.1.2
  refine v_iconst C (v := 1) dL_isTold_1082 rfl rfl ?_
  refine v_iload C dL_isTold_1083 rfl 7 rfl ?_
  refine v_bipush C (v := 100) dL_isTold_1085 rfl rfl ?_
  refine v_iremN C yy 100 rfl rfl (by omega) (by omega) (by omega) dL_isTold_1087 rfl ?_
  refine v_iaddN C 1 (yy % 100) rfl rfl dL_isTold_1088 rfl ?_
  have hx0 : 1 ≤ 1 + (yy % 100) ∧ 1 + (yy % 100) ≤ 100 := by omega
  generalize 1 + (yy % 100) = x0 at hx0 ⊢
  refine v_istore C (lv1 := [(9, .int (nI (x0))), (0, .ref (r 4)), (1, .ref (r 0)), (2, .ref (r 1)), (3, .ref (r 2)), (4, .int (nI (how))), (5, .int (nI (X0))), (6, .int (nI (mi))), (7, .int (nI (yy))), (8, .int (bI (tn (s 17 mi) = 0)))]) dL_isTold_1089 rfl (by decide) rfl ?_
  refine v_aload_n C dL_isTold_1091 rfl 1 rfl ?_
  refine v_bipush C (v := 12) dL_isTold_1092 rfl rfl ?_
  refine v_iload C dL_isTold_1094 rfl 0 rfl ?_
  refine v_iconst C (v := 0) dL_isTold_1096 rfl rfl ?_
  refine v_iconst C (v := 0) dL_isTold_1097 rfl rfl ?_
  refine v_iconst C (v := 0) dL_isTold_1098 rfl rfl ?_
  have hP_ := P_rate hJ hT (x := x0) (by omega) (by omega)
  refine l_actK C (ao_rate (s := s) (nm := nm) (nc := nc) (nr := nr) hst hG hW hJ.bs (e1_0 ⟨nI_le (a := 1) (by omega) (by omega), nI_le (b := 100) (by omega) (by omega)⟩)) (B + 7) (D + 119) ⟨⟨Nat.le_refl _, bl hKc (Nat.le_of_ble_eq_true rfl)⟩, Nat.le_refl _, bl hKn (Nat.le_of_ble_eq_true rfl)⟩ rfl dL_isTold_1099 rfl (fun v_ w2 hv1 => ?_)
  obtain ⟨rfl, hW3⟩ := hv1
  show V X G 15 _ _ _ _ _ _ [.int (rateR s (nI (x0)))]
  generalize rateU s (nI (x0)) = s1 at hP_ hW3
  obtain ⟨hJ1, hT1, f1⟩ := hP_
  refine xx_top (y := nI (tn (s 4 0))) hJ.1.2.2.2.2.2.1.1.e ?_
  refine v_ifN_le C (t := 1125) (tn (s 4 0)) rfl (by omega) dL_isTold_1102 rfl rfl (fun h => (by omega : False).elim) (fun h4 => ?_)
  refine v_aload_n C dL_isTold_1105 rfl 1 rfl ?_
  refine v_bipush C (v := 12) dL_isTold_1106 rfl rfl ?_
  refine v_iload C dL_isTold_1108 rfl 0 rfl ?_
  refine v_iconst C (v := 0) dL_isTold_1110 rfl rfl ?_
  refine v_iconst C (v := 0) dL_isTold_1111 rfl rfl ?_
  refine v_iconst C (v := 0) dL_isTold_1112 rfl rfl ?_
  have hP_ := P_rate hJ1 hT1 (x := x0) (by omega) (by omega)
  refine l_actK C (ao_rate (s := s1) (nm := nm) (nc := nc) (nr := nr) hst hG hW3 hJ1.bs (e1_0 ⟨nI_le (a := 1) (by omega) (by omega), nI_le (b := 100) (by omega) (by omega)⟩)) (B + 14) (D + 238) ⟨⟨Nat.le_refl _, bl hKc (Nat.le_of_ble_eq_true rfl)⟩, Nat.le_refl _, bl hKn (Nat.le_of_ble_eq_true rfl)⟩ rfl dL_isTold_1113 rfl (fun v_ w6 hv5 => ?_)
  obtain ⟨rfl, hW7⟩ := hv5
  show V X G 15 _ _ _ _ _ _ [.int (rateR s1 (nI (x0)))]
  generalize rateU s1 (nI (x0)) = s2 at hP_ hW7
  obtain ⟨hJ2, hT2, f2⟩ := hP_
  refine xx_top (y := nI (x0)) (hJ1.1.2.2.2.2.2.1.1.e.trans (congrArg nI f1)) ?_
  refine v_iload C dL_isTold_1116 rfl 0 rfl ?_
  refine v_icN_ne C (t := 1125) x0 x0 rfl rfl (by omega) (by omega) dL_isTold_1118 rfl rfl (fun h => (by omega : False).elim) (fun h8 => ?_)
  refine v_iconst C (v := 1) dL_isTold_1121 rfl rfl ?_
  refine v_goto C (q := 1126) dL_isTold_1122 rfl ?_
  exact v_zret C rfl (bl hKc (Nat.le_of_ble_eq_true rfl)) (bl hKn (Nat.le_of_ble_eq_true rfl)) dL_isTold_1126 ⟨rfl, _, _, _, _, _, hW7, hJ2.mono (by omega), hT2.mono (by omega), by omega, by omega⟩

theorem sg_tld_G0 {X : XS} {G : GG} {w : va_W} {Q : State → Prop} {r : Nat → Nat} {s t : SS} {nm nc nr k B D : Nat} {X0 how : Nat} {mi yy : Nat} (C : Cx X G cL_isTold 15 RL (Option.some Jvm.ClassFile.FieldType.boolean) r_L_isTold "isTold" []) (hW : Wd G r s t nm nc nr w) (hJ : Js s nm nc nr k) (hMi : MiOK G) (hk : k ≤ 130) (hT : K9 s t nm nc nr k) (hX : X0 < 100000000) (hhow : how < 46) (hmi : mi < nm) (hyy : yy < 100000000) (hKc : B + 0 ≤ r_L_isTold.cells) (hKn : D + 0 ≤ r_L_isTold.slots) (kk0 : ∀ ce, ce < 40 → V X G 15 w (B + 0) (D + 0) Q 1141 [(0, .ref (r 4)), (1, .ref (r 0)), (2, .ref (r 1)), (3, .ref (r 2)), (4, .int (nI (how))), (5, .int (nI (X0))), (6, .int (nI (mi))), (7, .int (nI (yy))), (8, .int (bI (tn (s 17 mi) = 0))), (9, .int (nI (ce)))] []) (kk1 : ∀ ce, ce < 40 → V X G 15 w (B + 0) (D + 0) Q 1195 [(0, .ref (r 4)), (1, .ref (r 0)), (2, .ref (r 1)), (3, .ref (r 2)), (4, .int (nI (how))), (5, .int (nI (X0))), (6, .int (nI (mi))), (7, .int (nI (yy))), (8, .int (bI (tn (s 17 mi) = 0))), (9, .int (nI (ce)))] []) : V X G 15 w B D Q 1127 [(0, .ref (r 4)), (1, .ref (r 0)), (2, .ref (r 1)), (3, .ref (r 2)), (4, .int (nI (how))), (5, .int (nI (X0))), (6, .int (nI (mi))), (7, .int (nI (yy))), (8, .int (bI (tn (s 17 mi) = 0)))] [] := by
  have hst : X.2.1.stackTraces = false := C.2.2.2.2.2.1
  have hG : GOK G := C.2.2.2.2.2.2.2.2.2.1
  have hm := hJ.1.1
  refine v_iload C dL_isTold_1127 rfl 7 rfl ?_
  refine v_bipush C (v := 40) dL_isTold_1129 rfl rfl ?_
  refine v_iremN C yy 40 rfl rfl (by omega) (by omega) (by omega) dL_isTold_1131 rfl ?_
  have hce : yy % 40 < 40 := by omega
  generalize yy % 40 = ce at hce ⊢
  refine v_istore C (lv1 := [(9, .int (nI (ce))), (0, .ref (r 4)), (1, .ref (r 0)), (2, .ref (r 1)), (3, .ref (r 2)), (4, .int (nI (how))), (5, .int (nI (X0))), (6, .int (nI (mi))), (7, .int (nI (yy))), (8, .int (bI (tn (s 17 mi) = 0)))]) dL_isTold_1132 rfl (by decide) rfl ?_
  refine v_iload C dL_isTold_1134 rfl 5 rfl ?_
  refine v_bipush C (v := 12) dL_isTold_1136 rfl rfl ?_
  refine v_icN_ne C (t := 1195) how 12 rfl rfl (by omega) (by omega) dL_isTold_1138 rfl rfl (fun h1 => ?_) (fun h1 => ?_)
  · skip
    refine xx_lv [1, 2, 3, 4, 5, 6, 7, 8, 9, 0] (lv' := [(0, .ref (r 4)), (1, .ref (r 0)), (2, .ref (r 1)), (3, .ref (r 2)), (4, .int (nI (how))), (5, .int (nI (X0))), (6, .int (nI (mi))), (7, .int (nI (yy))), (8, .int (bI (tn (s 17 mi) = 0))), (9, .int (nI (ce)))]) rfl ?_
    exact xx_mono (Nat.le_add_right _ _) (Nat.le_add_right _ _) (kk1 ce hce)
  · skip
    refine xx_lv [1, 2, 3, 4, 5, 6, 7, 8, 9, 0] (lv' := [(0, .ref (r 4)), (1, .ref (r 0)), (2, .ref (r 1)), (3, .ref (r 2)), (4, .int (nI (how))), (5, .int (nI (X0))), (6, .int (nI (mi))), (7, .int (nI (yy))), (8, .int (bI (tn (s 17 mi) = 0))), (9, .int (nI (ce)))]) rfl ?_
    exact xx_mono (Nat.le_add_right _ _) (Nat.le_add_right _ _) (kk0 ce hce)

theorem sg_tld_U {X : XS} {G : GG} {w : va_W} {r : Nat → Nat} {s t : SS} {nm nc nr k B D : Nat} {X0 how : Nat} {mi yy : Nat} {ce : Nat} (C : Cx X G cL_isTold 15 RL (Option.some Jvm.ClassFile.FieldType.boolean) r_L_isTold "isTold" []) (hW : Wd G r s t nm nc nr w) (hJ : Js s nm nc nr k) (hMi : MiOK G) (hk : k ≤ 130) (hT : K9 s t nm nc nr k) (hX : X0 < 100000000) (hhow : how < 46) (hmi : mi < nm) (hyy : yy < 100000000) (hce : ce < 40) (hKc : B + 9 ≤ r_L_isTold.cells) (hKn : D + 131 ≤ r_L_isTold.slots)  : V X G 15 w B D (Tg X G r_L_isTold (fun v w1 => v = some (.int 1) ∧ Nxt G r nm (k + 1) w1) nX) 1141 [(0, .ref (r 4)), (1, .ref (r 0)), (2, .ref (r 1)), (3, .ref (r 2)), (4, .int (nI (how))), (5, .int (nI (X0))), (6, .int (nI (mi))), (7, .int (nI (yy))), (8, .int (bI (tn (s 17 mi) = 0))), (9, .int (nI (ce)))] [] := by
  have hst : X.2.1.stackTraces = false := C.2.2.2.2.2.1
  have hG : GOK G := C.2.2.2.2.2.2.2.2.2.1
  have hm := hJ.1.1
  have h11b := (hJ.2.2.2.1 ce hce).2
  refine v_aload_n C dL_isTold_1141 rfl 0 rfl ?_
  refine v_iload C dL_isTold_1142 rfl 9 rfl ?_
  refine q_belief C hW hJ (i := ce) (by omega) (B + 1) (D + 6) ⟨⟨Nat.le_refl _, bl hKc (Nat.le_of_ble_eq_true rfl)⟩, Nat.le_refl _, bl hKn (Nat.le_of_ble_eq_true rfl)⟩ rfl dL_isTold_1144 rfl (fun b1 => ?_)
  refine v_istore C (lv1 := [(10, .int (nI (tn (s 11 ce)))), (0, .ref (r 4)), (1, .ref (r 0)), (2, .ref (r 1)), (3, .ref (r 2)), (4, .int (nI (how))), (5, .int (nI (X0))), (6, .int (nI (mi))), (7, .int (nI (yy))), (8, .int (bI (tn (s 17 mi) = 0))), (9, .int (nI (ce)))]) dL_isTold_1147 rfl (by decide) rfl ?_
  refine v_aload_n C dL_isTold_1149 rfl 1 rfl ?_
  refine v_bipush C (v := 19) dL_isTold_1150 rfl rfl ?_
  refine v_iload C dL_isTold_1152 rfl 10 rfl ?_
  refine v_iload C dL_isTold_1154 rfl 8 rfl ?_
  refine v_bipush C (v := 40) dL_isTold_1156 rfl rfl ?_
  refine v_idivN C yy 40 rfl rfl (by omega) (by omega) (by omega) dL_isTold_1158 rfl ?_
  refine v_bipush C (v := 101) dL_isTold_1159 rfl rfl ?_
  refine v_iremN C (yy / 40) 101 rfl rfl (by omega) (by omega) (by omega) dL_isTold_1161 rfl ?_
  refine v_iconst C (v := 0) dL_isTold_1162 rfl rfl ?_
  refine v_iconst C (v := 0) dL_isTold_1163 rfl rfl ?_
  have hP_ := P_rumour hJ hT (c := ce) (b := (yy / 40) % 101) hce (by omega)
  refine l_actK C (ao_rumour (s := s) (nm := nm) (nc := nc) (nr := nr) hst hG hW hJ.bs (e2_0 (cell_in hce) ⟨nI_pos' (by omega), nI_le (b := 100) (by omega) (by omega)⟩)) (B + 8) (D + 125) ⟨⟨Nat.le_refl _, bl hKc (Nat.le_of_ble_eq_true rfl)⟩, Nat.le_refl _, bl hKn (Nat.le_of_ble_eq_true rfl)⟩ rfl dL_isTold_1164 rfl (fun v_ w3 hv2 => ?_)
  obtain ⟨rfl, hW4⟩ := hv2
  show V X G 15 _ _ _ _ _ _ [.int (rumourR s (nI (ce)) (nI ((yy / 40) % 101)))]
  generalize rumourU s (nI (ce)) (nI ((yy / 40) % 101)) = s1 at hP_ hW4
  obtain ⟨hJ1, hT1, f1⟩ := hP_
  refine xx_top (y := nI (tn (s 11 ce))) (by unfold rumourR; rw [tn_nI (show ce < 2 ^ 31 by omega)]; exact (hJ.2.2.2.1 ce hce).1.e) ?_
  refine v_iload C dL_isTold_1167 rfl 0 rfl ?_
  refine v_icN_ne C (t := 1193) (tn (s 11 ce)) (tn (s 11 ce)) rfl rfl (by omega) (by omega) dL_isTold_1169 rfl rfl (fun h => (by omega : False).elim) (fun h5 => ?_)
  refine v_aload_n C dL_isTold_1172 rfl 1 rfl ?_
  refine v_iload C dL_isTold_1173 rfl 10 rfl ?_
  refine q_belief C hW4 hJ1 (i := ce) (by omega) (B + 9) (D + 131) ⟨⟨Nat.le_refl _, bl hKc (Nat.le_of_ble_eq_true rfl)⟩, Nat.le_refl _, bl hKn (Nat.le_of_ble_eq_true rfl)⟩ rfl dL_isTold_1175 rfl (fun b6 => ?_)
  refine v_iload C dL_isTold_1178 rfl 8 rfl ?_
  refine v_bipush C (v := 40) dL_isTold_1180 rfl rfl ?_
  refine v_idivN C yy 40 rfl rfl (by omega) (by omega) (by omega) dL_isTold_1182 rfl ?_
  refine v_bipush C (v := 101) dL_isTold_1183 rfl rfl ?_
  refine v_iremN C (yy / 40) 101 rfl rfl (by omega) (by omega) (by omega) dL_isTold_1185 rfl ?_
  refine v_icN_ne C (t := 1193) (tn (s1 11 ce)) ((yy / 40) % 101) rfl rfl (by omega) (by omega) dL_isTold_1186 rfl rfl (fun h => (by omega : False).elim) (fun h7 => ?_)
  refine v_iconst C (v := 1) dL_isTold_1189 rfl rfl ?_
  refine v_goto C (q := 1194) dL_isTold_1190 rfl ?_
  exact v_zret C rfl (bl hKc (Nat.le_of_ble_eq_true rfl)) (bl hKn (Nat.le_of_ble_eq_true rfl)) dL_isTold_1194 ⟨rfl, _, _, _, _, _, hW4, hJ1.mono (by omega), hT1.mono (by omega), by omega, by omega⟩

theorem sg_tld_G1 {X : XS} {G : GG} {w : va_W} {Q : State → Prop} {r : Nat → Nat} {s t : SS} {nm nc nr k B D : Nat} {X0 how : Nat} {mi yy : Nat} {ce : Nat} (C : Cx X G cL_isTold 15 RL (Option.some Jvm.ClassFile.FieldType.boolean) r_L_isTold "isTold" []) (hW : Wd G r s t nm nc nr w) (hJ : Js s nm nc nr k) (hMi : MiOK G) (hk : k ≤ 130) (hT : K9 s t nm nc nr k) (hX : X0 < 100000000) (hhow : how < 46) (hmi : mi < nm) (hyy : yy < 100000000) (hce : ce < 40) (hKc : B + 0 ≤ r_L_isTold.cells) (hKn : D + 0 ≤ r_L_isTold.slots) (kk : ∀ f, f ≤ 100000 → V X G 15 w (B + 0) (D + 0) Q 1216 [(0, .ref (r 4)), (1, .ref (r 0)), (2, .ref (r 1)), (3, .ref (r 2)), (4, .int (nI (how))), (5, .int (nI (X0))), (6, .int (nI (mi))), (7, .int (nI (yy))), (8, .int (bI (tn (s 17 mi) = 0))), (9, .int (nI (ce)))] [.int (nI (f))]) : V X G 15 w B D Q 1195 [(0, .ref (r 4)), (1, .ref (r 0)), (2, .ref (r 1)), (3, .ref (r 2)), (4, .int (nI (how))), (5, .int (nI (X0))), (6, .int (nI (mi))), (7, .int (nI (yy))), (8, .int (bI (tn (s 17 mi) = 0))), (9, .int (nI (ce)))] [] := by
  have hst : X.2.1.stackTraces = false := C.2.2.2.2.2.1
  have hG : GOK G := C.2.2.2.2.2.2.2.2.2.1
  have hm := hJ.1.1
  refine v_iload C dL_isTold_1195 rfl 7 rfl ?_
  refine v_bipush C (v := 40) dL_isTold_1197 rfl rfl ?_
  refine v_idivN C yy 40 rfl rfl (by omega) (by omega) (by omega) dL_isTold_1199 rfl ?_
  refine v_iload C dL_isTold_1200 rfl 7 rfl ?_
  refine v_iconst C (v := 3) dL_isTold_1202 rfl rfl ?_
  refine v_iremN C yy 3 rfl rfl (by omega) (by omega) (by omega) dL_isTold_1203 rfl ?_
  refine v_ifN_ne C (t := 1212) (yy % 3) rfl (by omega) dL_isTold_1204 rfl rfl (fun h1 => ?_) (fun h1 => ?_)
  · skip
    refine v_sipush C (v := 900) dL_isTold_1212 rfl rfl ?_
    refine v_iremN C (yy / 40) 900 rfl rfl (by omega) (by omega) (by omega) dL_isTold_1215 rfl ?_
    refine xx_lv [0, 1, 2, 3, 4, 5, 6, 7, 8, 9] (lv' := [(0, .ref (r 4)), (1, .ref (r 0)), (2, .ref (r 1)), (3, .ref (r 2)), (4, .int (nI (how))), (5, .int (nI (X0))), (6, .int (nI (mi))), (7, .int (nI (yy))), (8, .int (bI (tn (s 17 mi) = 0))), (9, .int (nI (ce)))]) rfl ?_
    exact xx_mono (Nat.le_add_right _ _) (Nat.le_add_right _ _) (kk ((yy / 40) % 900) (by omega))
  · skip
    refine v_ldc C (v := 100001) dL_isTold_1207 rfl N_L_145 ?_
    refine v_goto C (q := 1215) dL_isTold_1209 rfl ?_
    refine v_iremN C (yy / 40) 100001 rfl rfl (by omega) (by omega) (by omega) dL_isTold_1215 rfl ?_
    refine xx_lv [0, 1, 2, 3, 4, 5, 6, 7, 8, 9] (lv' := [(0, .ref (r 4)), (1, .ref (r 0)), (2, .ref (r 1)), (3, .ref (r 2)), (4, .int (nI (how))), (5, .int (nI (X0))), (6, .int (nI (mi))), (7, .int (nI (yy))), (8, .int (bI (tn (s 17 mi) = 0))), (9, .int (nI (ce)))]) rfl ?_
    exact xx_mono (Nat.le_add_right _ _) (Nat.le_add_right _ _) (kk ((yy / 40) % 100001) (by omega))

theorem sg_tld_G2 {X : XS} {G : GG} {w : va_W} {r : Nat → Nat} {s t : SS} {nm nc nr k B D : Nat} {X0 how : Nat} {mi yy : Nat} {ce f : Nat} (C : Cx X G cL_isTold 15 RL (Option.some Jvm.ClassFile.FieldType.boolean) r_L_isTold "isTold" []) (hW : Wd G r s t nm nc nr w) (hJ : Js s nm nc nr k) (hMi : MiOK G) (hk : k ≤ 130) (hT : K9 s t nm nc nr k) (hX : X0 < 100000000) (hhow : how < 46) (hmi : mi < nm) (hyy : yy < 100000000) (hce : ce < 40) (hf : f ≤ 100000) (hKc : B + 8 ≤ r_L_isTold.cells) (hKn : D + 125 ≤ r_L_isTold.slots)  : V X G 15 w B D (Tg X G r_L_isTold (fun v w1 => v = some (.int 1) ∧ Nxt G r nm (k + 1) w1) nX) 1216 [(0, .ref (r 4)), (1, .ref (r 0)), (2, .ref (r 1)), (3, .ref (r 2)), (4, .int (nI (how))), (5, .int (nI (X0))), (6, .int (nI (mi))), (7, .int (nI (yy))), (8, .int (bI (tn (s 17 mi) = 0))), (9, .int (nI (ce)))] [.int (nI (f))] := by
  have hst : X.2.1.stackTraces = false := C.2.2.2.2.2.1
  have hG : GOK G := C.2.2.2.2.2.2.2.2.2.1
  have hm := hJ.1.1
  have h9b := (hJ.g9 hce).2
  have h9l := tn_lt (s 9 ce)
  have hdy := hJ.1.2.1.2
  refine v_istore C (lv1 := [(10, .int (nI (f))), (0, .ref (r 4)), (1, .ref (r 0)), (2, .ref (r 1)), (3, .ref (r 2)), (4, .int (nI (how))), (5, .int (nI (X0))), (6, .int (nI (mi))), (7, .int (nI (yy))), (8, .int (bI (tn (s 17 mi) = 0))), (9, .int (nI (ce)))]) dL_isTold_1216 rfl (by decide) rfl ?_
  refine v_aload_n C dL_isTold_1218 rfl 1 rfl ?_
  refine v_iconst C (v := 0) dL_isTold_1219 rfl rfl ?_
  refine v_iload C dL_isTold_1220 rfl 10 rfl ?_
  refine v_iload C dL_isTold_1222 rfl 0 rfl ?_
  refine v_iload C dL_isTold_1224 rfl 8 rfl ?_
  refine v_bipush C (v := 7) dL_isTold_1226 rfl rfl ?_
  refine v_idivN C yy 7 rfl rfl (by omega) (by omega) (by omega) dL_isTold_1228 rfl ?_
  refine v_bipush C (v := 10) dL_isTold_1229 rfl rfl ?_
  refine v_iremN C (yy / 7) 10 rfl rfl (by omega) (by omega) (by omega) dL_isTold_1231 rfl ?_
  refine v_iconst C (v := 0) dL_isTold_1232 rfl rfl ?_
  by_cases hlate : 0 < tn (s 0 0) ∨ t 0 4 = 1
  · skip
    refine l_actK C (ax_ground (s := s) (nm := nm) (nc := nc) (nr := nr) hst hG hW hJ.bs (e := 3) (cd := -1793000000) (e3_3 (cell_in hce) ⟨⟨nI_pos' (by omega), nI_le (b := 100000) (by omega) (by omega)⟩, ⟨nI_pos' (by omega), nI_le (b := 9) (by omega) (by omega)⟩⟩ (hlate.imp (fun h => day_pos hJ (by omega)) (fun h => by rw [← hT.1.2.2.2.2.1.1, h]; decide))) (by decide) xL3_3) (B + 7) (D + 119) ⟨⟨Nat.le_refl _, bl hKc (Nat.le_of_ble_eq_true rfl)⟩, Nat.le_refl _, bl hKn (Nat.le_of_ble_eq_true rfl)⟩ rfl dL_isTold_1233 rfl (fun v_ w_ hv1 => ?_)
    obtain ⟨rfl, hw_, -⟩ := hv1
    rw [hw_]
    show V X G 15 _ _ _ _ _ _ [.int ((-1793000000))]
    refine v_istore C (lv1 := [(11, .int ((-1793000000))), (10, .int (nI (f))), (0, .ref (r 4)), (1, .ref (r 0)), (2, .ref (r 1)), (3, .ref (r 2)), (4, .int (nI (how))), (5, .int (nI (X0))), (6, .int (nI (mi))), (7, .int (nI (yy))), (8, .int (bI (tn (s 17 mi) = 0))), (9, .int (nI (ce)))]) dL_isTold_1236 rfl (by decide) rfl ?_
    refine v_aload_n C dL_isTold_1238 rfl 2 rfl ?_
    refine q_day C hW hJ (B + 7) (D + 119) ⟨⟨Nat.le_refl _, bl hKc (Nat.le_of_ble_eq_true rfl)⟩, Nat.le_refl _, bl hKn (Nat.le_of_ble_eq_true rfl)⟩ rfl dL_isTold_1239 rfl (fun b2 => ?_)
    refine v_ifN_gt C (t := 1252) (tn (s 0 0)) rfl (by omega) dL_isTold_1242 rfl rfl (fun h3 => ?_) (fun h3 => ?_)
    · skip
      refine v_iload C dL_isTold_1252 rfl 0 rfl ?_
      refine v_ldc C (v := (-1793000000)) dL_isTold_1254 rfl N_L_114 ?_
      refine v_icmp_ne C (t := 1263) dL_isTold_1256 rfl rfl (fun h => absurd h (by decide)) (fun _ => ?_)
      refine v_iconst C (v := 1) dL_isTold_1259 rfl rfl ?_
      refine v_goto C (q := 1264) dL_isTold_1260 rfl ?_
      exact v_zret C rfl (bl hKc (Nat.le_of_ble_eq_true rfl)) (bl hKn (Nat.le_of_ble_eq_true rfl)) dL_isTold_1264 ⟨rfl, _, _, _, _, _, hW, hJ.mono (by omega), hT.mono (by omega), by omega, by omega⟩
    · skip
      refine v_aload_n C dL_isTold_1245 rfl 3 rfl ?_
      refine v_iconst C (v := 4) dL_isTold_1246 rfl rfl ?_
      refine v_mld C hW 0 (by decide) 4 (show 4 < 6 by omega) dL_isTold_1247 rfl ?_
      refine v_iconst C (v := 1) dL_isTold_1248 rfl rfl ?_
      refine v_icmp_ne C (t := 1265) dL_isTold_1249 rfl rfl (fun h => absurd (hlate.resolve_left (by omega)) h) (fun _ => ?_)
      refine v_iload C dL_isTold_1252 rfl 0 rfl ?_
      refine v_ldc C (v := (-1793000000)) dL_isTold_1254 rfl N_L_114 ?_
      refine v_icmp_ne C (t := 1263) dL_isTold_1256 rfl rfl (fun h => absurd h (by decide)) (fun _ => ?_)
      refine v_iconst C (v := 1) dL_isTold_1259 rfl rfl ?_
      refine v_goto C (q := 1264) dL_isTold_1260 rfl ?_
      exact v_zret C rfl (bl hKc (Nat.le_of_ble_eq_true rfl)) (bl hKn (Nat.le_of_ble_eq_true rfl)) dL_isTold_1264 ⟨rfl, _, _, _, _, _, hW, hJ.mono (by omega), hT.mono (by omega), by omega, by omega⟩
  · skip
    have hl0 : tn (s 0 0) = 0 := Nat.eq_zero_of_not_pos (fun q => hlate (Or.inl q))
    have hP_ := and3 (P_ground hJ (c := ce) (m := f) (g := (yy / 7) % 10) hce hf (by omega)) (And.intro (show tn (groundU s (nI ce) (nI f) (nI ((yy / 7) % 10)) 0 0) = tn (s 0 0) from rfl) (hT.gr (c := ce) (m := f) (g := (yy / 7) % 10) rfl))
    refine l_actK C (ao_ground (s := s) (nm := nm) (nc := nc) (nr := nr) hst hG hW hJ.bs (e3_0 (cell_in hce) ⟨⟨nI_pos' (by omega), nI_le (b := 100000) (by omega) (by omega)⟩, ⟨nI_pos' (by omega), nI_le (b := 9) (by omega) (by omega)⟩⟩ (fun z => z.elim (fun h => hlate (Or.inl (Nat.lt_of_le_of_lt (Nat.zero_le _) (((Nn.z).lt hJ.1.2.1.1).mp h)))) (fun h => hlate (Or.inr (hT.1.2.2.2.2.1.1.trans (hT.1.2.2.2.2.1.2.resolve_left h))))))) (B + 7) (D + 119) ⟨⟨Nat.le_refl _, bl hKc (Nat.le_of_ble_eq_true rfl)⟩, Nat.le_refl _, bl hKn (Nat.le_of_ble_eq_true rfl)⟩ rfl dL_isTold_1233 rfl (fun v_ w5 hv4 => ?_)
    obtain ⟨rfl, hW6⟩ := hv4
    show V X G 15 _ _ _ _ _ _ [.int (groundR s (nI (ce)) (nI (f)) (nI ((yy / 7) % 10)))]
    generalize groundU s (nI (ce)) (nI (f)) (nI ((yy / 7) % 10)) = s1 at hP_ hW6
    obtain ⟨hJ1, f1, f2, f0, hT1⟩ := hP_
    refine xx_top (y := nI (tn (s 9 ce))) (by unfold groundR; rw [tn_nI (show ce < 2 ^ 31 by omega)]; exact (hJ.g9 hce).1.e) ?_
    refine v_istore C (lv1 := [(11, .int (nI (tn (s 9 ce)))), (10, .int (nI (f))), (0, .ref (r 4)), (1, .ref (r 0)), (2, .ref (r 1)), (3, .ref (r 2)), (4, .int (nI (how))), (5, .int (nI (X0))), (6, .int (nI (mi))), (7, .int (nI (yy))), (8, .int (bI (tn (s 17 mi) = 0))), (9, .int (nI (ce)))]) dL_isTold_1236 rfl (by decide) rfl ?_
    refine v_aload_n C dL_isTold_1238 rfl 2 rfl ?_
    refine q_day C hW6 hJ1 (B + 7) (D + 119) ⟨⟨Nat.le_refl _, bl hKc (Nat.le_of_ble_eq_true rfl)⟩, Nat.le_refl _, bl hKn (Nat.le_of_ble_eq_true rfl)⟩ rfl dL_isTold_1239 rfl (fun b7 => ?_)
    refine v_ifN_gt C (t := 1252) (tn (s1 0 0)) rfl (by omega) dL_isTold_1242 rfl rfl (fun h => ((by omega : False)).elim) (fun _ => ?_)
    refine v_aload_n C dL_isTold_1245 rfl 3 rfl ?_
    refine v_iconst C (v := 4) dL_isTold_1246 rfl rfl ?_
    refine v_mld C hW6 0 (by decide) 4 (show 4 < 6 by omega) dL_isTold_1247 rfl ?_
    refine v_iconst C (v := 1) dL_isTold_1248 rfl rfl ?_
    refine v_icmp_ne C (t := 1265) dL_isTold_1249 rfl rfl (fun _ => ?_) (fun h => (hlate (Or.inr h)).elim)
    refine v_aload_n C dL_isTold_1265 rfl 3 rfl ?_
    refine v_iconst C (v := 3) dL_isTold_1266 rfl rfl ?_
    refine v_dup2 C dL_isTold_1267 rfl rfl rfl ?_
    refine v_mld C hW6 0 (by decide) 3 (show 3 < 6 by omega) dL_isTold_1268 rfl ?_
    refine xx_top (y := nI (tot s nm)) hT.1.2.2.2.1 ?_
    refine v_iload C dL_isTold_1269 rfl 1 rfl ?_
    refine v_iload C dL_isTold_1271 rfl 0 rfl ?_
    refine v_isub C dL_isTold_1273 rfl ?_
    refine v_iadd C dL_isTold_1274 rfl ?_
    refine xx_top (y := nI (tot s1 nm)) (tt_add f2) ?_
    refine v_mst C hW6 0 (by decide) 3 (show 3 < 6 by omega) dL_isTold_1275 rfl (fun w8 hW9 => ?_)
    refine v_iload C dL_isTold_1276 rfl 0 rfl ?_
    refine v_if_lt C (t := 1299) dL_isTold_1278 rfl rfl (fun h => absurd h (nI_pos (by omega))) (fun _ => ?_)
    refine v_aload_n C dL_isTold_1281 rfl 2 rfl ?_
    refine v_iload C dL_isTold_1282 rfl 11 rfl ?_
    refine q_sample C hW9 hJ1 (i := ce) (by omega) (B + 8) (D + 125) ⟨⟨Nat.le_refl _, bl hKc (Nat.le_of_ble_eq_true rfl)⟩, Nat.le_refl _, bl hKn (Nat.le_of_ble_eq_true rfl)⟩ rfl dL_isTold_1284 rfl (fun b10 => ?_)
    refine v_iload C dL_isTold_1287 rfl 1 rfl ?_
    refine v_bipush C (v := 100) dL_isTold_1289 rfl rfl ?_
    refine v_idivN C f 100 rfl rfl (by omega) (by omega) (by omega) dL_isTold_1291 rfl ?_
    refine v_icN_ne C (t := 1299) (tn (s1 9 ce) / 100) (f / 100) rfl rfl (by omega) (by omega) dL_isTold_1292 rfl rfl (fun h => (by omega : False).elim) (fun h11 => ?_)
    refine v_iconst C (v := 1) dL_isTold_1295 rfl rfl ?_
    refine v_goto C (q := 1300) dL_isTold_1296 rfl ?_
    exact v_zret C rfl (bl hKc (Nat.le_of_ble_eq_true rfl)) (bl hKn (Nat.le_of_ble_eq_true rfl)) dL_isTold_1300 ⟨rfl, _, _, _, _, _, hW9, hJ1.mono (by omega), hT1 _ rfl, by omega, by omega⟩

theorem c_L_isTold {l : Launch} {G : GG} {w : va_W} {r : Nat → Nat} {s t : SS} {nm nc nr k X0 how : Nat} (hst : l.stackTraces = false) (hG : GOK G) (hMi : MiOK G) (hk : k ≤ 130) (hT : K9 s t nm nc nr k) (hX : X0 < 100000000) (hhow : how < 46) (hW : Wd G r s t nm nc nr w) (hJ : Js s nm nc nr k) : Mth l yL_isTold cL_isTold 15 (Option.some Jvm.ClassFile.FieldType.boolean) r_L_isTold G w [.ref (r 4), .ref (r 0), .ref (r 1), .ref (r 2), .int (nI how), .int (nI X0)] (fun v w1 => v = some (.int 1) ∧ Nxt G r nm (k + 1) w1) nX := by
  refine mth_of rfl (Nat.le_of_ble_eq_true rfl) hst hG (fun X hX0 C0 => ?_)
  subst hX0
  have C : Cx X G cL_isTold 15 RL (Option.some Jvm.ClassFile.FieldType.boolean) r_L_isTold "isTold" [] := C0
  clear C0
  show V X G 15 w 0 0 _ 0 [(0, .ref (r 4)), (1, .ref (r 0)), (2, .ref (r 1)), (3, .ref (r 2)), (4, .int (nI how)), (5, .int (nI X0))] []
  have hc : r_L_isTold.cells = 28 := rfl
  have hd : r_L_isTold.slots = 250 := rfl
  refine sg_tld_0 C hW hJ hMi hk hT hX hhow (by omega) (by omega) ?_ (fun _ hnm => ?_)
  · refine sg_tld_A0 C hW hJ hMi hk hT hX hhow (by omega) (by omega) (fun f hf => ?_)
    exact sg_tld_A1 C hW hJ hMi hk hT hX hhow hf (by omega) (by omega)
  · refine sg_tld_B C hW hJ hMi hk hT hX hhow hnm (by omega) (by omega) (fun mi hmi yy hyy => ?_)
    refine sg_tld_D C hW hJ hMi hk hT hX hhow hmi hyy (by omega) (by omega) ?_ ?_ ?_ ?_ ?_ ?_ ?_ ?_
    · refine sg_tld_P0 C hW hJ hMi hk hT hX hhow hmi hyy (by omega) (by omega) (fun ce hce m0 hm0 => ?_)
      refine sg_tld_P1 C hW hJ hMi hk hT hX hhow hmi hyy hce hm0 (by omega) (by omega) ?_
      refine lp_tld_P C hW hJ hMi hk hT hX hhow hmi hyy hce (by omega) (by omega) (by omega) (by omega) (fun n hn fr hfr => ?_)
      refine sg_tld_P3 C hW hJ hMi hk hT hX hhow hmi hyy hce (by omega) (by omega) hfr.le (by omega) (by omega) ?_
      refine sg_tld_P4 C hW hJ hMi hk hT hX hhow hmi hyy hce (by omega) (by omega) ?_ (by omega) (by omega)
      rcases hn with rfl | hn
      · exact Or.inl hfr
      · exact Or.inr (by omega)
    · refine sg_tld_R0 C hW hJ hMi hk hT hX hhow hmi hyy (by omega) (by omega) (fun i0 hi0 => ?_)
      exact sg_tld_R1 C hW hJ hMi hk hT hX hhow hmi hyy hi0 (by omega) (by omega)
    · refine sg_tld_F0 C hW hJ hMi hk hT hX hhow hmi hyy (by omega) (by omega) (fun f hf => ?_)
      exact sg_tld_F1 C hW hJ hMi hk hT hX hhow hmi hyy hf (by omega) (by omega)
    · exact sg_tld_M C hW hJ hMi hk hT hX hhow hmi hyy (by omega) (by omega)
    · exact sg_tld_S C hW hJ hMi hk hT hX hhow hmi hyy (by omega) (by omega)
    · refine sg_tld_B0 C hW hJ hMi hk hT hX hhow hmi hyy (by omega) (by omega) (fun i0 hi0 => ?_)
      refine sg_tld_B1 C hW hJ hMi hk hT hX hhow hmi hyy hi0 (by omega) (by omega) ?_
      exact sg_tld_B2 C hW hJ hMi hk hT hX hhow hmi hyy hi0 (by omega) (by omega)
    · exact sg_tld_T C hW hJ hMi hk hT hX hhow hmi hyy (by omega) (by omega)
    · refine sg_tld_G0 C hW hJ hMi hk hT hX hhow hmi hyy (by omega) (by omega) (fun ce hce => ?_) (fun ce hce => ?_)
      · exact sg_tld_U C hW hJ hMi hk hT hX hhow hmi hyy hce (by omega) (by omega)
      · refine sg_tld_G1 C hW hJ hMi hk hT hX hhow hmi hyy hce (by omega) (by omega) (fun f hf => ?_)
        exact sg_tld_G2 C hW hJ hMi hk hT hX hhow hmi hyy hce hf (by omega) (by omega)
