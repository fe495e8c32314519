abbrev r_L_pick : Room := { frames := 0, cells := 0, slots := 0, locals := 0 }
theorem c_L_pick {l : Launch} {G : GG} {w : va_W} {b L j : Nat} {xs : Nat → Int32} (hst : l.stackTraces = false) (hG : GOK G) (S : ScrG G b L xs) (hj : j < 130) : Mth l yL_pick cL_pick 2 (Option.some Jvm.ClassFile.FieldType.int) r_L_pick G w [.ref b, .int (nI j)] (fun v w1 => (∃ x, v = some (.int (nI x)) ∧ x < 2 ^ 31) ∧ w1 = w) nX := by
  refine mth_of rfl (Nat.le_of_ble_eq_true rfl) hst hG (fun X hX C0 => ?_)
  subst hX
  have C : Cx X G cL_pick 2 RL (Option.some Jvm.ClassFile.FieldType.int) r_L_pick "pick" [] := C0
  clear C0
  show V X G 2 w 0 0 _ 0 [(0, .ref b), (1, .int (nI j))] []
  have hL := S.2.2
  have fin : ∀ x, V X G 2 w 0 0 (Tg X G r_L_pick (fun v w1 => (∃ x, v = some (.int (nI x)) ∧ x < 2 ^ 31) ∧ w1 = w) nX) 32 [(0, .ref b), (1, .int (nI j))] [.int x] := fun x => by
    refine v_ldc C (v := 2147483647) dL_pick_32 rfl N_L_8 ?_
    refine v_iand C dL_pick_34 rfl ?_
    exact v_iret C (by decide) (by decide) dL_pick_35 ⟨⟨_, congrArg (fun z => some (Value.int z)) (and_nn x).e, tn_lt _⟩, rfl⟩
  refine v_iload_n C dL_pick_0 rfl 1 rfl ?_
  refine v_aload_n C dL_pick_1 rfl 0 rfl ?_
  refine v_slen C S dL_pick_2 rfl ?_
  refine v_icN_ge C (t := 12) j L rfl rfl (by omega) (by omega) dL_pick_3 rfl rfl (fun h => ?_) (fun h => ?_)
  · refine v_ldc C (v := 532032589) dL_pick_12 rfl N_L_7 ?_
    refine v_iload_n C dL_pick_14 rfl 1 rfl ?_
    refine v_sipush C (v := 701) dL_pick_15 rfl rfl ?_
    refine v_iadd C dL_pick_18 rfl ?_
    refine v_imul C dL_pick_19 rfl ?_
    refine v_sipush C (v := 987) dL_pick_20 rfl rfl ?_
    refine v_iload_n C dL_pick_23 rfl 1 rfl ?_
    refine v_imul C dL_pick_24 rfl ?_
    refine v_iload_n C dL_pick_25 rfl 1 rfl ?_
    refine v_imul C dL_pick_26 rfl ?_
    refine v_iadd C dL_pick_27 rfl ?_
    refine v_sipush C (v := 569) dL_pick_28 rfl rfl ?_
    refine v_iadd C dL_pick_31 rfl ?_
    exact fin _
  · refine v_aload_n C dL_pick_6 rfl 0 rfl ?_
    refine v_iload_n C dL_pick_7 rfl 1 rfl ?_
    refine v_sld C S j h dL_pick_8 rfl ?_
    refine v_goto C (q := 32) dL_pick_9 rfl ?_
    exact fin _
def alA (s : SS) (nm nc : Nat) : Nat → Int64
  | 0 => (nI (tn (s 0 0)) : Int32).toInt64
  | i + 1 => 31 * alA s nm nc i + (nI (tn (s 9 i) / 100) : Int32).toInt64 + 7 * (heldC s (nI i) nc : Int32).toInt64 + 3 * (nI (tn (s 11 i)) : Int32).toInt64 + (goldR s nm (nI (i % 5)) : Int32).toInt64 + (campRC s nm (nI (i % 6)) : Int32).toInt64
def alB (s : SS) (nm nc nr : Nat) : Nat → Int64
  | 0 => alA s nm nc 40
  | i + 1 => 31 * alB s nm nc nr i + (ofMinerRC s nm nr (nI (i / 8)) (nI (i % 8)) : Int32).toInt64
def alC (s : SS) (nm nc nr : Nat) : Nat → Int64
  | 0 => alB s nm nc nr (8 * nm)
  | i + 1 => 31 * alC s nm nc nr i + (ofClaimR s (nI (i / 6)) (nI (i % 6)) : Int32).toInt64
def allF (s : SS) (nm nc nr : Nat) : Int64 := alC s nm nc nr (6 * nc)
abbrev r_L_all : Room := { frames := 9, cells := 761, slots := 4566, locals := 156 }
theorem sg_all_1 {X : XS} {G : GG} {w : va_W} {Q : State → Prop} {r : Nat → Nat} {s t : SS} {nm nc nr k B D : Nat} {i : Nat} (C : Cx X G cL_all 5 RL (Option.some Jvm.ClassFile.FieldType.long) r_L_all "all" []) (hW : Wd G r s t nm nc nr w) (hJ : Js s nm nc nr k) (hk : k ≤ 131) (hT : K9 s t nm nc nr k) (hi : i ≤ 40) (hKc : B + 5 ≤ r_L_all.cells) (hKn : D + 30 ≤ r_L_all.slots) (ih : i < 40 → V X G 5 w (B + 5) (D + 30) Q 9 [(0, .ref (r 4)), (1, .ref (r 0)), (2, .long (alA s nm nc (i + 1))), (4, .int (nI (i + 1)))] []) (kk : V X G 5 w (B + 5) (D + 30) Q 81 [(0, .ref (r 4)), (1, .ref (r 0)), (2, .long (alA s nm nc 40)), (4, .int (nI (40)))] []) : V X G 5 w B D Q 9 [(0, .ref (r 4)), (1, .ref (r 0)), (2, .long (alA s nm nc i)), (4, .int (nI (i)))] [] := by
  have hst : X.2.1.stackTraces = false := C.2.2.2.2.2.1
  have hG : GOK G := C.2.2.2.2.2.2.2.2.2.1
  have hm := hJ.1.1
  refine v_iload C dL_all_9 rfl 3 rfl ?_
  refine v_bipush C (v := 40) dL_all_11 rfl rfl ?_
  refine v_icN_ge C (t := 81) i 40 rfl rfl (by omega) (by omega) dL_all_13 rfl rfl (fun h1 => ?_) (fun h1 => ?_)
  · skip
    obtain rfl : i = 40 := by omega
    refine xx_lv [0, 1, 2, 3] (lv' := [(0, .ref (r 4)), (1, .ref (r 0)), (2, .long (alA s nm nc 40)), (4, .int (nI (40)))]) rfl ?_
    exact xx_mono (Nat.le_add_right _ _) (Nat.le_add_right _ _) (kk)
  · skip
    refine v_ldc2 C (v := 31) dL_all_16 rfl N_L_131 ?_
    refine v_lload_n C dL_all_19 rfl 2 rfl ?_
    refine v_lmul C dL_all_20 rfl ?_
    refine v_aload_n C dL_all_21 rfl 0 rfl ?_
    refine v_iload C dL_all_22 rfl 3 rfl ?_
    refine q_sample C hW hJ (i := i) (by omega) (B + 1) (D + 6) ⟨⟨Nat.le_refl _, bl hKc (Nat.le_of_ble_eq_true rfl)⟩, Nat.le_refl _, bl hKn (Nat.le_of_ble_eq_true rfl)⟩ rfl dL_all_24 rfl (fun b2 => ?_)
    refine v_i2l C dL_all_27 rfl ?_
    refine v_ladd C dL_all_28 rfl ?_
    refine v_ldc2 C (v := 7) dL_all_29 rfl N_L_133 ?_
    refine v_aload_n C dL_all_32 rfl 0 rfl ?_
    refine v_iload C dL_all_33 rfl 3 rfl ?_
    refine q_holds C hW hJ (i := i) (by omega) (B + 2) (D + 12) ⟨⟨Nat.le_refl _, bl hKc (Nat.le_of_ble_eq_true rfl)⟩, Nat.le_refl _, bl hKn (Nat.le_of_ble_eq_true rfl)⟩ rfl dL_all_35 rfl ?_
    refine v_i2l C dL_all_38 rfl ?_
    refine v_lmul C dL_all_39 rfl ?_
    refine v_ladd C dL_all_40 rfl ?_
    refine v_ldc2 C (v := 3) dL_all_41 rfl N_L_135 ?_
    refine v_aload_n C dL_all_44 rfl 0 rfl ?_
    refine v_iload C dL_all_45 rfl 3 rfl ?_
    refine q_belief C hW hJ (i := i) (by omega) (B + 3) (D + 18) ⟨⟨Nat.le_refl _, bl hKc (Nat.le_of_ble_eq_true rfl)⟩, Nat.le_refl _, bl hKn (Nat.le_of_ble_eq_true rfl)⟩ rfl dL_all_47 rfl (fun b3 => ?_)
    refine v_i2l C dL_all_50 rfl ?_
    refine v_lmul C dL_all_51 rfl ?_
    refine v_ladd C dL_all_52 rfl ?_
    refine v_aload_n C dL_all_53 rfl 0 rfl ?_
    refine v_iload C dL_all_54 rfl 3 rfl ?_
    refine v_iconst C (v := 5) dL_all_56 rfl rfl ?_
    refine v_iremN C i 5 rfl rfl (by omega) (by omega) (by omega) dL_all_57 rfl ?_
    refine lq_gold C hW hJ.bs (he := (e1_0 ⟨nI_pos' (by omega), (nI_leI (b := 4) (by omega) (by omega)).mpr (by omega)⟩)) (y_ := goldR s nm (nI (i % 5))) rfl (B + 4) (D + 24) ⟨⟨Nat.le_refl _, bl hKc (Nat.le_of_ble_eq_true rfl)⟩, Nat.le_refl _, bl hKn (Nat.le_of_ble_eq_true rfl)⟩ rfl dL_all_58 rfl ?_
    refine v_i2l C dL_all_61 rfl ?_
    refine v_ladd C dL_all_62 rfl ?_
    refine v_aload_n C dL_all_63 rfl 0 rfl ?_
    refine v_iload C dL_all_64 rfl 3 rfl ?_
    refine v_bipush C (v := 6) dL_all_66 rfl rfl ?_
    refine v_iremN C i 6 rfl rfl (by omega) (by omega) (by omega) dL_all_68 rfl ?_
    refine lq_camp C hW hJ.bs (he := (e1_0 ⟨nI_pos' (by omega), (nI_leI (b := 5) (by omega) (by omega)).mpr (by omega)⟩)) (y_ := campRC s nm (nI (i % 6))) rfl (B + 5) (D + 30) ⟨⟨Nat.le_refl _, bl hKc (Nat.le_of_ble_eq_true rfl)⟩, Nat.le_refl _, bl hKn (Nat.le_of_ble_eq_true rfl)⟩ rfl dL_all_69 rfl ?_
    refine v_i2l C dL_all_72 rfl ?_
    refine v_ladd C dL_all_73 rfl ?_
    refine v_lstore_n C (lv1 := [(2, .long ((((((31 * (alA s nm nc i)) + ((nI (tn (s 9 i) / 100) : Int32).toInt64)) + (7 * ((heldC s (nI (i)) nc : Int32).toInt64))) + (3 * ((nI (tn (s 11 i)) : Int32).toInt64))) + ((goldR s nm (nI (i % 5)) : Int32).toInt64)) + ((campRC s nm (nI (i % 6)) : Int32).toInt64))), (0, .ref (r 4)), (1, .ref (r 0)), (4, .int (nI (i)))]) dL_all_74 rfl (by decide) rfl ?_
    refine v_iincN C (lv1 := [(4, .int (nI (i + 1))), (2, .long ((((((31 * (alA s nm nc i)) + ((nI (tn (s 9 i) / 100) : Int32).toInt64)) + (7 * ((heldC s (nI (i)) nc : Int32).toInt64))) + (3 * ((nI (tn (s 11 i)) : Int32).toInt64))) + ((goldR s nm (nI (i % 5)) : Int32).toInt64)) + ((campRC s nm (nI (i % 6)) : Int32).toInt64))), (0, .ref (r 4)), (1, .ref (r 0))]) i rfl dL_all_75 rfl 3 rfl (by decide) rfl ?_
    refine v_goto C (q := 9) dL_all_78 rfl ?_
    refine xx_lv [2, 3, 1, 0] (lv' := [(0, .ref (r 4)), (1, .ref (r 0)), (2, .long ((((((31 * (alA s nm nc i)) + ((nI (tn (s 9 i) / 100) : Int32).toInt64)) + (7 * ((heldC s (nI (i)) nc : Int32).toInt64))) + (3 * ((nI (tn (s 11 i)) : Int32).toInt64))) + ((goldR s nm (nI (i % 5)) : Int32).toInt64)) + ((campRC s nm (nI (i % 6)) : Int32).toInt64))), (4, .int (nI (i + 1)))]) rfl ?_
    exact xx_mono (bm (Nat.le_of_ble_eq_true rfl)) (bm (Nat.le_of_ble_eq_true rfl)) (ih (by omega))

theorem lp_all_1 {X : XS} {G : GG} {w : va_W} {Q : State → Prop} {r : Nat → Nat} {s t : SS} {nm nc nr k B D : Nat} (hk : k ≤ 131) (hT : K9 s t nm nc nr k) (C : Cx X G cL_all 5 RL (Option.some Jvm.ClassFile.FieldType.long) r_L_all "all" []) (hW : Wd G r s t nm nc nr w) (hJ : Js s nm nc nr k) (hKc : B + 205 ≤ r_L_all.cells) (hKn : D + 1230 ≤ r_L_all.slots) (kk : V X G 5 w (B + 205) (D + 1230) Q 81 [(0, .ref (r 4)), (1, .ref (r 0)), (2, .long (alA s nm nc 40)), (4, .int (nI (40)))] []) : V X G 5 w B D Q 9 [(0, .ref (r 4)), (1, .ref (r 0)), (2, .long (alA s nm nc 0)), (4, .int (nI 0))] [] := by
  have hm := hJ.1.1
  have key := ind_up (α := Unit) (P := fun i _ => V X G 5 w (B + 5 * i) (D + 30 * i) Q 9 [(0, .ref (r 4)), (1, .ref (r 0)), (2, .long (alA s nm nc i)), (4, .int (nI i))] []) (40) (fun i _ hi ih => sg_all_1 C hW hJ hk hT hi (by omega) (by omega) (fun h => xx_mono (by omega) (by omega) (ih h ())) (xx_mono (by omega) (by omega) kk))
  exact key 0 () (by omega)

theorem sg_all_2 {X : XS} {G : GG} {w : va_W} {Q : State → Prop} {r : Nat → Nat} {s t : SS} {nm nc nr k B D : Nat} {i : Nat} (C : Cx X G cL_all 5 RL (Option.some Jvm.ClassFile.FieldType.long) r_L_all "all" []) (hW : Wd G r s t nm nc nr w) (hJ : Js s nm nc nr k) (hk : k ≤ 131) (hT : K9 s t nm nc nr k) (hi : i ≤ 8 * nm) (hKc : B + 2 ≤ r_L_all.cells) (hKn : D + 12 ≤ r_L_all.slots) (ih : i < 8 * nm → V X G 5 w (B + 2) (D + 12) Q 84 [(0, .ref (r 4)), (1, .ref (r 0)), (2, .long (alB s nm nc nr (i + 1))), (4, .int (nI (i + 1)))] []) (kk : V X G 5 w (B + 2) (D + 12) Q 123 [(0, .ref (r 4)), (1, .ref (r 0)), (2, .long (alB s nm nc nr (8 * nm))), (4, .int (nI (8 * nm)))] []) : V X G 5 w B D Q 84 [(0, .ref (r 4)), (1, .ref (r 0)), (2, .long (alB s nm nc nr i)), (4, .int (nI (i)))] [] := by
  have hst : X.2.1.stackTraces = false := C.2.2.2.2.2.1
  have hG : GOK G := C.2.2.2.2.2.2.2.2.2.1
  have hm := hJ.1.1
  refine v_iload C dL_all_84 rfl 3 rfl ?_
  refine v_bipush C (v := 8) dL_all_86 rfl rfl ?_
  refine v_aload_n C dL_all_88 rfl 1 rfl ?_
  refine v_iconst C (v := 0) dL_all_89 rfl rfl ?_
  refine v_mld C hW 0 (by decide) 0 (show 0 < 6 by omega) dL_all_90 rfl ?_
  refine xx_top (y := nI (nm)) hT.1.1 ?_
  refine v_imulN C 8 nm rfl rfl dL_all_91 rfl ?_
  refine v_icN_ge C (t := 123) i (8 * nm) rfl rfl (by omega) (by omega) dL_all_92 rfl rfl (fun h1 => ?_) (fun h1 => ?_)
  · skip
    obtain rfl : i = 8 * nm := by omega
    refine xx_lv [0, 1, 2, 3] (lv' := [(0, .ref (r 4)), (1, .ref (r 0)), (2, .long (alB s nm nc nr (8 * nm))), (4, .int (nI (8 * nm)))]) rfl ?_
    exact xx_mono (Nat.le_add_right _ _) (Nat.le_add_right _ _) (kk)
  · skip
    refine v_ldc2 C (v := 31) dL_all_95 rfl N_L_131 ?_
    refine v_lload_n C dL_all_98 rfl 2 rfl ?_
    refine v_lmul C dL_all_99 rfl ?_
    refine v_aload_n C dL_all_100 rfl 0 rfl ?_
    refine v_iload C dL_all_101 rfl 3 rfl ?_
    refine v_bipush C (v := 8) dL_all_103 rfl rfl ?_
    refine v_idivN C i 8 rfl rfl (by omega) (by omega) (by omega) dL_all_105 rfl ?_
    refine v_iload C dL_all_106 rfl 3 rfl ?_
    refine v_bipush C (v := 8) dL_all_108 rfl rfl ?_
    refine v_iremN C i 8 rfl rfl (by omega) (by omega) (by omega) dL_all_110 rfl ?_
    refine lq_ofMiner C hW hJ.bs (he := (e2_0 (mi_of hW.cnt.1 (by omega) (by omega)) ⟨nI_pos' (by omega), (nI_leI (b := 7) (by omega) (by omega)).mpr (by omega)⟩)) (y_ := ofMinerRC s nm nr (nI (i / 8)) (nI (i % 8))) rfl (B + 2) (D + 12) ⟨⟨Nat.le_refl _, bl hKc (Nat.le_of_ble_eq_true rfl)⟩, Nat.le_refl _, bl hKn (Nat.le_of_ble_eq_true rfl)⟩ rfl dL_all_111 rfl ?_
    refine v_i2l C dL_all_114 rfl ?_
    refine v_ladd C dL_all_115 rfl ?_
    refine v_lstore_n C (lv1 := [(2, .long ((31 * (alB s nm nc nr i)) + ((ofMinerRC s nm nr (nI (i / 8)) (nI (i % 8)) : Int32).toInt64))), (0, .ref (r 4)), (1, .ref (r 0)), (4, .int (nI (i)))]) dL_all_116 rfl (by decide) rfl ?_
    refine v_iincN C (lv1 := [(4, .int (nI (i + 1))), (2, .long ((31 * (alB s nm nc nr i)) + ((ofMinerRC s nm nr (nI (i / 8)) (nI (i % 8)) : Int32).toInt64))), (0, .ref (r 4)), (1, .ref (r 0))]) i rfl dL_all_117 rfl 3 rfl (by decide) rfl ?_
    refine v_goto C (q := 84) dL_all_120 rfl ?_
    refine xx_lv [2, 3, 1, 0] (lv' := [(0, .ref (r 4)), (1, .ref (r 0)), (2, .long ((31 * (alB s nm nc nr i)) + ((ofMinerRC s nm nr (nI (i / 8)) (nI (i % 8)) : Int32).toInt64))), (4, .int (nI (i + 1)))]) rfl ?_
    exact xx_mono (bm (Nat.le_of_ble_eq_true rfl)) (bm (Nat.le_of_ble_eq_true rfl)) (ih (by omega))

theorem lp_all_2 {X : XS} {G : GG} {w : va_W} {Q : State → Prop} {r : Nat → Nat} {s t : SS} {nm nc nr k B D : Nat} (hk : k ≤ 131) (hT : K9 s t nm nc nr k) (C : Cx X G cL_all 5 RL (Option.some Jvm.ClassFile.FieldType.long) r_L_all "all" []) (hW : Wd G r s t nm nc nr w) (hJ : Js s nm nc nr k) (hKc : B + 194 ≤ r_L_all.cells) (hKn : D + 1164 ≤ r_L_all.slots) (kk : V X G 5 w (B + 194) (D + 1164) Q 123 [(0, .ref (r 4)), (1, .ref (r 0)), (2, .long (alB s nm nc nr (8 * nm))), (4, .int (nI (8 * nm)))] []) : V X G 5 w B D Q 84 [(0, .ref (r 4)), (1, .ref (r 0)), (2, .long (alB s nm nc nr 0)), (4, .int (nI 0))] [] := by
  have hm := hJ.1.1
  have key := ind_up (α := Unit) (P := fun i _ => V X G 5 w (B + 2 * i) (D + 12 * i) Q 84 [(0, .ref (r 4)), (1, .ref (r 0)), (2, .long (alB s nm nc nr i)), (4, .int (nI i))] []) (8 * nm) (fun i _ hi ih => sg_all_2 C hW hJ hk hT hi (by omega) (by omega) (fun h => xx_mono (by omega) (by omega) (ih h ())) (xx_mono (by omega) (by omega) kk))
  exact key 0 () (by omega)

theorem sg_all_3 {X : XS} {G : GG} {w : va_W} {Q : State → Prop} {r : Nat → Nat} {s t : SS} {nm nc nr k B D : Nat} {i : Nat} (C : Cx X G cL_all 5 RL (Option.some Jvm.ClassFile.FieldType.long) r_L_all "all" []) (hW : Wd G r s t nm nc nr w) (hJ : Js s nm nc nr k) (hk : k ≤ 131) (hT : K9 s t nm nc nr k) (hi : i ≤ 6 * nc) (hKc : B + 2 ≤ r_L_all.cells) (hKn : D + 12 ≤ r_L_all.slots) (ih : i < 6 * nc → V X G 5 w (B + 2) (D + 12) Q 126 [(0, .ref (r 4)), (1, .ref (r 0)), (2, .long (alC s nm nc nr (i + 1))), (4, .int (nI (i + 1)))] []) (kk : V X G 5 w (B + 2) (D + 12) Q 165 [(0, .ref (r 4)), (1, .ref (r 0)), (2, .long (alC s nm nc nr (6 * nc))), (4, .int (nI (6 * nc)))] []) : V X G 5 w B D Q 126 [(0, .ref (r 4)), (1, .ref (r 0)), (2, .long (alC s nm nc nr i)), (4, .int (nI (i)))] [] := by
  have hst : X.2.1.stackTraces = false := C.2.2.2.2.2.1
  have hG : GOK G := C.2.2.2.2.2.2.2.2.2.1
  have hm := hJ.1.1
  refine v_iload C dL_all_126 rfl 3 rfl ?_
  refine v_bipush C (v := 6) dL_all_128 rfl rfl ?_
  refine v_aload_n C dL_all_130 rfl 1 rfl ?_
  refine v_iconst C (v := 1) dL_all_131 rfl rfl ?_
  refine v_mld C hW 0 (by decide) 1 (show 1 < 6 by omega) dL_all_132 rfl ?_
  refine xx_top (y := nI (nc)) hT.1.2.1 ?_
  refine v_imulN C 6 nc rfl rfl dL_all_133 rfl ?_
  refine v_icN_ge C (t := 165) i (6 * nc) rfl rfl (by omega) (by omega) dL_all_134 rfl rfl (fun h1 => ?_) (fun h1 => ?_)
  · skip
    obtain rfl : i = 6 * nc := by omega
    refine xx_lv [0, 1, 2, 3] (lv' := [(0, .ref (r 4)), (1, .ref (r 0)), (2, .long (alC s nm nc nr (6 * nc))), (4, .int (nI (6 * nc)))]) rfl ?_
    exact xx_mono (Nat.le_add_right _ _) (Nat.le_add_right _ _) (kk)
  · skip
    refine v_ldc2 C (v := 31) dL_all_137 rfl N_L_131 ?_
    refine v_lload_n C dL_all_140 rfl 2 rfl ?_
    refine v_lmul C dL_all_141 rfl ?_
    refine v_aload_n C dL_all_142 rfl 0 rfl ?_
    refine v_iload C dL_all_143 rfl 3 rfl ?_
    refine v_bipush C (v := 6) dL_all_145 rfl rfl ?_
    refine v_idivN C i 6 rfl rfl (by omega) (by omega) (by omega) dL_all_147 rfl ?_
    refine v_iload C dL_all_148 rfl 3 rfl ?_
    refine v_bipush C (v := 6) dL_all_150 rfl rfl ?_
    refine v_iremN C i 6 rfl rfl (by omega) (by omega) (by omega) dL_all_152 rfl ?_
    refine lq_ofClaim C hW hJ.bs (he := (e2_0 (mi_of hW.cnt.2.1 (by omega) (by omega)) ⟨nI_pos' (by omega), (nI_leI (b := 5) (by omega) (by omega)).mpr (by omega)⟩)) (y_ := ofClaimR s (nI (i / 6)) (nI (i % 6))) rfl (B + 2) (D + 12) ⟨⟨Nat.le_refl _, bl hKc (Nat.le_of_ble_eq_true rfl)⟩, Nat.le_refl _, bl hKn (Nat.le_of_ble_eq_true rfl)⟩ rfl dL_all_153 rfl ?_
    refine v_i2l C dL_all_156 rfl ?_
    refine v_ladd C dL_all_157 rfl ?_
    refine v_lstore_n C (lv1 := [(2, .long ((31 * (alC s nm nc nr i)) + ((ofClaimR s (nI (i / 6)) (nI (i % 6)) : Int32).toInt64))), (0, .ref (r 4)), (1, .ref (r 0)), (4, .int (nI (i)))]) dL_all_158 rfl (by decide) rfl ?_
    refine v_iincN C (lv1 := [(4, .int (nI (i + 1))), (2, .long ((31 * (alC s nm nc nr i)) + ((ofClaimR s (nI (i / 6)) (nI (i % 6)) : Int32).toInt64))), (0, .ref (r 4)), (1, .ref (r 0))]) i rfl dL_all_159 rfl 3 rfl (by decide) rfl ?_
    refine v_goto C (q := 126) dL_all_162 rfl ?_
    refine xx_lv [2, 3, 1, 0] (lv' := [(0, .ref (r 4)), (1, .ref (r 0)), (2, .long ((31 * (alC s nm nc nr i)) + ((ofClaimR s (nI (i / 6)) (nI (i % 6)) : Int32).toInt64))), (4, .int (nI (i + 1)))]) rfl ?_
    exact xx_mono (bm (Nat.le_of_ble_eq_true rfl)) (bm (Nat.le_of_ble_eq_true rfl)) (ih (by omega))

theorem lp_all_3 {X : XS} {G : GG} {w : va_W} {Q : State → Prop} {r : Nat → Nat} {s t : SS} {nm nc nr k B D : Nat} (hk : k ≤ 131) (hT : K9 s t nm nc nr k) (C : Cx X G cL_all 5 RL (Option.some Jvm.ClassFile.FieldType.long) r_L_all "all" []) (hW : Wd G r s t nm nc nr w) (hJ : Js s nm nc nr k) (hKc : B + 362 ≤ r_L_all.cells) (hKn : D + 2172 ≤ r_L_all.slots) (kk : V X G 5 w (B + 362) (D + 2172) Q 165 [(0, .ref (r 4)), (1, .ref (r 0)), (2, .long (alC s nm nc nr (6 * nc))), (4, .int (nI (6 * nc)))] []) : V X G 5 w B D Q 126 [(0, .ref (r 4)), (1, .ref (r 0)), (2, .long (alC s nm nc nr 0)), (4, .int (nI 0))] [] := by
  have hm := hJ.1.1
  have key := ind_up (α := Unit) (P := fun i _ => V X G 5 w (B + 2 * i) (D + 12 * i) Q 126 [(0, .ref (r 4)), (1, .ref (r 0)), (2, .long (alC s nm nc nr i)), (4, .int (nI i))] []) (6 * nc) (fun i _ hi ih => sg_all_3 C hW hJ hk hT hi (by omega) (by omega) (fun h => xx_mono (by omega) (by omega) (ih h ())) (xx_mono (by omega) (by omega) kk))
  exact key 0 () (by omega)

theorem c_L_all {l : Launch} {G : GG} {w : va_W} {r : Nat → Nat} {s t : SS} {nm nc nr k : Nat} (hst : l.stackTraces = false) (hG : GOK G) (hk : k ≤ 131) (hT : K9 s t nm nc nr k) (hW : Wd G r s t nm nc nr w) (hJ : Js s nm nc nr k) : Mth l yL_all cL_all 5 (Option.some Jvm.ClassFile.FieldType.long) r_L_all G w [.ref (r 4), .ref (r 0)] (RI (.long (allF s nm nc nr)) w True) nX := by
  refine mth_of rfl (Nat.le_of_ble_eq_true rfl) hst hG (fun X hX C0 => ?_)
  subst hX
  have C : Cx X G cL_all 5 RL (Option.some Jvm.ClassFile.FieldType.long) r_L_all "all" [] := C0
  clear C0
  have hm := hJ.1.1
  show V X G 5 w 0 0 _ 0 [(0, .ref (r 4)), (1, .ref (r 0))] []
  refine v_aload_n C dL_all_0 rfl 0 rfl ?_
  refine q_day C hW hJ 0 0 ⟨⟨Nat.le_refl _, by decide⟩, Nat.le_refl _, by decide⟩ rfl dL_all_1 rfl (fun _ => ?_)
  refine v_i2l C dL_all_4 rfl ?_
  refine v_lstore_n C (lv1 := [(2, .long ((nI (tn (s 0 0)) : Int32).toInt64)), (0, .ref (r 4)), (1, .ref (r 0))]) dL_all_5 rfl (by decide) rfl ?_
  refine v_iconst C (v := 0) dL_all_6 rfl rfl ?_
  refine v_istore C (lv1 := [(4, .int 0), (2, .long ((nI (tn (s 0 0)) : Int32).toInt64)), (0, .ref (r 4)), (1, .ref (r 0))]) dL_all_7 rfl (by decide) rfl ?_
  refine xx_lv [2, 3, 1, 0] (lv' := [(0, .ref (r 4)), (1, .ref (r 0)), (2, .long (alA s nm nc 0)), (4, .int (nI 0))]) rfl ?_
  refine lp_all_1 hk hT C hW hJ (by decide) (by decide) ?_
  refine v_iconst C (v := 0) dL_all_81 rfl rfl ?_
  refine v_istore C (lv1 := [(4, .int 0), (0, .ref (r 4)), (1, .ref (r 0)), (2, .long (alA s nm nc 40))]) dL_all_82 rfl (by decide) rfl ?_
  refine xx_lv [1, 2, 3, 0] (lv' := [(0, .ref (r 4)), (1, .ref (r 0)), (2, .long (alB s nm nc nr 0)), (4, .int (nI 0))]) rfl ?_
  refine lp_all_2 hk hT C hW hJ (by decide) (by decide) ?_
  refine v_iconst C (v := 0) dL_all_123 rfl rfl ?_
  refine v_istore C (lv1 := [(4, .int 0), (0, .ref (r 4)), (1, .ref (r 0)), (2, .long (alB s nm nc nr (8 * nm)))]) dL_all_124 rfl (by decide) rfl ?_
  refine xx_lv [1, 2, 3, 0] (lv' := [(0, .ref (r 4)), (1, .ref (r 0)), (2, .long (alC s nm nc nr 0)), (4, .int (nI 0))]) rfl ?_
  refine lp_all_3 hk hT C hW hJ (by decide) (by decide) ?_
  refine v_lload_n C dL_all_165 rfl 2 rfl ?_
  exact v_lret C (by decide) (by decide) dL_all_166 ⟨rfl, rfl, trivial⟩
