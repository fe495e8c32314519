theorem ex_bI {p : Nat} {P : Prop} [Decidable P] : ∃ q, nI p + bI P = nI q := by
  unfold bI
  split
  · exact ⟨p + 1, nI_1 p⟩
  · exact ⟨p, Int32.add_zero _⟩
theorem K9.m5 {s t : SS} {nm nc nr k : Nat} {v : Int32} (h : K9 s t nm nc nr k) (hv : ∃ p, v = nI p) : K9 s (su t 0 5 v) nm nc nr k := by
  obtain ⟨⟨a, b, c, d, e, p, hp, hp2⟩, h1, h2, h3, h4⟩ := h
  obtain ⟨q, hq⟩ := hv
  have e0 : ∀ j, j ≠ 5 → su t 0 5 v 0 j = t 0 j := fun j hj => su_b hj
  refine ⟨⟨?_, ?_, ?_, ?_, ⟨?_, e.2⟩, q, ?_, hp2⟩, h1, h2, h3, h4⟩
  · rw [e0 0 (by decide)]; exact a
  · rw [e0 1 (by decide)]; exact b
  · rw [e0 2 (by decide)]; exact c
  · rw [e0 3 (by decide)]; exact d
  · rw [e0 4 (by decide)]; exact e.1
  · rw [su_a]; exact hq
theorem sg_law_A {X : XS} {G : GG} {w : va_W} {Q : State → Prop} {r : Nat → Nat} {s t : SS} {nm nc nr k B D : Nat} {nme : String} {tb : List ExceptionTableEntry} {b L : Nat} {xs : Nat → Int32} {i : Nat} (C : Cx X G cL_law 11 RL (some .boolean) r_L_law nme tb) (hW : Wd G r s t nm nc nr w) (hJ : Js s nm nc nr k) (hMi : MiOK G) (S : ScrG G b L xs) (hk : k ≤ 131) (hT : K9 s t nm nc nr k) (hKc : B + 11126 ≤ r_L_law.cells) (hKn : D + 150070 ≤ r_L_law.slots) (kk : V X G 11 w (B + 11126) (D + 150070) Q 58 [(0, .ref (b)), (1, .ref (r 4)), (2, .ref (r 0)), (3, .ref (r 1)), (4, .ref (r 2)), (5, .ref (r 3)), (6, .int (1)), (7, .int (nI (0)))] []) : V X G 11 w B D Q 30 [(0, .ref (b)), (1, .ref (r 4)), (2, .ref (r 0)), (3, .ref (r 1)), (4, .ref (r 2)), (5, .ref (r 3))] [] := by
  have hst : X.2.1.stackTraces = false := C.2.2.2.2.2.1
  have hG : GOK G := C.2.2.2.2.2.2.2.2.2.1
  have hm := hJ.1.1
  refine v_aload_n C dL_law_30 rfl 1 rfl ?_
  refine v_aload_n C dL_law_31 rfl 2 rfl ?_
  refine v_iconst C (v := 0) dL_law_32 rfl rfl ?_
  refine l_invS C (As := [.ref (r 4), .ref (r 0), .int (0)]) L_L_155 (c_L_isRefused (X0 := 0) hst hG hMi (by omega) hT (by omega) hW hJ) rfl rfl (B + 5563) (D + 75035) ⟨⟨by show _ + 5563 ≤ _; omega, by omega⟩, by show _ + 75035 ≤ _; omega, by omega⟩ rfl dL_law_33 rfl (fun v_ w2 hv1 => ?_)
  obtain ⟨rfl, rfl, -⟩ := hv1
  show V X G 11 _ _ _ _ _ _ [.int (1)]
  refine v_if_eq C (t := 52) dL_law_36 rfl rfl (fun h => absurd h (by decide)) (fun _ => ?_)
  refine v_aload_n C dL_law_39 rfl 1 rfl ?_
  refine v_aload_n C dL_law_40 rfl 2 rfl ?_
  refine v_iconst C (v := 1) dL_law_41 rfl rfl ?_
  refine l_invS C (As := [.ref (r 4), .ref (r 0), .int (1)]) L_L_155 (c_L_isRefused (X0 := 1) hst hG hMi (by omega) hT (by omega) hW hJ) rfl rfl (B + 11126) (D + 150070) ⟨⟨by show _ + 5563 ≤ _; omega, by omega⟩, by show _ + 75035 ≤ _; omega, by omega⟩ rfl dL_law_42 rfl (fun v_ w4 hv3 => ?_)
  obtain ⟨rfl, rfl, -⟩ := hv3
  show V X G 11 _ _ _ _ _ _ [.int (1)]
  refine v_if_eq C (t := 52) dL_law_45 rfl rfl (fun h => absurd h (by decide)) (fun _ => ?_)
  refine v_iconst C (v := 1) dL_law_48 rfl rfl ?_
  refine v_goto C (q := 53) dL_law_49 rfl ?_
  refine v_istore C (lv1 := [(6, .int (1)), (0, .ref (b)), (1, .ref (r 4)), (2, .ref (r 0)), (3, .ref (r 1)), (4, .ref (r 2)), (5, .ref (r 3))]) dL_law_53 rfl (by decide) rfl ?_
  refine v_iconst C (v := 0) dL_law_55 rfl rfl ?_
  refine v_istore C (lv1 := [(7, .int (0)), (6, .int (1)), (0, .ref (b)), (1, .ref (r 4)), (2, .ref (r 0)), (3, .ref (r 1)), (4, .ref (r 2)), (5, .ref (r 3))]) dL_law_56 rfl (by decide) rfl ?_
  refine xx_lv [2, 3, 4, 5, 6, 7, 1, 0] (lv' := [(0, .ref (b)), (1, .ref (r 4)), (2, .ref (r 0)), (3, .ref (r 1)), (4, .ref (r 2)), (5, .ref (r 3)), (6, .int (1)), (7, .int (nI (0)))]) rfl ?_
  exact xx_mono (bm (Nat.le_of_ble_eq_true rfl)) (bm (Nat.le_of_ble_eq_true rfl)) (kk)

theorem sg_law_1 {X : XS} {G : GG} {w : va_W} {Q : State → Prop} {r : Nat → Nat} {s t : SS} {nm nc nr k B D : Nat} {nme : String} {tb : List ExceptionTableEntry} {b L : Nat} {xs : Nat → Int32} {i : Nat} (C : Cx X G cL_law 11 RL (some .boolean) r_L_law nme tb) (hW : Wd G r s t nm nc nr w) (hJ : Js s nm nc nr k) (hMi : MiOK G) (S : ScrG G b L xs) (hi0 : i ≤ 130) (hKc : B + 0 ≤ r_L_law.cells) (hKn : D + 0 ≤ r_L_law.slots) (k0 : i = 130 → V X G 11 w (B + 0) (D + 0) Q 340 [(0, .ref (b)), (1, .ref (r 4)), (2, .ref (r 0)), (3, .ref (r 1)), (4, .ref (r 2)), (5, .ref (r 3)), (6, .int (1)), (7, .int (nI (i)))] []) (kk : ∀ xx, xx < 2 ^ 31 → ∀ how, how < 46 → (i = 0 → how = 0) → i < 130 → V X G 11 w (B + 0) (D + 0) Q 128 [(0, .ref (b)), (1, .ref (r 4)), (2, .ref (r 0)), (3, .ref (r 1)), (4, .ref (r 2)), (5, .ref (r 3)), (7, .int (nI (i))), (8, .int (nI (xx)))] [.int (nI (how))]) : V X G 11 w B D Q 58 [(0, .ref (b)), (1, .ref (r 4)), (2, .ref (r 0)), (3, .ref (r 1)), (4, .ref (r 2)), (5, .ref (r 3)), (6, .int (1)), (7, .int (nI (i)))] [] := by
  have hst : X.2.1.stackTraces = false := C.2.2.2.2.2.1
  have hG : GOK G := C.2.2.2.2.2.2.2.2.2.1
  have hm := hJ.1.1
  refine v_iload C dL_law_58 rfl 7 rfl ?_
  refine v_sipush C (v := 130) dL_law_60 rfl rfl ?_
  refine v_icN_ge C (t := 340) i 130 rfl rfl (by omega) (by omega) dL_law_63 rfl rfl (fun h1 => ?_) (fun h1 => ?_)
  · skip
    refine xx_lv [0, 1, 2, 3, 4, 5, 6, 7] (lv' := [(0, .ref (b)), (1, .ref (r 4)), (2, .ref (r 0)), (3, .ref (r 1)), (4, .ref (r 2)), (5, .ref (r 3)), (6, .int (1)), (7, .int (nI (i)))]) rfl ?_
    exact xx_mono (Nat.le_add_right _ _) (Nat.le_add_right _ _) (k0 (by omega))
  · skip
    refine v_iload C dL_law_66 rfl 6 rfl ?_
    refine v_if_eq C (t := 340) dL_law_68 rfl rfl (fun h => absurd h (by decide)) (fun _ => ?_)
    refine v_aload_n C dL_law_71 rfl 0 rfl ?_
    refine v_iload C dL_law_72 rfl 7 rfl ?_
    refine l_invS C (As := [.ref (b), .int (nI (i))]) L_L_159 (c_L_pick hst hG S (by omega)) rfl rfl (B + 0) (D + 0) ⟨⟨by show _ + 0 ≤ _; omega, by omega⟩, by show _ + 0 ≤ _; omega, by omega⟩ rfl dL_law_74 rfl (fun v_ w3 hv2 => ?_)
    obtain ⟨⟨xx, rfl, hxx⟩, rfl⟩ := hv2
    show V X G 11 _ _ _ _ _ _ [.int (nI (xx))]
    refine v_istore C (lv1 := [(8, .int (nI (xx))), (0, .ref (b)), (1, .ref (r 4)), (2, .ref (r 0)), (3, .ref (r 1)), (4, .ref (r 2)), (5, .ref (r 3)), (6, .int (1)), (7, .int (nI (i)))]) dL_law_77 rfl (by decide) rfl ?_
    refine v_iload C dL_law_79 rfl 8 rfl ?_
    refine v_iconst C (v := 3) dL_law_81 rfl rfl ?_
    refine v_icN_ge C (t := 89) i 3 rfl rfl (by omega) (by omega) dL_law_82 rfl rfl (fun h4 => ?_) (fun h4 => ?_)
    · skip
      refine v_iload C dL_law_89 rfl 8 rfl ?_
      refine v_bipush C (v := 12) dL_law_91 rfl rfl ?_
      refine v_icN_ge C (t := 101) i 12 rfl rfl (by omega) (by omega) dL_law_93 rfl rfl (fun h5 => ?_) (fun h5 => ?_)
      · skip
        refine v_iload C dL_law_101 rfl 8 rfl ?_
        refine v_bipush C (v := 15) dL_law_103 rfl rfl ?_
        refine v_icN_ge C (t := 112) i 15 rfl rfl (by omega) (by omega) dL_law_105 rfl rfl (fun h6 => ?_) (fun h6 => ?_)
        · skip
          refine v_iload C dL_law_112 rfl 8 rfl ?_
          refine v_bipush C (v := 17) dL_law_114 rfl rfl ?_
          refine v_icN_ge C (t := 123) i 17 rfl rfl (by omega) (by omega) dL_law_116 rfl rfl (fun h7 => ?_) (fun h7 => ?_)
          · skip
            refine v_iload C dL_law_123 rfl 0 rfl ?_
            refine v_bipush C (v := 46) dL_law_125 rfl rfl ?_
            refine v_iremN C xx 46 rfl rfl (by omega) (by omega) (by omega) dL_law_127 rfl ?_
            refine xx_lv [1, 2, 3, 4, 5, 6, 8, 0] (lv' := [(0, .ref (b)), (1, .ref (r 4)), (2, .ref (r 0)), (3, .ref (r 1)), (4, .ref (r 2)), (5, .ref (r 3)), (7, .int (nI (i))), (8, .int (nI (xx)))]) rfl ?_
            exact xx_mono (bm (Nat.le_of_ble_eq_true rfl)) (bm (Nat.le_of_ble_eq_true rfl)) (kk xx hxx (xx % 46) (by omega) (by omega) (by omega))
          · skip
            refine v_iconst C (v := 4) dL_law_119 rfl rfl ?_
            refine v_goto C (q := 128) dL_law_120 rfl ?_
            refine xx_lv [1, 2, 3, 4, 5, 6, 8, 0] (lv' := [(0, .ref (b)), (1, .ref (r 4)), (2, .ref (r 0)), (3, .ref (r 1)), (4, .ref (r 2)), (5, .ref (r 3)), (7, .int (nI (i))), (8, .int (nI (xx)))]) rfl ?_
            exact xx_mono (bm (Nat.le_of_ble_eq_true rfl)) (bm (Nat.le_of_ble_eq_true rfl)) (kk xx hxx (4) (by omega) (by omega) (by omega))
        · skip
          refine v_iconst C (v := 1) dL_law_108 rfl rfl ?_
          refine v_goto C (q := 128) dL_law_109 rfl ?_
          refine xx_lv [1, 2, 3, 4, 5, 6, 8, 0] (lv' := [(0, .ref (b)), (1, .ref (r 4)), (2, .ref (r 0)), (3, .ref (r 1)), (4, .ref (r 2)), (5, .ref (r 3)), (7, .int (nI (i))), (8, .int (nI (xx)))]) rfl ?_
          exact xx_mono (bm (Nat.le_of_ble_eq_true rfl)) (bm (Nat.le_of_ble_eq_true rfl)) (kk xx hxx (1) (by omega) (by omega) (by omega))
      · skip
        refine v_bipush C (v := 13) dL_law_96 rfl rfl ?_
        refine v_goto C (q := 128) dL_law_98 rfl ?_
        refine xx_lv [1, 2, 3, 4, 5, 6, 8, 0] (lv' := [(0, .ref (b)), (1, .ref (r 4)), (2, .ref (r 0)), (3, .ref (r 1)), (4, .ref (r 2)), (5, .ref (r 3)), (7, .int (nI (i))), (8, .int (nI (xx)))]) rfl ?_
        exact xx_mono (bm (Nat.le_of_ble_eq_true rfl)) (bm (Nat.le_of_ble_eq_true rfl)) (kk xx hxx (13) (by omega) (by omega) (by omega))
    · skip
      refine v_iconst C (v := 0) dL_law_85 rfl rfl ?_
      refine v_goto C (q := 128) dL_law_86 rfl ?_
      refine xx_lv [1, 2, 3, 4, 5, 6, 8, 0] (lv' := [(0, .ref (b)), (1, .ref (r 4)), (2, .ref (r 0)), (3, .ref (r 1)), (4, .ref (r 2)), (5, .ref (r 3)), (7, .int (nI (i))), (8, .int (nI (xx)))]) rfl ?_
      exact xx_mono (bm (Nat.le_of_ble_eq_true rfl)) (bm (Nat.le_of_ble_eq_true rfl)) (kk xx hxx (0) (by omega) (by omega) (by omega))

theorem sg_law_2 {X : XS} {G : GG} {w : va_W} {Q : State → Prop} {r : Nat → Nat} {s t : SS} {nm nc nr k B D : Nat} {nme : String} {tb : List ExceptionTableEntry} {b L : Nat} {xs : Nat → Int32} {i : Nat} {xx how : Nat} (C : Cx X G cL_law 11 RL (some .boolean) r_L_law nme tb) (hW : Wd G r s t nm nc nr w) (hJ : Js s nm nc nr k) (hMi : MiOK G) (S : ScrG G b L xs) (hk : k ≤ 130) (hT : K9 s t nm nc nr k) (hxx : xx < 2 ^ 31) (hhow : how < 46) (hnm : how < 14 ∨ 0 < nm) (hKc : B + 133 ≤ r_L_law.cells) (hKn : D + 875 ≤ r_L_law.slots) (kk : ∀ zz, zz < 100000000 → ∀ w1, Nxt G r nm (k + 1) w1 → V X G 11 w1 (B + 133) (D + 875) Q 214 [(0, .ref (b)), (1, .ref (r 4)), (2, .ref (r 0)), (3, .ref (r 1)), (4, .ref (r 2)), (5, .ref (r 3)), (7, .int (nI (i))), (8, .int (nI (xx))), (10, .int (nI (zz)))] [.int (1)]) : V X G 11 w B D Q 128 [(0, .ref (b)), (1, .ref (r 4)), (2, .ref (r 0)), (3, .ref (r 1)), (4, .ref (r 2)), (5, .ref (r 3)), (7, .int (nI (i))), (8, .int (nI (xx)))] [.int (nI (how))] := by
  have hst : X.2.1.stackTraces = false := C.2.2.2.2.2.1
  have hG : GOK G := C.2.2.2.2.2.2.2.2.2.1
  have hm := hJ.1.1
  refine v_istore C (lv1 := [(9, .int (nI (how))), (0, .ref (b)), (1, .ref (r 4)), (2, .ref (r 0)), (3, .ref (r 1)), (4, .ref (r 2)), (5, .ref (r 3)), (7, .int (nI (i))), (8, .int (nI (xx)))]) dL_law_128 rfl (by decide) rfl ?_
  refine v_iload C dL_law_130 rfl 8 rfl ?_
  refine v_bipush C (v := 46) dL_law_132 rfl rfl ?_
  refine v_idivN C xx 46 rfl rfl (by omega) (by omega) (by omega) dL_law_134 rfl ?_
  have hzz : xx / 46 < 100000000 := by omega
  generalize xx / 46 = zz at hzz ⊢
  refine v_istore C (lv1 := [(10, .int (nI (zz))), (9, .int (nI (how))), (0, .ref (b)), (1, .ref (r 4)), (2, .ref (r 0)), (3, .ref (r 1)), (4, .ref (r 2)), (5, .ref (r 3)), (7, .int (nI (i))), (8, .int (nI (xx)))]) dL_law_135 rfl (by decide) rfl ?_
  refine v_iload C dL_law_137 rfl 1 rfl ?_
  refine v_bipush C (v := 14) dL_law_139 rfl rfl ?_
  refine v_icN_ge C (t := 159) how 14 rfl rfl (by omega) (by omega) dL_law_141 rfl rfl (fun h1 => ?_) (fun h1 => ?_)
  · skip
    refine v_iload C dL_law_159 rfl 1 rfl ?_
    refine v_bipush C (v := 30) dL_law_161 rfl rfl ?_
    refine v_icN_ge C (t := 183) how 30 rfl rfl (by omega) (by omega) dL_law_163 rfl rfl (fun h2 => ?_) (fun h2 => ?_)
    · skip
      refine v_iload C dL_law_183 rfl 1 rfl ?_
      refine v_bipush C (v := 39) dL_law_185 rfl rfl ?_
      refine v_icN_ge C (t := 207) how 39 rfl rfl (by omega) (by omega) dL_law_187 rfl rfl (fun h3 => ?_) (fun h3 => ?_)
      · skip
        refine v_aload_n C dL_law_207 rfl 3 rfl ?_
        refine v_aload_n C dL_law_208 rfl 4 rfl ?_
        refine v_iload C dL_law_209 rfl 0 rfl ?_
        refine l_invS C (As := [.ref (r 4), .ref (r 0), .int (nI (zz))]) L_L_174 (c_L_isPassed hst hG (by omega) hT (by omega) (by omega) hW hJ) rfl rfl (B + 133) (D + 875) ⟨⟨by show _ + 133 ≤ _; omega, by omega⟩, by show _ + 875 ≤ _; omega, by omega⟩ rfl dL_law_211 rfl (fun v_ w5 hv4 => ?_)
        obtain ⟨rfl, hN⟩ := hv4
        show V X G 11 _ _ _ _ _ _ [.int (1)]
        refine xx_lv [2, 3, 4, 5, 6, 7, 8, 9, 0] (lv' := [(0, .ref (b)), (1, .ref (r 4)), (2, .ref (r 0)), (3, .ref (r 1)), (4, .ref (r 2)), (5, .ref (r 3)), (7, .int (nI (i))), (8, .int (nI (xx))), (10, .int (nI (zz)))]) rfl ?_
        exact xx_mono (bm (Nat.le_of_ble_eq_true rfl)) (bm (Nat.le_of_ble_eq_true rfl)) (kk _ hzz _ hN)
      · skip
        refine v_aload_n C dL_law_190 rfl 3 rfl ?_
        refine v_aload_n C dL_law_191 rfl 4 rfl ?_
        refine v_aload C dL_law_192 rfl 7 rfl ?_
        refine v_iload C dL_law_194 rfl 1 rfl ?_
        refine v_bipush C (v := 30) dL_law_196 rfl rfl ?_
        refine v_isubN C how 30 (by omega) rfl rfl dL_law_198 rfl ?_
        refine v_iload C dL_law_199 rfl 0 rfl ?_
        refine l_invS C (As := [.ref (r 4), .ref (r 0), .ref (r 3), .int (nI (how - 30)), .int (nI (zz))]) L_L_171 (c_L_isTraded hst hG (by omega) hT (by omega) (by omega) (by omega) hW hJ) rfl rfl (B + 30) (D + 322) ⟨⟨by show _ + 30 ≤ _; omega, by omega⟩, by show _ + 322 ≤ _; omega, by omega⟩ rfl dL_law_201 rfl (fun v_ w7 hv6 => ?_)
        obtain ⟨rfl, hN⟩ := hv6
        show V X G 11 _ _ _ _ _ _ [.int (1)]
        refine v_goto C (q := 214) dL_law_204 rfl ?_
        refine xx_lv [2, 3, 4, 5, 6, 7, 8, 9, 0] (lv' := [(0, .ref (b)), (1, .ref (r 4)), (2, .ref (r 0)), (3, .ref (r 1)), (4, .ref (r 2)), (5, .ref (r 3)), (7, .int (nI (i))), (8, .int (nI (xx))), (10, .int (nI (zz)))]) rfl ?_
        exact xx_mono (bm (Nat.le_of_ble_eq_true rfl)) (bm (Nat.le_of_ble_eq_true rfl)) (kk _ hzz _ hN)
    · skip
      refine v_aload_n C dL_law_166 rfl 3 rfl ?_
      refine v_aload_n C dL_law_167 rfl 4 rfl ?_
      refine v_aload C dL_law_168 rfl 6 rfl ?_
      refine v_iload C dL_law_170 rfl 1 rfl ?_
      refine v_bipush C (v := 14) dL_law_172 rfl rfl ?_
      refine v_isubN C how 14 (by omega) rfl rfl dL_law_174 rfl ?_
      refine v_iload C dL_law_175 rfl 0 rfl ?_
      refine l_invS C (As := [.ref (r 4), .ref (r 0), .ref (r 2), .int (nI (how - 14)), .int (nI (zz))]) L_L_167 (c_L_isDug hst hG (by omega) hT (by omega) (by omega) (by omega) hW hJ) rfl rfl (B + 44) (D + 418) ⟨⟨by show _ + 44 ≤ _; omega, by omega⟩, by show _ + 418 ≤ _; omega, by omega⟩ rfl dL_law_177 rfl (fun v_ w9 hv8 => ?_)
      obtain ⟨rfl, hN⟩ := hv8
      show V X G 11 _ _ _ _ _ _ [.int (1)]
      refine v_goto C (q := 214) dL_law_180 rfl ?_
      refine xx_lv [2, 3, 4, 5, 6, 7, 8, 9, 0] (lv' := [(0, .ref (b)), (1, .ref (r 4)), (2, .ref (r 0)), (3, .ref (r 1)), (4, .ref (r 2)), (5, .ref (r 3)), (7, .int (nI (i))), (8, .int (nI (xx))), (10, .int (nI (zz)))]) rfl ?_
      exact xx_mono (bm (Nat.le_of_ble_eq_true rfl)) (bm (Nat.le_of_ble_eq_true rfl)) (kk _ hzz _ hN)
  · skip
    refine v_aload_n C dL_law_144 rfl 3 rfl ?_
    refine v_aload_n C dL_law_145 rfl 4 rfl ?_
    refine v_aload_n C dL_law_146 rfl 5 rfl ?_
    refine v_aload C dL_law_147 rfl 6 rfl ?_
    refine v_iload C dL_law_149 rfl 1 rfl ?_
    refine v_iload C dL_law_151 rfl 0 rfl ?_
    refine l_invS C (As := [.ref (r 4), .ref (r 0), .ref (r 1), .ref (r 2), .int (nI (how)), .int (nI (zz))]) L_L_163 (c_L_isTold hst hG hMi (by omega) hT (by omega) (by omega) hW hJ) rfl rfl (B + 28) (D + 250) ⟨⟨by show _ + 28 ≤ _; omega, by omega⟩, by show _ + 250 ≤ _; omega, by omega⟩ rfl dL_law_153 rfl (fun v_ w11 hv10 => ?_)
    obtain ⟨rfl, hN⟩ := hv10
    show V X G 11 _ _ _ _ _ _ [.int (1)]
    refine v_goto C (q := 214) dL_law_156 rfl ?_
    refine xx_lv [2, 3, 4, 5, 6, 7, 8, 9, 0] (lv' := [(0, .ref (b)), (1, .ref (r 4)), (2, .ref (r 0)), (3, .ref (r 1)), (4, .ref (r 2)), (5, .ref (r 3)), (7, .int (nI (i))), (8, .int (nI (xx))), (10, .int (nI (zz)))]) rfl ?_
    exact xx_mono (bm (Nat.le_of_ble_eq_true rfl)) (bm (Nat.le_of_ble_eq_true rfl)) (kk _ hzz _ hN)

theorem sg_law_3 {X : XS} {G : GG} {w : va_W} {Q : State → Prop} {r : Nat → Nat} {s t : SS} {nm nc nr k B D : Nat} {nme : String} {tb : List ExceptionTableEntry} {b L : Nat} {xs : Nat → Int32} {i : Nat} {xx zz : Nat} (C : Cx X G cL_law 11 RL (some .boolean) r_L_law nme tb) (hW : Wd G r s t nm nc nr w) (hJ : Js s nm nc nr k) (hMi : MiOK G) (S : ScrG G b L xs) (hk : k ≤ 131) (hT : K9 s t nm nc nr k) (hxx : xx < 2 ^ 31) (hzz : zz < 100000000) (hKc : B + 492 ≤ r_L_law.cells) (hKn : D + 3183 ≤ r_L_law.slots) (kk : ∀ t1 w1, Wd G r s t1 nm nc nr w1 → K9 s t1 nm nc nr k → V X G 11 w1 (B + 492) (D + 3183) Q 282 [(0, .ref (b)), (1, .ref (r 4)), (2, .ref (r 0)), (3, .ref (r 1)), (4, .ref (r 2)), (5, .ref (r 3)), (7, .int (nI (i))), (8, .int (nI (xx))), (10, .int (nI (zz)))] []) : V X G 11 w B D Q 214 [(0, .ref (b)), (1, .ref (r 4)), (2, .ref (r 0)), (3, .ref (r 1)), (4, .ref (r 2)), (5, .ref (r 3)), (7, .int (nI (i))), (8, .int (nI (xx))), (10, .int (nI (zz)))] [.int (1)] := by
  have hst : X.2.1.stackTraces = false := C.2.2.2.2.2.1
  have hG : GOK G := C.2.2.2.2.2.2.2.2.2.1
  have hm := hJ.1.1
  refine v_istore C (lv1 := [(6, .int (1)), (0, .ref (b)), (1, .ref (r 4)), (2, .ref (r 0)), (3, .ref (r 1)), (4, .ref (r 2)), (5, .ref (r 3)), (7, .int (nI (i))), (8, .int (nI (xx))), (10, .int (nI (zz)))]) dL_law_214 rfl (by decide) rfl ?_
  refine v_iload C dL_law_216 rfl 0 rfl ?_
  refine v_if_eq C (t := 306) dL_law_218 rfl rfl (fun h => absurd h (by decide)) (fun _ => ?_)
  refine v_aload_n C dL_law_221 rfl 2 rfl ?_
  refine v_aload_n C dL_law_222 rfl 3 rfl ?_
  refine v_aload_n C dL_law_223 rfl 4 rfl ?_
  refine v_aload C dL_law_224 rfl 5 rfl ?_
  refine v_iload C dL_law_226 rfl 9 rfl ?_
  refine l_invS C (As := [.ref (r 4), .ref (r 0), .ref (r 1), .ref (r 2), .int (nI (zz))]) L_L_177 (c_L_isSound hst hG (by omega) hT (by omega) hW hJ) rfl rfl (B + 461) (D + 2766) ⟨⟨by show _ + 461 ≤ _; omega, by omega⟩, by show _ + 2766 ≤ _; omega, by omega⟩ rfl dL_law_228 rfl (fun v_ w2 hv1 => ?_)
  obtain ⟨rfl, t1, hW1, hT1⟩ := hv1
  show V X G 11 _ _ _ _ _ _ [.int (1)]
  refine v_if_eq C (t := 306) dL_law_231 rfl rfl (fun h => absurd h (by decide)) (fun _ => ?_)
  refine v_aload_n C dL_law_234 rfl 3 rfl ?_
  refine v_iconst C (v := 1) dL_law_235 rfl rfl ?_
  refine v_mld C hW1 0 (by decide) 1 (show 1 < 6 by omega) dL_law_236 rfl ?_
  refine xx_top (y := nI (nc)) hT1.1.2.1 ?_
  refine v_ifN_eq C (t := 282) nc rfl (by omega) dL_law_237 rfl rfl (fun h3 => ?_) (fun h3 => ?_)
  · skip
    refine xx_lv [1, 2, 3, 4, 5, 6, 7, 8, 9] (lv' := [(0, .ref (b)), (1, .ref (r 4)), (2, .ref (r 0)), (3, .ref (r 1)), (4, .ref (r 2)), (5, .ref (r 3)), (7, .int (nI (i))), (8, .int (nI (xx))), (10, .int (nI (zz)))]) rfl ?_
    exact xx_mono (bm (Nat.le_of_ble_eq_true rfl)) (bm (Nat.le_of_ble_eq_true rfl)) (kk _ _ hW1 hT1)
  · skip
    refine v_iload C dL_law_240 rfl 9 rfl ?_
    refine v_bipush C (v := 6) dL_law_242 rfl rfl ?_
    refine v_iremN C zz 6 rfl rfl (by omega) (by omega) (by omega) dL_law_244 rfl ?_
    refine v_ifN_gt C (t := 282) (zz % 6) rfl (by omega) dL_law_245 rfl rfl (fun h4 => ?_) (fun h4 => ?_)
    · skip
      refine xx_lv [1, 2, 3, 4, 5, 6, 7, 8, 9] (lv' := [(0, .ref (b)), (1, .ref (r 4)), (2, .ref (r 0)), (3, .ref (r 1)), (4, .ref (r 2)), (5, .ref (r 3)), (7, .int (nI (i))), (8, .int (nI (xx))), (10, .int (nI (zz)))]) rfl ?_
      exact xx_mono (bm (Nat.le_of_ble_eq_true rfl)) (bm (Nat.le_of_ble_eq_true rfl)) (kk _ _ hW1 hT1)
    · skip
      refine v_aload_n C dL_law_248 rfl 3 rfl ?_
      refine v_iconst C (v := 5) dL_law_249 rfl rfl ?_
      refine v_mld C hW1 0 (by decide) 5 (show 5 < 6 by omega) dL_law_250 rfl ?_
      refine v_iconst C (v := 5) dL_law_251 rfl rfl ?_
      refine v_icmp_gt C (t := 282) dL_law_252 rfl rfl (fun h5 => ?_) (fun h5 => ?_)
      · skip
        refine xx_lv [1, 2, 3, 4, 5, 6, 7, 8, 9] (lv' := [(0, .ref (b)), (1, .ref (r 4)), (2, .ref (r 0)), (3, .ref (r 1)), (4, .ref (r 2)), (5, .ref (r 3)), (7, .int (nI (i))), (8, .int (nI (xx))), (10, .int (nI (zz)))]) rfl ?_
        exact xx_mono (bm (Nat.le_of_ble_eq_true rfl)) (bm (Nat.le_of_ble_eq_true rfl)) (kk _ _ hW1 hT1)
      · skip
        refine v_aload_n C dL_law_255 rfl 2 rfl ?_
        refine v_aload_n C dL_law_256 rfl 3 rfl ?_
        refine v_iload C dL_law_257 rfl 9 rfl ?_
        refine v_aload_n C dL_law_259 rfl 3 rfl ?_
        refine v_iconst C (v := 1) dL_law_260 rfl rfl ?_
        refine v_mld C hW1 0 (by decide) 1 (show 1 < 6 by omega) dL_law_261 rfl ?_
        refine xx_top (y := nI (nc)) hT1.1.2.1 ?_
        have hcl : zz % nc < nc := Nat.mod_lt _ (by omega)
        refine v_iremN C zz nc rfl rfl (by omega) (by omega) (by omega) dL_law_262 rfl ?_
        refine v_iload C dL_law_263 rfl 9 rfl ?_
        refine v_bipush C (v := 40) dL_law_265 rfl rfl ?_
        refine v_idivN C zz 40 rfl rfl (by omega) (by omega) (by omega) dL_law_267 rfl ?_
        refine v_iconst C (v := 4) dL_law_268 rfl rfl ?_
        refine v_iremN C (zz / 40) 4 rfl rfl (by omega) (by omega) (by omega) dL_law_269 rfl ?_
        refine v_iload C dL_law_270 rfl 9 rfl ?_
        refine v_sipush C (v := 160) dL_law_272 rfl rfl ?_
        refine v_idivN C zz 160 rfl rfl (by omega) (by omega) (by omega) dL_law_275 rfl ?_
        refine l_invS C (As := [.ref (r 4), .ref (r 0), .int (nI (zz % nc)), .int (nI ((zz / 40) % 4)), .int (nI (zz / 160))]) L_L_181 (c_L_isPlanned hst hG (by omega) hT1 (by omega) (by omega) (by omega) hW1 hJ) rfl rfl (B + 492) (D + 3183) ⟨⟨by show _ + 31 ≤ _; omega, by omega⟩, by show _ + 417 ≤ _; omega, by omega⟩ rfl dL_law_276 rfl (fun v_ w7 hv6 => ?_)
        obtain ⟨rfl, hW2⟩ := hv6
        show V X G 11 _ _ _ _ _ _ [.int (1)]
        refine v_if_eq C (t := 306) dL_law_279 rfl rfl (fun h => absurd h (by decide)) (fun _ => ?_)
        refine xx_lv [1, 2, 3, 4, 5, 6, 7, 8, 9] (lv' := [(0, .ref (b)), (1, .ref (r 4)), (2, .ref (r 0)), (3, .ref (r 1)), (4, .ref (r 2)), (5, .ref (r 3)), (7, .int (nI (i))), (8, .int (nI (xx))), (10, .int (nI (zz)))]) rfl ?_
        exact xx_mono (bm (Nat.le_of_ble_eq_true rfl)) (bm (Nat.le_of_ble_eq_true rfl)) (kk _ _ hW2 hT1)

theorem sg_law_4a {X : XS} {G : GG} {w : va_W} {Q : State → Prop} {r : Nat → Nat} {s t : SS} {nm nc nr k B D : Nat} {nme : String} {tb : List ExceptionTableEntry} {b L : Nat} {xs : Nat → Int32} {i : Nat} {xx zz : Nat} (C : Cx X G cL_law 11 RL (some .boolean) r_L_law nme tb) (hW : Wd G r s t nm nc nr w) (hJ : Js s nm nc nr k) (hMi : MiOK G) (S : ScrG G b L xs) (hk : k ≤ 131) (hT : K9 s t nm nc nr k) (hxx : xx < 2 ^ 31) (hzz : zz < 100000000) (hi : i < 130) (hi4 : i % 40 = 0) (hKc : B + 5563 ≤ r_L_law.cells) (hKn : D + 75035 ≤ r_L_law.slots) (kk : V X G 11 w (B + 5563) (D + 75035) Q 302 [(0, .ref (b)), (1, .ref (r 4)), (2, .ref (r 0)), (3, .ref (r 1)), (4, .ref (r 2)), (5, .ref (r 3)), (7, .int (nI (i))), (8, .int (nI (xx))), (10, .int (nI (zz)))] []) : V X G 11 w B D Q 282 [(0, .ref (b)), (1, .ref (r 4)), (2, .ref (r 0)), (3, .ref (r 1)), (4, .ref (r 2)), (5, .ref (r 3)), (7, .int (nI (i))), (8, .int (nI (xx))), (10, .int (nI (zz)))] [] := by
  have hst : X.2.1.stackTraces = false := C.2.2.2.2.2.1
  have hG : GOK G := C.2.2.2.2.2.2.2.2.2.1
  have hm := hJ.1.1
  refine v_iload C dL_law_282 rfl 6 rfl ?_
  refine v_bipush C (v := 40) dL_law_284 rfl rfl ?_
  refine v_iremN C i 40 rfl rfl (by omega) (by omega) (by omega) dL_law_286 rfl ?_
  refine v_ifN_gt C (t := 302) (i % 40) rfl (by omega) dL_law_287 rfl rfl (fun h => ((by omega : False)).elim) (fun _ => ?_)
  refine v_aload_n C dL_law_290 rfl 1 rfl ?_
  refine v_aload_n C dL_law_291 rfl 2 rfl ?_
  refine v_iload C dL_law_292 rfl 7 rfl ?_
  refine v_iconst C (v := 3) dL_law_294 rfl rfl ?_
  refine v_idivN C xx 3 rfl rfl (by omega) (by omega) (by omega) dL_law_295 rfl ?_
  refine l_invS C (As := [.ref (r 4), .ref (r 0), .int (nI (xx / 3))]) L_L_155 (c_L_isRefused (X0 := xx / 3) hst hG hMi (by omega) hT (by omega) hW hJ) rfl rfl (B + 5563) (D + 75035) ⟨⟨by show _ + 5563 ≤ _; omega, by omega⟩, by show _ + 75035 ≤ _; omega, by omega⟩ rfl dL_law_296 rfl (fun v_ w2 hv1 => ?_)
  obtain ⟨rfl, rfl, -⟩ := hv1
  show V X G 11 _ _ _ _ _ _ [.int (1)]
  refine v_if_eq C (t := 306) dL_law_299 rfl rfl (fun h => absurd h (by decide)) (fun _ => ?_)
  refine xx_lv [0, 1, 2, 3, 4, 5, 6, 7, 8] (lv' := [(0, .ref (b)), (1, .ref (r 4)), (2, .ref (r 0)), (3, .ref (r 1)), (4, .ref (r 2)), (5, .ref (r 3)), (7, .int (nI (i))), (8, .int (nI (xx))), (10, .int (nI (zz)))]) rfl ?_
  exact xx_mono (bm (Nat.le_of_ble_eq_true rfl)) (bm (Nat.le_of_ble_eq_true rfl)) (kk)

theorem sg_law_4b {X : XS} {G : GG} {w : va_W} {Q : State → Prop} {r : Nat → Nat} {s t : SS} {nm nc nr k B D : Nat} {nme : String} {tb : List ExceptionTableEntry} {b L : Nat} {xs : Nat → Int32} {i : Nat} {xx zz : Nat} (C : Cx X G cL_law 11 RL (some .boolean) r_L_law nme tb) (hW : Wd G r s t nm nc nr w) (hJ : Js s nm nc nr k) (hMi : MiOK G) (S : ScrG G b L xs) (hk : k ≤ 131) (hT : K9 s t nm nc nr k) (hxx : xx < 2 ^ 31) (hzz : zz < 100000000) (hi : i < 130) (hi4 : ¬ i % 40 = 0) (hKc : B + 0 ≤ r_L_law.cells) (hKn : D + 0 ≤ r_L_law.slots) (kk : V X G 11 w (B + 0) (D + 0) Q 302 [(0, .ref (b)), (1, .ref (r 4)), (2, .ref (r 0)), (3, .ref (r 1)), (4, .ref (r 2)), (5, .ref (r 3)), (7, .int (nI (i))), (8, .int (nI (xx))), (10, .int (nI (zz)))] []) : V X G 11 w B D Q 282 [(0, .ref (b)), (1, .ref (r 4)), (2, .ref (r 0)), (3, .ref (r 1)), (4, .ref (r 2)), (5, .ref (r 3)), (7, .int (nI (i))), (8, .int (nI (xx))), (10, .int (nI (zz)))] [] := by
  have hst : X.2.1.stackTraces = false := C.2.2.2.2.2.1
  have hG : GOK G := C.2.2.2.2.2.2.2.2.2.1
  have hm := hJ.1.1
  refine v_iload C dL_law_282 rfl 6 rfl ?_
  refine v_bipush C (v := 40) dL_law_284 rfl rfl ?_
  refine v_iremN C i 40 rfl rfl (by omega) (by omega) (by omega) dL_law_286 rfl ?_
  refine v_ifN_gt C (t := 302) (i % 40) rfl (by omega) dL_law_287 rfl rfl (fun _ => ?_) (fun h => ((by omega : False)).elim)
  refine xx_lv [0, 1, 2, 3, 4, 5, 6, 7, 8] (lv' := [(0, .ref (b)), (1, .ref (r 4)), (2, .ref (r 0)), (3, .ref (r 1)), (4, .ref (r 2)), (5, .ref (r 3)), (7, .int (nI (i))), (8, .int (nI (xx))), (10, .int (nI (zz)))]) rfl ?_
  exact xx_mono (Nat.le_add_right _ _) (Nat.le_add_right _ _) (kk)

theorem sg_law_5 {X : XS} {G : GG} {w : va_W} {Q : State → Prop} {r : Nat → Nat} {s t : SS} {nm nc nr k B D : Nat} {nme : String} {tb : List ExceptionTableEntry} {b L : Nat} {xs : Nat → Int32} {i : Nat} {xx zz : Nat} (C : Cx X G cL_law 11 RL (some .boolean) r_L_law nme tb) (hW : Wd G r s t nm nc nr w) (hJ : Js s nm nc nr k) (hMi : MiOK G) (S : ScrG G b L xs) (hT : K9 s t nm nc nr k) (hzz : zz < 100000000) (hi : i < 130) (hKc : B + 0 ≤ r_L_law.cells) (hKn : D + 0 ≤ r_L_law.slots) (kk : ∀ t1 w1, Wd G r s t1 nm nc nr w1 → K9 s t1 nm nc nr k → V X G 11 w1 (B + 0) (D + 0) Q 58 [(0, .ref (b)), (1, .ref (r 4)), (2, .ref (r 0)), (3, .ref (r 1)), (4, .ref (r 2)), (5, .ref (r 3)), (6, .int (1)), (7, .int (nI (i + 1)))] []) : V X G 11 w B D Q 302 [(0, .ref (b)), (1, .ref (r 4)), (2, .ref (r 0)), (3, .ref (r 1)), (4, .ref (r 2)), (5, .ref (r 3)), (7, .int (nI (i))), (8, .int (nI (xx))), (10, .int (nI (zz)))] [] := by
  have hst : X.2.1.stackTraces = false := C.2.2.2.2.2.1
  have hG : GOK G := C.2.2.2.2.2.2.2.2.2.1
  have hm := hJ.1.1
  refine v_iconst C (v := 1) dL_law_302 rfl rfl ?_
  refine v_goto C (q := 307) dL_law_303 rfl ?_
  refine v_istore C (lv1 := [(6, .int (1)), (0, .ref (b)), (1, .ref (r 4)), (2, .ref (r 0)), (3, .ref (r 1)), (4, .ref (r 2)), (5, .ref (r 3)), (7, .int (nI (i))), (8, .int (nI (xx))), (10, .int (nI (zz)))]) dL_law_307 rfl (by decide) rfl ?_
  refine v_aload_n C dL_law_309 rfl 3 rfl ?_
  refine v_iconst C (v := 5) dL_law_310 rfl rfl ?_
  refine v_dup2 C dL_law_311 rfl rfl rfl ?_
  refine v_mld C hW 0 (by decide) 5 (show 5 < 6 by omega) dL_law_312 rfl ?_
  refine v_aload_n C dL_law_313 rfl 3 rfl ?_
  refine v_iconst C (v := 1) dL_law_314 rfl rfl ?_
  refine v_mld C hW 0 (by decide) 1 (show 1 < 6 by omega) dL_law_315 rfl ?_
  refine xx_top (y := nI (nc)) hT.1.2.1 ?_
  refine v_ifN_le C (t := 331) nc rfl (by omega) dL_law_316 rfl rfl (fun h1 => ?_) (fun h1 => ?_)
  · skip
    refine v_iconst C (v := 0) dL_law_331 rfl rfl ?_
    refine v_iadd C dL_law_332 rfl ?_
    refine v_mst C hW 0 (by decide) 5 (show 5 < 6 by omega) dL_law_333 rfl (fun w2 hW3 => ?_)
    refine v_iincN C (lv1 := [(7, .int (nI (i + 1))), (6, .int (1)), (0, .ref (b)), (1, .ref (r 4)), (2, .ref (r 0)), (3, .ref (r 1)), (4, .ref (r 2)), (5, .ref (r 3)), (8, .int (nI (xx))), (10, .int (nI (zz)))]) i rfl dL_law_334 rfl 7 rfl (by decide) rfl ?_
    refine v_goto C (q := 58) dL_law_337 rfl ?_
    refine xx_lv [2, 3, 4, 5, 6, 7, 1, 0] (lv' := [(0, .ref (b)), (1, .ref (r 4)), (2, .ref (r 0)), (3, .ref (r 1)), (4, .ref (r 2)), (5, .ref (r 3)), (6, .int (1)), (7, .int (nI (i + 1)))]) rfl ?_
    obtain ⟨p, hp, -⟩ := hT.1.2.2.2.2.2
    exact xx_mono (Nat.le_add_right _ _) (Nat.le_add_right _ _) (kk _ _ hW3 (hT.m5 ⟨p, by rw [hp]; exact Int32.add_zero _⟩))
  · skip
    refine v_iload C dL_law_319 rfl 9 rfl ?_
    refine v_bipush C (v := 6) dL_law_321 rfl rfl ?_
    refine v_iremN C zz 6 rfl rfl (by omega) (by omega) (by omega) dL_law_323 rfl ?_
    refine xx_sel (P := (zz % 6) = 0) 332 [.int (t 0 5), .int (5), .ref (r 0)] ?_ (fun jj => ?_)
    · skip
      refine v_iadd C dL_law_332 rfl ?_
      refine v_mst C hW 0 (by decide) 5 (show 5 < 6 by omega) dL_law_333 rfl (fun w5 hW6 => ?_)
      refine v_iincN C (lv1 := [(7, .int (nI (i + 1))), (6, .int (1)), (0, .ref (b)), (1, .ref (r 4)), (2, .ref (r 0)), (3, .ref (r 1)), (4, .ref (r 2)), (5, .ref (r 3)), (8, .int (nI (xx))), (10, .int (nI (zz)))]) i rfl dL_law_334 rfl 7 rfl (by decide) rfl ?_
      refine v_goto C (q := 58) dL_law_337 rfl ?_
      refine xx_lv [2, 3, 4, 5, 6, 7, 1, 0] (lv' := [(0, .ref (b)), (1, .ref (r 4)), (2, .ref (r 0)), (3, .ref (r 1)), (4, .ref (r 2)), (5, .ref (r 3)), (6, .int (1)), (7, .int (nI (i + 1)))]) rfl ?_
      obtain ⟨p, hp, -⟩ := hT.1.2.2.2.2.2
      exact xx_mono (Nat.le_add_right _ _) (Nat.le_add_right _ _) (kk _ _ hW6 (hT.m5 (by rw [hp]; exact ex_bI)))
    refine v_ifN_ne C (t := 331) (zz % 6) rfl (by omega) dL_law_324 rfl rfl (fun h4 => ?_) (fun h4 => ?_)
    · skip
      refine v_iconst C (v := 0) dL_law_331 rfl rfl ?_
      exact jj _ (bI_f (by first | assumption | omega)).symm
    · skip
      refine v_iconst C (v := 1) dL_law_327 rfl rfl ?_
      refine v_goto C (q := 332) dL_law_328 rfl ?_
      exact jj _ (bI_t (by first | assumption | omega)).symm

theorem lw_loop {X : XS} {G : GG} {nme : String} {tb : List ExceptionTableEntry} {Q : State → Prop} {b L : Nat} {xs : Nat → Int32} {r : Nat → Nat} (C : Cx X G cL_law 11 RL (some .boolean) r_L_law nme tb) (hMi : MiOK G) (S : ScrG G b L xs) (hret : ∀ (w : va_W) (k n : Nat) (lv : List (Nat × Value)), k ≤ 640213 → n ≤ 7180985 → V X G 11 w k n Q 342 lv [.int 1]) : ∀ n i, i + n = 130 → ∀ (w : va_W) (s t : SS) (nm nc nr B D : Nat), Wd G r s t nm nc nr w → Js s nm nc nr i → K9 s t nm nc nr i → (0 < i → 0 < nm) → B ≤ 11146 + 625 * i + 5563 * ((i + 39) / 40) → D ≤ 150470 + 4058 * i + 75035 * ((i + 39) / 40) → V X G 11 w B D Q 58 [(0, .ref (b)), (1, .ref (r 4)), (2, .ref (r 0)), (3, .ref (r 1)), (4, .ref (r 2)), (5, .ref (r 3)), (6, .int (1)), (7, .int (nI (i)))] [] := by
  have hc : r_L_law.cells = 640213 := rfl
  have hd : r_L_law.slots = 7180985 := rfl
  intro n
  induction n with
  | zero =>
    intro i hi w s t nm nc nr B D hW hJ hT hnm hB hD
    obtain rfl : i = 130 := by omega
    refine sg_law_1 C hW hJ hMi S (by omega) (by omega) (by omega) (fun _ => ?_) (fun xx hxx how hhow h0 h1 => absurd h1 (by omega))
    refine v_iload C dL_law_340 rfl 6 rfl ?_
    exact hret _ _ _ _ (by omega) (by omega)
  | succ n ih =>
    intro i hi w s t nm nc nr B D hW hJ hT hnm hB hD
    refine sg_law_1 C hW hJ hMi S (by omega) (by omega) (by omega) (fun h => absurd h (by omega)) (fun xx hxx how hhow h0 hi1 => ?_)
    refine sg_law_2 C hW hJ hMi S (by omega) hT hxx hhow (by omega) (by omega) (by omega) (fun zz hzz w1 hN => ?_)
    obtain ⟨s1, t1, nm1, nc1, nr1, hW1, hJ1, hT1, -, hnm1⟩ := hN
    refine sg_law_3 C hW1 hJ1 hMi S (by omega) hT1 hxx hzz (by omega) (by omega) (fun t2 w2 hW2 hT2 => ?_)
    by_cases h40 : i % 40 = 0
    · refine sg_law_4a C hW2 hJ1 hMi S (by omega) hT2 hxx hzz hi1 h40 (by omega) (by omega) ?_
      refine sg_law_5 C hW2 hJ1 hMi S hT2 hzz hi1 (by omega) (by omega) (fun t3 w3 hW3 hT3 => ?_)
      exact ih (i + 1) (by omega) _ _ _ _ _ _ _ _ hW3 hJ1 hT3 (fun _ => hnm1) (by omega) (by omega)
    · refine sg_law_4b C hW2 hJ1 hMi S (by omega) hT2 hxx hzz hi1 h40 (by omega) (by omega) ?_
      refine sg_law_5 C hW2 hJ1 hMi S hT2 hzz hi1 (by omega) (by omega) (fun t3 w3 hW3 hT3 => ?_)
      exact ih (i + 1) (by omega) _ _ _ _ _ _ _ _ hW3 hJ1 hT3 (fun _ => hnm1) (by omega) (by omega)

theorem lw_all {X : XS} {G : GG} {nme : String} {tb : List ExceptionTableEntry} {Q : State → Prop} {b L : Nat} {xs : Nat → Int32} (C : Cx X G cL_law 11 RL (some .boolean) r_L_law nme tb) (hMi : MiOK G) (S : ScrG G b L xs) (hret : ∀ (w : va_W) (k n : Nat) (lv : List (Nat × Value)), k ≤ 640213 → n ≤ 7180985 → V X G 11 w k n Q 342 lv [.int 1]) : V X G 11 [] 0 0 Q 0 [(0, .ref b)] [] := by
  have hc : r_L_law.cells = 640213 := rfl
  have hd : r_L_law.slots = 7180985 := rfl
  refine lw_init C (fun r w hW => ?_)
  refine sg_law_A C hW Js_00 hMi S (i := 0) (by omega) K9_00 (by omega) (by omega) ?_
  exact lw_loop C hMi S hret 130 0 rfl _ _ _ _ _ _ _ _ hW Js_00 K9_00 (fun h => absurd h (by omega)) (by omega) (by omega)
