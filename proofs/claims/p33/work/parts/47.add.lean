/-! a list grows and takes one more: over any world -/
theorem mxN {a b : Nat} (h : a ≤ b) (hb : b < 2 ^ 31) : maxF (nI a) (nI b) = nI b := by
  unfold maxF
  split
  · rfl
  · next h1 =>
    have h2 : ¬ a < b := fun z => h1 ((nI_ltI (by omega) hb).mpr z)
    rw [show a = b by omega]
theorem mnN {a b : Nat} (h : a ≤ b) (hb : b < 2 ^ 31) : minF (nI a) (nI b) = nI a := by
  unfold minF
  split
  · rfl
  · next h1 =>
    have h2 : ¬ a < b := fun z => h1 ((nI_ltI (by omega) hb).mpr z)
    rw [show a = b by omega]
abbrev OA (f : Nat → Option Nat) : Sum (Nat → Int32) (Sum (Nat → Int64) (Sum (Nat → UInt32) (Sum (Nat → UInt64) (Nat → Option Nat)))) := Sum.inr (Sum.inr (Sum.inr (Sum.inr f)))
abbrev r_J8_newLength_cabcc : Room := { frames := 1, cells := 0, slots := 0, locals := 14 }
theorem c_J8_newLength_cabcc {l : Launch} {G : GG} {w : va_W} {n m p : Nat} (hst : l.stackTraces = false) (hG : GOK G) (hmp : m ≤ p) (h0 : 0 < p) (hnp : n + p < 1000) : Mth l yJ8_newLength_cabcc cJ8_newLength_cabcc 4 (some .int) r_J8_newLength_cabcc G w [.int (nI n), .int (nI m), .int (nI p)] (RI (.int (nI (n + p))) w True) nX := by
  refine mth_of rfl (Nat.le_of_ble_eq_true rfl) hst hG (fun X hX C0 => ?_)
  subst hX
  have C : Cx X G cJ8_newLength_cabcc 4 RJ8 (some .int) r_J8_newLength_cabcc "newLength" [] := C0
  clear C0
  show V X G 4 _ 0 0 _ 0 [(0, .int (nI n)), (1, .int (nI m)), (2, .int (nI p))] []
  refine v_iload_n C dJ8_newLength_cabcc_0 rfl 0 rfl ?_
  refine v_iload_n C dJ8_newLength_cabcc_1 rfl 1 rfl ?_
  refine v_iload_n C dJ8_newLength_cabcc_2 rfl 2 rfl ?_
  refine v_mmax C L_J8_194.2.1 L_J8_194.2.2 L_J8_194.1.1 L_J8_194.1.2.1 (by decide) (Nat.le_of_ble_eq_true rfl) (by decide) (by decide) dJ8_newLength_cabcc_3 rfl ?_
  refine xx_top (y := maxF (nI m) (nI p)) mx_c ?_
  refine xx_top (y := nI p) (mxN hmp (by omega)) ?_
  refine v_iaddN C n p rfl rfl dJ8_newLength_cabcc_6 rfl ?_
  refine v_istore_n C (lv1 := [(3, .int (nI (n + p))), (0, .int (nI n)), (1, .int (nI m)), (2, .int (nI p))]) dJ8_newLength_cabcc_7 rfl (by decide) rfl ?_
  refine v_iconst C (v := 0) dJ8_newLength_cabcc_8 rfl rfl ?_
  refine v_iload_n C dJ8_newLength_cabcc_9 rfl 0 rfl ?_
  refine v_icmp_ge C (t := 21) dJ8_newLength_cabcc_10 rfl rfl (fun h => ?_) (fun _ => ?_)
  · exact absurd ((nI_leI (by omega) (by decide)).mp (show nI (n + p) ≤ nI 0 from h)) (by omega)
  refine v_iload_n C dJ8_newLength_cabcc_13 rfl 0 rfl ?_
  refine v_ldc C (v := 2147483639) dJ8_newLength_cabcc_14 rfl N_J8_200 ?_
  refine v_icmp_gt C (t := 21) dJ8_newLength_cabcc_16 rfl rfl (fun h => ?_) (fun _ => ?_)
  · exact absurd ((nI_ltI (by decide) (by omega)).mp (show nI 2147483639 < nI (n + p) from h)) (by omega)
  refine v_iload_n C dJ8_newLength_cabcc_19 rfl 0 rfl ?_
  exact v_iret C (by decide) (by decide) dJ8_newLength_cabcc_20 ⟨rfl, rfl, trivial⟩
abbrev r_J7_copyOf_6403c : Room := { frames := 1, cells := 1, slots := 40, locals := 18 }
theorem c_J7_copyOf_6403c {l : Launch} {G : GG} {w : va_W} {d n0 N x0 : Nat} {f : Nat → Option Nat} (hst : l.stackTraces = false) (hG : GOK G) (hMi : MiOK G) (h0 : w[x0]? = some (d, Sum.inl (G.2.2.1 2, n0, OA f))) (hn : n0 ≤ N) (hN : N ≤ 40) (hel : ∀ j, j < n0 → ∀ y, f j = some y → Ob w y) : Mth l yJ7_copyOf_6403c cJ7_copyOf_6403c 4 (some (.array (.object "java/lang/Object"))) r_J7_copyOf_6403c G w [.ref d, .int (nI N), .ref (G.2.2.1 12)] (fun v w1 => ∃ b : Nat, v = some (.ref b) ∧ w1 = w ++ [(b, Sum.inl (G.2.2.1 2, N, OA (va_cpy f (fun _ => none) 0 0 n0)))]) nX := by
  refine mth_of rfl (Nat.le_of_ble_eq_true rfl) hst hG (fun X hX C0 => ?_)
  subst hX
  have C : Cx X G cJ7_copyOf_6403c 4 RJ7 (some (.array (.object "java/lang/Object"))) r_J7_copyOf_6403c "copyOf" [] := C0
  clear C0
  have hmi := (hMi _ _ C.2.2.2.2.2.2.2.2.2.2.1).1
  show V X G 4 _ 0 0 _ 0 [(0, .ref d), (1, .int (nI N)), (2, .ref (G.2.2.1 12))] []
  refine v_aload_n C dJ7_copyOf_6403c_0 rfl 2 rfl ?_
  refine v_ldcM C K_J7_110 hmi dJ7_copyOf_6403c_1 rfl ?_
  refine v_acmp_ne C (t := 13) dJ7_copyOf_6403c_3 rfl rfl (fun h => absurd rfl h) (fun _ => ?_)
  refine v_iload_n C dJ7_copyOf_6403c_6 rfl 1 rfl ?_
  refine v_anew C (N := N) K_J7_2 (nI_pos (by omega)) (nI_clamp (by omega)) (by omega) (by decide) (by show 0 + N ≤ 40; omega) dJ7_copyOf_6403c_7 rfl (fun b => ?_)
  refine xx_mono (k' := 1) (n' := 40) (by omega) (by omega) ?_
  refine v_goto C (q := 24) dJ7_copyOf_6403c_10 rfl ?_
  refine v_astore_n C (lv1 := [(3, .ref b), (0, .ref d), (1, .int (nI N)), (2, .ref (G.2.2.1 12))]) dJ7_copyOf_6403c_24 rfl (by decide) rfl ?_
  refine v_aload_n C dJ7_copyOf_6403c_25 rfl 1 rfl ?_
  refine v_iconst C (v := 0) dJ7_copyOf_6403c_26 rfl rfl ?_
  refine v_aload_n C dJ7_copyOf_6403c_27 rfl 0 rfl ?_
  refine v_iconst C (v := 0) dJ7_copyOf_6403c_28 rfl rfl ?_
  refine v_aload_n C dJ7_copyOf_6403c_29 rfl 1 rfl ?_
  refine v_alen C (t := 2) (v := nI n0) (List.mem_append_left _ (List.mem_of_getElem? h0)) (by decide) rfl dJ7_copyOf_6403c_30 rfl ?_
  refine v_iload_n C dJ7_copyOf_6403c_31 rfl 2 rfl ?_
  refine v_mmin C L_J7_304.2.1 L_J7_304.2.2 L_J7_304.1.1 L_J7_304.1.2.1 (by decide) (Nat.le_of_ble_eq_true rfl) (by decide) (by decide) dJ7_copyOf_6403c_32 rfl ?_
  refine xx_top (y := minF (nI n0) (nI N)) mn_c ?_
  refine xx_top (y := nI n0) (mnN hn (by omega)) ?_
  refine v_copyA C (x0 := x0) (x1 := w.length) n0 (nI_clamp (by omega)) (nI_pos (by omega)) (q3 43 rfl rfl) (q3 45 rfl rfl) (q3 44 rfl rfl) (q1 20 rfl rfl) (ap_l h0) ap_new (Nat.le_refl _) hn (fun j hj y hy => (hel j hj y hy).app) (by decide) (Nat.le_of_ble_eq_true rfl) dJ7_copyOf_6403c_35 rfl ?_
  refine xx_w ap_sn0 ?_
  refine v_aload_n C dJ7_copyOf_6403c_38 rfl 0 rfl ?_
  exact v_aret C (Or.inr ⟨_, rfl⟩) (by decide) (by decide) dJ7_copyOf_6403c_39 ⟨b, rfl, rfl⟩
abbrev r_J7_copyOf_1904c : Room := { frames := 2, cells := 1, slots := 40, locals := 41 }
theorem c_J7_copyOf_1904c {l : Launch} {G : GG} {w : va_W} {d n0 N x0 : Nat} {f : Nat → Option Nat} (hst : l.stackTraces = false) (hG : GOK G) (hMi : MiOK G) (h0 : w[x0]? = some (d, Sum.inl (G.2.2.1 2, n0, OA f))) (hn : n0 ≤ N) (hN : N ≤ 40) (hel : ∀ j, j < n0 → ∀ y, f j = some y → Ob w y) : Mth l yJ7_copyOf_1904c cJ7_copyOf_1904c 2 (some (.array (.object "java/lang/Object"))) r_J7_copyOf_1904c G w [.ref d, .int (nI N)] (fun v w1 => ∃ b : Nat, v = some (.ref b) ∧ w1 = w ++ [(b, Sum.inl (G.2.2.1 2, N, OA (va_cpy f (fun _ => none) 0 0 n0)))]) nX := by
  refine mth_of rfl (Nat.le_of_ble_eq_true rfl) hst hG (fun X hX C0 => ?_)
  subst hX
  have C : Cx X G cJ7_copyOf_1904c 2 RJ7 (some (.array (.object "java/lang/Object"))) r_J7_copyOf_1904c "copyOf" [] := C0
  clear C0
  have hmi := hMi _ _ C.2.2.2.2.2.2.2.2.2.2.1
  show V X G 2 _ 0 0 _ 0 [(0, .ref d), (1, .int (nI N))] []
  refine v_aload_n C dJ7_copyOf_1904c_0 rfl 0 rfl ?_
  refine v_iload_n C dJ7_copyOf_1904c_1 rfl 1 rfl ?_
  refine v_aload_n C dJ7_copyOf_1904c_2 rfl 0 rfl ?_
  refine v_getCA C (q3 20 rfl rfl) hmi.2 (q4 113 rfl rfl) (q3 21 rfl rfl) (q3 35 rfl rfl) hmi.1 (List.mem_of_getElem? h0) (by decide) (Nat.le_of_ble_eq_true rfl) dJ7_copyOf_1904c_3 rfl ?_
  refine w_invS C [.ref d, .int (nI N), .ref (G.2.2.1 12)] 1 40 L_J7_300 (c_J7_copyOf_6403c hst hG hMi h0 hn hN hel) rfl rfl rfl dJ7_copyOf_1904c_6 rfl kx_no (fun v w1 hv => ?_)
  obtain ⟨b, rfl, rfl⟩ := hv
  exact v_aret C (Or.inr ⟨_, rfl⟩) (by decide) (by decide) dJ7_copyOf_1904c_9 ⟨b, rfl, rfl⟩
theorem dflt_T {X : XS} {G : GG} {cc : ByteArray} {nL : Nat} {own : String} {ret : Option FieldType} {rm : Room} {nm : String} {tb : List ExceptionTableEntry} (C : Cx X G cc nL own ret rm nm tb) : va_T (.object "java/lang/Object") (G.2.2.1 10) 0 (fun _ => .null) (gA G) X.2.2.2.2.1 X.2.2.2.2.1.heap := by
  obtain ⟨-, -, -, -, -, -, h, -⟩ := cx_sf C
  exact h
/-- how a list may grow: its first array, or a longer copy -/
def GwOK (G : GG) (w : va_W) (d n N : Nat) (f : Nat → Option Nat) : Prop := (n = 0 ∧ d = G.2.2.1 10 ∧ N = 10 ∧ f = fun _ => none) ∨ (10 ≤ n ∧ n ≤ 26 ∧ N = n + n / 2 ∧ ∃ f0 : Nat → Option Nat, (d, Sum.inl (G.2.2.1 2, n, OA f0)) ∈ w ∧ f = va_cpy f0 (fun _ => none) 0 0 n ∧ ∀ j, j < n → ∀ y, f0 j = some y → Ob w y)
abbrev r_Jx4a65c_grow_92f84 : Room := { frames := 3, cells := 1, slots := 40, locals := 62 }
theorem c_Jx4a65c_grow_92f84 {l : Launch} {G : GG} {w : va_W} {h d n N x6 : Nat} {mc : Int32} {f : Nat → Option Nat} (hst : l.stackTraces = false) (hG : GOK G) (hMi : MiOK G) (h6 : w[x6]? = some (h, Sum.inr (0, [.int mc, .ref d, .int (nI n)]))) (hgr : GwOK G w d n N f) : Mth l yJx4a65c_grow_92f84 cJx4a65c_grow_92f84 4 (some (.array (.object "java/lang/Object"))) r_Jx4a65c_grow_92f84 G w [.ref h, .int (nI (n + 1))] (fun v w1 => ∃ b : Nat, v = some (.ref b) ∧ w1 = w.set x6 (h, Sum.inr (0, [.int mc, .ref b, .int (nI n)])) ++ [(b, Sum.inl (G.2.2.1 2, N, OA f))]) nX := by
  have hlt : x6 < w.length := (List.getElem?_eq_some_iff.mp h6).1
  have hm6 := List.mem_of_getElem? h6
  refine mth_of rfl (Nat.le_of_ble_eq_true rfl) hst hG (fun X hX C0 => ?_)
  subst hX
  have C : Cx X G cJx4a65c_grow_92f84 4 RJx4a65c (some (.array (.object "java/lang/Object"))) r_Jx4a65c_grow_92f84 "grow" [] := C0
  clear C0
  show V X G 4 _ 0 0 _ 0 [(0, .ref h), (1, .int (nI (n + 1)))] []
  refine v_aload_n C dJx4a65c_grow_92f84_0 rfl 0 rfl ?_
  refine v_get C (v := .ref d) g_Jx4a65c_9 hm6 rfl dJx4a65c_grow_92f84_1 rfl ?_
  rcases hgr with ⟨rfl, rfl, rfl, rfl⟩ | ⟨h10, h26, rfl, f0, hd, rfl, hel⟩
  · refine v_tlen C (v := 0) (dflt_T C) rfl dJx4a65c_grow_92f84_4 rfl ?_
    refine v_istore_n C (lv1 := [(2, .int 0), (0, .ref h), (1, .int (nI (0 + 1)))]) dJx4a65c_grow_92f84_5 rfl (by decide) rfl ?_
    refine v_iload_n C dJx4a65c_grow_92f84_6 rfl 0 rfl ?_
    refine v_if_gt C (t := 20) dJx4a65c_grow_92f84_7 rfl rfl (fun h => absurd h (by decide)) (fun _ => ?_)
    refine v_aload_n C dJx4a65c_grow_92f84_10 rfl 1 rfl ?_
    refine v_get C (v := .ref (G.2.2.1 10)) g_Jx4a65c_9 hm6 rfl dJx4a65c_grow_92f84_11 rfl ?_
    refine v_gets C S_Jx4a65c_39 (dflt_Z C) dJx4a65c_grow_92f84_14 rfl ?_
    refine v_acmp_eq C (t := 45) dJx4a65c_grow_92f84_17 rfl rfl (fun _ => ?_) (fun h => absurd rfl h)
    refine v_aload_n C dJx4a65c_grow_92f84_45 rfl 1 rfl ?_
    refine v_bipush C (v := 10) dJx4a65c_grow_92f84_46 rfl rfl ?_
    refine v_iload_n C dJx4a65c_grow_92f84_48 rfl 2 rfl ?_
    refine v_mmax C L_Jx4a65c_79.2.1 L_Jx4a65c_79.2.2 L_Jx4a65c_79.1.1 L_Jx4a65c_79.1.2.1 (by decide) (Nat.le_of_ble_eq_true rfl) (by decide) (by decide) dJx4a65c_grow_92f84_49 rfl ?_
    refine xx_top (y := 10) (by decide) ?_
    refine v_anew C (N := 10) K_Jx4a65c_7 (by decide) rfl (by decide) (by decide) (by decide) dJx4a65c_grow_92f84_52 rfl (fun b => ?_)
    refine v_dup_x1 C dJx4a65c_grow_92f84_55 rfl rfl rfl ?_
    refine v_put C f_Jx4a65c_9 ⟨x6, ap_l h6, rfl⟩ rfl rfl (Nat.le_of_ble_eq_true rfl) dJx4a65c_grow_92f84_56 rfl ?_
    refine xx_w (ap_set hlt) ?_
    exact v_aret C (Or.inr ⟨_, rfl⟩) (by decide) (by decide) dJx4a65c_grow_92f84_59 ⟨b, rfl, rfl⟩
  · obtain ⟨x7, h7⟩ := List.getElem?_of_mem hd
    refine v_alen C (t := 2) (v := nI n) hd (by decide) rfl dJx4a65c_grow_92f84_4 rfl ?_
    refine v_istore_n C (lv1 := [(2, .int (nI n)), (0, .ref h), (1, .int (nI (n + 1)))]) dJx4a65c_grow_92f84_5 rfl (by decide) rfl ?_
    refine v_iload_n C dJx4a65c_grow_92f84_6 rfl 0 rfl ?_
    refine v_if_gt C (t := 20) dJx4a65c_grow_92f84_7 rfl rfl (fun _ => ?_) (fun h => absurd ((nI_ltI (a := 0) (by decide) (by omega)).mpr (by omega)) h)
    refine v_iload_n C dJx4a65c_grow_92f84_20 rfl 0 rfl ?_
    refine v_iload_n C dJx4a65c_grow_92f84_21 rfl 2 rfl ?_
    refine v_iload_n C dJx4a65c_grow_92f84_22 rfl 0 rfl ?_
    refine v_isubN C (n + 1) n (by omega) rfl rfl dJx4a65c_grow_92f84_23 rfl ?_
    refine v_iload_n C dJx4a65c_grow_92f84_24 rfl 0 rfl ?_
    refine v_iconst C (v := 1) dJx4a65c_grow_92f84_25 rfl rfl ?_
    refine v_ishrN C n 1 rfl rfl (by omega) (by omega) dJx4a65c_grow_92f84_26 rfl ?_
    refine w_invSr C [.int (nI n), .int (nI (n + 1 - n)), .int (nI (n / 2 ^ 1))] 0 0 L_Jx4a65c_73 (c_J8_newLength_cabcc hst hG (by omega) (by omega) (by omega)) rfl rfl rfl dJx4a65c_grow_92f84_27 rfl kx_no (fun _ => ?_)
    refine v_istore_n C (lv1 := [(3, .int (nI (n + n / 2 ^ 1))), (2, .int (nI n)), (0, .ref h), (1, .int (nI (n + 1)))]) dJx4a65c_grow_92f84_30 rfl (by decide) rfl ?_
    refine v_aload_n C dJx4a65c_grow_92f84_31 rfl 2 rfl ?_
    refine v_aload_n C dJx4a65c_grow_92f84_32 rfl 2 rfl ?_
    refine v_get C (v := .ref d) g_Jx4a65c_9 hm6 rfl dJx4a65c_grow_92f84_33 rfl ?_
    refine v_iload_n C dJx4a65c_grow_92f84_36 rfl 0 rfl ?_
    refine w_invS C [.ref d, .int (nI (n + n / 2 ^ 1))] 1 40 L_Jx4a65c_66 (c_J7_copyOf_1904c hst hG hMi h7 (by omega) (by omega) hel) rfl rfl rfl dJx4a65c_grow_92f84_37 rfl kx_no (fun v w1 hv => ?_)
    obtain ⟨b, rfl, rfl⟩ := hv
    show V X G 4 _ 1 40 _ 40 _ [.ref b, .ref h]
    refine v_dup_x1 C dJx4a65c_grow_92f84_40 rfl rfl rfl ?_
    refine v_put C f_Jx4a65c_9 ⟨x6, ap_l h6, rfl⟩ rfl rfl (Nat.le_of_ble_eq_true rfl) dJx4a65c_grow_92f84_41 rfl ?_
    refine xx_w (ap_set hlt) ?_
    exact v_aret C (Or.inr ⟨_, rfl⟩) (by decide) (by decide) dJx4a65c_grow_92f84_44 ⟨b, rfl, rfl⟩
abbrev r_Jx4a65c_grow_d5877 : Room := { frames := 4, cells := 1, slots := 40, locals := 85 }
theorem c_Jx4a65c_grow_d5877 {l : Launch} {G : GG} {w : va_W} {h d n N x6 : Nat} {mc : Int32} {f : Nat → Option Nat} (hst : l.stackTraces = false) (hG : GOK G) (hMi : MiOK G) (h6 : w[x6]? = some (h, Sum.inr (0, [.int mc, .ref d, .int (nI n)]))) (hgr : GwOK G w d n N f) : Mth l yJx4a65c_grow_d5877 cJx4a65c_grow_d5877 1 (some (.array (.object "java/lang/Object"))) r_Jx4a65c_grow_d5877 G w [.ref h] (fun v w1 => ∃ b : Nat, v = some (.ref b) ∧ w1 = w.set x6 (h, Sum.inr (0, [.int mc, .ref b, .int (nI n)])) ++ [(b, Sum.inl (G.2.2.1 2, N, OA f))]) nX := by
  have hm6 := List.mem_of_getElem? h6
  refine mth_of rfl (Nat.le_of_ble_eq_true rfl) hst hG (fun X hX C0 => ?_)
  subst hX
  have C : Cx X G cJx4a65c_grow_d5877 1 RJx4a65c (some (.array (.object "java/lang/Object"))) r_Jx4a65c_grow_d5877 "grow" [] := C0
  clear C0
  show V X G 1 _ 0 0 _ 0 [(0, .ref h)] []
  refine v_aload_n C dJx4a65c_grow_d5877_0 rfl 0 rfl ?_
  refine v_aload_n C dJx4a65c_grow_d5877_1 rfl 0 rfl ?_
  refine v_get C (v := .int (nI n)) g_Jx4a65c_48 hm6 rfl dJx4a65c_grow_d5877_2 rfl ?_
  refine v_iconst C (v := 1) dJx4a65c_grow_d5877_5 rfl rfl ?_
  refine v_iaddN C n 1 rfl rfl dJx4a65c_grow_d5877_6 rfl ?_
  refine w_invV C [.int (nI (n + 1))] 1 40 L_Jx4a65c_69 (c_Jx4a65c_grow_92f84 hst hG hMi h6 hgr) hm6 rfl rfl rfl rfl dJx4a65c_grow_d5877_7 rfl kx_no (fun v w1 hv => ?_)
  obtain ⟨b, rfl, rfl⟩ := hv
  show V X G 1 _ 1 40 _ 10 _ [.ref b]
  exact v_aret C (Or.inr ⟨_, rfl⟩) (by decide) (by decide) dJx4a65c_grow_d5877_10 ⟨b, rfl, rfl⟩
abbrev r_Jx4a65c_add_72be8 : Room := { frames := 5, cells := 1, slots := 40, locals := 105 }
/-- a place is left -/
theorem c_Jx4a65c_add_72be8_A {l : Launch} {G : GG} {w : va_W} {h d n N x6 x7 y : Nat} {mc : Int32} {f : Nat → Option Nat} (hst : l.stackTraces = false) (hG : GOK G) (h6 : w[x6]? = some (h, Sum.inr (0, [.int mc, .ref d, .int (nI n)]))) (h7 : w[x7]? = some (d, Sum.inl (G.2.2.1 2, N, OA f))) (hn : n < N) (hN : N < 1000) (hy : Ob w y) : Mth l yJx4a65c_add_72be8 cJx4a65c_add_72be8 4 none r_Jx4a65c_add_72be8 G w [.ref h, .ref y, .ref d, .int (nI n)] (RV ((w.set x7 (d, Sum.inl (G.2.2.1 2, N, OA (va_up f n (some y))))).set x6 (h, Sum.inr (0, [.int mc, .ref d, .int (nI (n + 1))]))) True) nX := by
  have hm7 := List.mem_of_getElem? h7
  have hx : x7 ≠ x6 := fun e => by rw [e, h6] at h7; cases h7
  refine mth_of rfl (Nat.le_of_ble_eq_true rfl) hst hG (fun X hX C0 => ?_)
  subst hX
  have C : Cx X G cJx4a65c_add_72be8 4 RJx4a65c none r_Jx4a65c_add_72be8 "add" [] := C0
  clear C0
  show V X G 4 _ 0 0 _ 0 [(0, .ref h), (1, .ref y), (2, .ref d), (3, .int (nI n))] []
  refine v_iload_n C dJx4a65c_add_72be8_0 rfl 3 rfl ?_
  refine v_aload_n C dJx4a65c_add_72be8_1 rfl 2 rfl ?_
  refine v_alen C (t := 2) (v := nI N) hm7 (by decide) rfl dJx4a65c_add_72be8_2 rfl ?_
  refine v_icN_ne C (t := 11) n N rfl rfl (by omega) (by omega) dJx4a65c_add_72be8_3 rfl rfl (fun _ => ?_) (fun h => absurd h (by omega))
  refine v_aload_n C dJx4a65c_add_72be8_11 rfl 2 rfl ?_
  refine v_iload_n C dJx4a65c_add_72be8_12 rfl 3 rfl ?_
  refine v_aload_n C dJx4a65c_add_72be8_13 rfl 1 rfl ?_
  refine v_aast C n (nI_clamp (by omega)) h7 hy (pk_in n N hn) dJx4a65c_add_72be8_14 rfl ?_
  refine v_aload_n C dJx4a65c_add_72be8_15 rfl 0 rfl ?_
  refine v_iload_n C dJx4a65c_add_72be8_16 rfl 3 rfl ?_
  refine v_iconst C (v := 1) dJx4a65c_add_72be8_17 rfl rfl ?_
  refine v_iaddN C n 1 rfl rfl dJx4a65c_add_72be8_18 rfl ?_
  refine v_put C f_Jx4a65c_48 ⟨x6, by rw [List.getElem?_set_ne hx]; exact h6, rfl⟩ rfl rfl (Nat.le_of_ble_eq_true rfl) dJx4a65c_add_72be8_19 rfl ?_
  exact v_vret C (by decide) (by decide) dJx4a65c_add_72be8_22 ⟨rfl, rfl, trivial⟩
/-- no place is left -/
theorem c_Jx4a65c_add_72be8_G {l : Launch} {G : GG} {w : va_W} {h d n N x6 y : Nat} {mc : Int32} {f : Nat → Option Nat} (hst : l.stackTraces = false) (hG : GOK G) (hMi : MiOK G) (h6 : w[x6]? = some (h, Sum.inr (0, [.int mc, .ref d, .int (nI n)]))) (hgr : GwOK G w d n N f) (hy : Ob w y) : Mth l yJx4a65c_add_72be8 cJx4a65c_add_72be8 4 none r_Jx4a65c_add_72be8 G w [.ref h, .ref y, .ref d, .int (nI n)] (fun v w1 => v = none ∧ ∃ b : Nat, w1 = w.set x6 (h, Sum.inr (0, [.int mc, .ref b, .int (nI (n + 1))])) ++ [(b, Sum.inl (G.2.2.1 2, N, OA (va_up f n (some y))))]) nX := by
  have hlt : x6 < w.length := (List.getElem?_eq_some_iff.mp h6).1
  have hm6 := List.mem_of_getElem? h6
  have hnN : n < N ∧ N < 1000 := by rcases hgr with ⟨rfl, -, rfl, -⟩ | ⟨h1, h2, rfl, -⟩ <;> omega
  refine mth_of rfl (Nat.le_of_ble_eq_true rfl) hst hG (fun X hX C0 => ?_)
  subst hX
  have C : Cx X G cJx4a65c_add_72be8 4 RJx4a65c none r_Jx4a65c_add_72be8 "add" [] := C0
  clear C0
  show V X G 4 _ 0 0 _ 0 [(0, .ref h), (1, .ref y), (2, .ref d), (3, .int (nI n))] []
  refine v_iload_n C dJx4a65c_add_72be8_0 rfl 3 rfl ?_
  refine v_aload_n C dJx4a65c_add_72be8_1 rfl 2 rfl ?_
  have hk : V X G 4 w 0 0 (Tg X G r_Jx4a65c_add_72be8 (fun v w1 => v = none ∧ ∃ b : Nat, w1 = w.set x6 (h, Sum.inr (0, [.int mc, .ref b, .int (nI (n + 1))])) ++ [(b, Sum.inl (G.2.2.1 2, N, OA (va_up f n (some y))))]) nX) 6 [(0, .ref h), (1, .ref y), (2, .ref d), (3, .int (nI n))] [] := by
    refine v_aload_n C dJx4a65c_add_72be8_6 rfl 0 rfl ?_
    refine w_invV C [] 1 40 L_Jx4a65c_129 (c_Jx4a65c_grow_d5877 hst hG hMi h6 hgr) hm6 rfl rfl rfl rfl dJx4a65c_add_72be8_7 rfl kx_no (fun v w1 hv => ?_)
    obtain ⟨b, rfl, rfl⟩ := hv
    show V X G 4 _ 1 40 _ 10 _ [.ref b]
    refine v_astore_n C (lv1 := [(2, .ref b), (0, .ref h), (1, .ref y), (3, .int (nI n))]) dJx4a65c_add_72be8_10 rfl (by decide) rfl ?_
    refine v_aload_n C dJx4a65c_add_72be8_11 rfl 0 rfl ?_
    refine v_iload_n C dJx4a65c_add_72be8_12 rfl 3 rfl ?_
    refine v_aload_n C dJx4a65c_add_72be8_13 rfl 2 rfl ?_
    refine v_aast C (x := (w.set x6 (h, Sum.inr (0, [.int mc, .ref b, .int (nI n)]))).length) n (nI_clamp (by omega)) ap_new (hy.set h6).app (pk_in n N hnN.1) dJx4a65c_add_72be8_14 rfl ?_
    refine xx_w ap_sn0 ?_
    refine v_aload_n C dJx4a65c_add_72be8_15 rfl 1 rfl ?_
    refine v_iload_n C dJx4a65c_add_72be8_16 rfl 3 rfl ?_
    refine v_iconst C (v := 1) dJx4a65c_add_72be8_17 rfl rfl ?_
    refine v_iaddN C n 1 rfl rfl dJx4a65c_add_72be8_18 rfl ?_
    refine v_put C f_Jx4a65c_48 ⟨x6, ap_l (List.getElem?_set_self hlt), rfl⟩ rfl rfl (Nat.le_of_ble_eq_true rfl) dJx4a65c_add_72be8_19 rfl ?_
    refine xx_w (ap_set (by simpa using hlt)) ?_
    refine xx_w (w' := w.set x6 (h, Sum.inr (0, [.int mc, .ref b, .int (nI (n + 1))])) ++ [(b, Sum.inl (G.2.2.1 2, N, OA (va_up f n (some y))))]) (by rw [List.set_set]; rfl) ?_
    exact v_vret C (by decide) (by decide) dJx4a65c_add_72be8_22 ⟨rfl, b, rfl⟩
  rcases hgr with ⟨rfl, rfl, -, -⟩ | ⟨h1, h2, -, f0, hd, -⟩
  · refine v_tlen C (v := nI 0) (dflt_T C) rfl dJx4a65c_add_72be8_2 rfl ?_
    exact v_icN_ne C (t := 11) 0 0 rfl rfl (by omega) (by omega) dJx4a65c_add_72be8_3 rfl rfl (fun h => absurd rfl h) (fun _ => hk)
  · refine v_alen C (t := 2) (v := nI n) hd (by decide) rfl dJx4a65c_add_72be8_2 rfl ?_
    exact v_icN_ne C (t := 11) n n rfl rfl (by omega) (by omega) dJx4a65c_add_72be8_3 rfl rfl (fun h => absurd rfl h) (fun _ => hk)
theorem GwOK.set {G : GG} {w : va_W} {d n N h x6 : Nat} {f : Nat → Option Nat} {z : Nat × va_E} {fs : List Value} (hg : GwOK G w d n N f) (h6 : w[x6]? = some (h, Sum.inr (0, fs))) : GwOK G (w.set x6 z) d n N f := by
  rcases hg with hg | ⟨h1, h2, h3, f0, hd, h4, hel⟩
  · exact Or.inl hg
  · exact Or.inr ⟨h1, h2, h3, f0, mem_sn hd h6 (fun e => by cases (Prod.mk.inj e).2), h4, fun j hj y hy => (hel j hj y hy).set h6⟩
theorem GwOK.app {G : GG} {w w2 : va_W} {d n N : Nat} {f : Nat → Option Nat} (hg : GwOK G w d n N f) : GwOK G (w ++ w2) d n N f := by
  rcases hg with hg | ⟨h1, h2, h3, f0, hd, h4, hel⟩
  · exact Or.inl hg
  · exact Or.inr ⟨h1, h2, h3, f0, List.mem_append_left _ hd, h4, fun j hj y hy => (hel j hj y hy).app⟩
abbrev r_Jx4a65c_add_9ea2d : Room := { frames := 6, cells := 1, slots := 40, locals := 128 }
theorem c_Jx4a65c_add_9ea2d_A {l : Launch} {G : GG} {w : va_W} {h d n N x6 x7 y : Nat} {mc : Int32} {f : Nat → Option Nat} (hst : l.stackTraces = false) (hG : GOK G) (h6 : w[x6]? = some (h, Sum.inr (0, [.int mc, .ref d, .int (nI n)]))) (h7 : w[x7]? = some (d, Sum.inl (G.2.2.1 2, N, OA f))) (hn : n < N) (hN : N < 1000) (hy : Ob w y) : Mth l yJx4a65c_add_9ea2d cJx4a65c_add_9ea2d 2 (some .boolean) r_Jx4a65c_add_9ea2d G w [.ref h, .ref y] (RI (.int 1) ((w.set x7 (d, Sum.inl (G.2.2.1 2, N, OA (va_up f n (some y))))).set x6 (h, Sum.inr (0, [.int (mc + 1), .ref d, .int (nI (n + 1))]))) True) nX := by
  have hlt : x6 < w.length := (List.getElem?_eq_some_iff.mp h6).1
  have hm6 := List.mem_of_getElem? h6
  have hx : x6 ≠ x7 := fun e => by rw [← e, h6] at h7; cases h7
  refine mth_of rfl (Nat.le_of_ble_eq_true rfl) hst hG (fun X hX C0 => ?_)
  subst hX
  have C : Cx X G cJx4a65c_add_9ea2d 2 RJx4a65c (some .boolean) r_Jx4a65c_add_9ea2d "add" [] := C0
  clear C0
  show V X G 2 _ 0 0 _ 0 [(0, .ref h), (1, .ref y)] []
  refine v_aload_n C dJx4a65c_add_9ea2d_0 rfl 0 rfl ?_
  refine v_dup C dJx4a65c_add_9ea2d_1 rfl rfl ?_
  refine v_get C (v := .int mc) g_Jx4a65c_63 hm6 rfl dJx4a65c_add_9ea2d_2 rfl ?_
  refine v_iconst C (v := 1) dJx4a65c_add_9ea2d_5 rfl rfl ?_
  refine v_iadd C dJx4a65c_add_9ea2d_6 rfl ?_
  refine v_put C (w' := w.set x6 (h, Sum.inr (0, [.int (mc + 1), .ref d, .int (nI n)]))) f_Jx4a65c_63 ⟨x6, h6, rfl⟩ rfl rfl (Nat.le_of_ble_eq_true rfl) dJx4a65c_add_9ea2d_7 rfl ?_
  have h61 : (w.set x6 (h, Sum.inr (0, [.int (mc + 1), .ref d, .int (nI n)])))[x6]? = some (h, Sum.inr (0, [.int (mc + 1), .ref d, .int (nI n)])) := List.getElem?_set_self hlt
  have hm61 := List.mem_of_getElem? h61
  refine v_aload_n C dJx4a65c_add_9ea2d_10 rfl 0 rfl ?_
  refine v_aload_n C dJx4a65c_add_9ea2d_11 rfl 1 rfl ?_
  refine v_aload_n C dJx4a65c_add_9ea2d_12 rfl 0 rfl ?_
  refine v_get C (v := .ref d) g_Jx4a65c_9 hm61 rfl dJx4a65c_add_9ea2d_13 rfl ?_
  refine v_aload_n C dJx4a65c_add_9ea2d_16 rfl 0 rfl ?_
  refine v_get C (v := .int (nI n)) g_Jx4a65c_48 hm61 rfl dJx4a65c_add_9ea2d_17 rfl ?_
  refine w_invVv C [.ref y, .ref d, .int (nI n)] 1 40 L_Jx4a65c_131 (c_Jx4a65c_add_72be8_A hst hG h61 (by rw [List.getElem?_set_ne hx]; exact h7) hn hN (hy.set h6)) hm61 rfl rfl rfl rfl dJx4a65c_add_9ea2d_20 rfl kx_no (fun _ => ?_)
  refine v_iconst C (v := 1) dJx4a65c_add_9ea2d_23 rfl rfl ?_
  exact v_zret C rfl (by decide) (by decide) dJx4a65c_add_9ea2d_24 ⟨rfl, by rw [List.set_comm _ _ hx, List.set_set], trivial⟩
theorem c_Jx4a65c_add_9ea2d_G {l : Launch} {G : GG} {w : va_W} {h d n N x6 y : Nat} {mc : Int32} {f : Nat → Option Nat} (hst : l.stackTraces = false) (hG : GOK G) (hMi : MiOK G) (h6 : w[x6]? = some (h, Sum.inr (0, [.int mc, .ref d, .int (nI n)]))) (hgr : GwOK G w d n N f) (hy : Ob w y) : Mth l yJx4a65c_add_9ea2d cJx4a65c_add_9ea2d 2 (some .boolean) r_Jx4a65c_add_9ea2d G w [.ref h, .ref y] (fun v w1 => v = some (.int 1) ∧ ∃ b : Nat, w1 = w.set x6 (h, Sum.inr (0, [.int (mc + 1), .ref b, .int (nI (n + 1))])) ++ [(b, Sum.inl (G.2.2.1 2, N, OA (va_up f n (some y))))]) nX := by
  have hlt : x6 < w.length := (List.getElem?_eq_some_iff.mp h6).1
  have hm6 := List.mem_of_getElem? h6
  refine mth_of rfl (Nat.le_of_ble_eq_true rfl) hst hG (fun X hX C0 => ?_)
  subst hX
  have C : Cx X G cJx4a65c_add_9ea2d 2 RJx4a65c (some .boolean) r_Jx4a65c_add_9ea2d "add" [] := C0
  clear C0
  show V X G 2 _ 0 0 _ 0 [(0, .ref h), (1, .ref y)] []
  refine v_aload_n C dJx4a65c_add_9ea2d_0 rfl 0 rfl ?_
  refine v_dup C dJx4a65c_add_9ea2d_1 rfl rfl ?_
  refine v_get C (v := .int mc) g_Jx4a65c_63 hm6 rfl dJx4a65c_add_9ea2d_2 rfl ?_
  refine v_iconst C (v := 1) dJx4a65c_add_9ea2d_5 rfl rfl ?_
  refine v_iadd C dJx4a65c_add_9ea2d_6 rfl ?_
  refine v_put C (w' := w.set x6 (h, Sum.inr (0, [.int (mc + 1), .ref d, .int (nI n)]))) f_Jx4a65c_63 ⟨x6, h6, rfl⟩ rfl rfl (Nat.le_of_ble_eq_true rfl) dJx4a65c_add_9ea2d_7 rfl ?_
  have h61 : (w.set x6 (h, Sum.inr (0, [.int (mc + 1), .ref d, .int (nI n)])))[x6]? = some (h, Sum.inr (0, [.int (mc + 1), .ref d, .int (nI n)])) := List.getElem?_set_self hlt
  have hm61 := List.mem_of_getElem? h61
  refine v_aload_n C dJx4a65c_add_9ea2d_10 rfl 0 rfl ?_
  refine v_aload_n C dJx4a65c_add_9ea2d_11 rfl 1 rfl ?_
  refine v_aload_n C dJx4a65c_add_9ea2d_12 rfl 0 rfl ?_
  refine v_get C (v := .ref d) g_Jx4a65c_9 hm61 rfl dJx4a65c_add_9ea2d_13 rfl ?_
  refine v_aload_n C dJx4a65c_add_9ea2d_16 rfl 0 rfl ?_
  refine v_get C (v := .int (nI n)) g_Jx4a65c_48 hm61 rfl dJx4a65c_add_9ea2d_17 rfl ?_
  refine w_invV C [.ref y, .ref d, .int (nI n)] 1 40 L_Jx4a65c_131 (c_Jx4a65c_add_72be8_G hst hG hMi h61 (hgr.set h6) (hy.set h6)) hm61 rfl rfl rfl rfl dJx4a65c_add_9ea2d_20 rfl kx_no (fun v w1 hv => ?_)
  obtain ⟨rfl, b, rfl⟩ := hv
  show V X G 2 _ 1 40 _ 23 _ []
  refine v_iconst C (v := 1) dJx4a65c_add_9ea2d_23 rfl rfl ?_
  exact v_zret C rfl (by decide) (by decide) dJx4a65c_add_9ea2d_24 ⟨rfl, b, by rw [List.set_set]⟩
