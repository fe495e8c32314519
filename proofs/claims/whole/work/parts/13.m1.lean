def priceF (x : Int32) : Int32 := if x < 100 then 5 + (100 - x) / 5 else 5
theorem bI_n {P : Prop} [Decidable P] : vp_nar .boolean (bI P) = bI P := by
  unfold bI
  split <;> rfl
theorem bI_fit {P : Prop} [Decidable P] : fits .boolean (.int (bI P)) = true := by
  unfold bI
  split <;> rfl
theorem rw_in {w i b : Nat} {f : Nat → Int32} (h : b < w) : rw_ w f i b = f (w * i + b) := if_pos h
theorem in_nI {x : Int32} {N : Nat} (h : vp_in x N) (hN : N < 2 ^ 31) : x = nI (tn x) := by
  obtain ⟨j, hj, rfl⟩ := vp_in_of h hN
  rw [show tn (nI j) = j from nI_clamp (by omega)]
theorem in_lt {x : Int32} {N : Nat} (h : vp_in x N) : tn x < N := by
  have h1 := vp_in_iff.mp h
  have h2 : tn x = x.toInt.toNat := rfl
  omega
def pM (e r : Int32) : Int32 := if e = 0 then r else 0
def pU (e : Int32) (u t : SS) : SS := if e = 0 then u else su t 45 0 e
theorem n10 : ((1 : Int32) = 0) = False := by decide
theorem n20 : ((2 : Int32) = 0) = False := by decide
theorem n30 : ((3 : Int32) = 0) = False := by decide
theorem n0 : ((0 : Int32) = 0) = True := by decide
theorem vp_rng {x M : Int32} {n N : Nat} (hM : M.toInt = n) (hN : n < N) (h : (0 : Int32) ≤ x ∧ x ≤ M) : vp_in x N := by
  have h0 : (0 : Int32).toInt = 0 := by decide
  have h1 := Int32.le_iff_toInt_le.mp h.1
  have h2 := Int32.le_iff_toInt_le.mp h.2
  rw [vp_in_iff]
  omega
theorem vp_cnt {x z : Int32} {n N : Nat} (h : (0 : Int32) ≤ x ∧ x ≤ z - 1) (hz : z = nI n) (hn : n ≤ N) (hN : N < 1000) : vp_in x N := by
  subst hz
  have h0 : (0 : Int32).toInt = 0 := by decide
  have h1 := Int32.le_iff_toInt_le.mp h.1
  have h2 := Int32.le_iff_toInt_le.mp h.2
  have h3 := pk_sub_toInt (a := n) (b := 1) (by omega) (by omega)
  rw [show nI 1 = (1 : Int32) from rfl] at h3
  rw [vp_in_iff]
  omega
theorem s45_0 {t : SS} {e : Int32} {i : Nat} : su t 45 0 e 0 i = t 0 i := rfl
theorem s45_1 {t : SS} {e : Int32} {i : Nat} : su t 45 0 e 1 i = t 1 i := rfl
theorem s45_2 {t : SS} {e : Int32} {i : Nat} : su t 45 0 e 2 i = t 2 i := rfl
theorem s45_3 {t : SS} {e : Int32} {i : Nat} : su t 45 0 e 3 i = t 3 i := rfl
theorem s45_4 {t : SS} {e : Int32} {i : Nat} : su t 45 0 e 4 i = t 4 i := rfl
theorem s45_5 {t : SS} {e : Int32} {i : Nat} : su t 45 0 e 5 i = t 5 i := rfl
theorem s45_6 {t : SS} {e : Int32} {i : Nat} : su t 45 0 e 6 i = t 6 i := rfl
theorem s45_7 {t : SS} {e : Int32} {i : Nat} : su t 45 0 e 7 i = t 7 i := rfl
theorem s45_8 {t : SS} {e : Int32} {i : Nat} : su t 45 0 e 8 i = t 8 i := rfl
theorem s45_9 {t : SS} {e : Int32} {i : Nat} : su t 45 0 e 9 i = t 9 i := rfl
theorem s45_10 {t : SS} {e : Int32} {i : Nat} : su t 45 0 e 10 i = t 10 i := rfl
theorem s45_11 {t : SS} {e : Int32} {i : Nat} : su t 45 0 e 11 i = t 11 i := rfl
theorem s45_12 {t : SS} {e : Int32} {i : Nat} : su t 45 0 e 12 i = t 12 i := rfl
theorem s45_13 {t : SS} {e : Int32} {i : Nat} : su t 45 0 e 13 i = t 13 i := rfl
theorem s45_14 {t : SS} {e : Int32} {i : Nat} : su t 45 0 e 14 i = t 14 i := rfl
theorem s45_15 {t : SS} {e : Int32} {i : Nat} : su t 45 0 e 15 i = t 15 i := rfl
theorem s45_16 {t : SS} {e : Int32} {i : Nat} : su t 45 0 e 16 i = t 16 i := rfl
theorem s45_17 {t : SS} {e : Int32} {i : Nat} : su t 45 0 e 17 i = t 17 i := rfl
theorem s45_18 {t : SS} {e : Int32} {i : Nat} : su t 45 0 e 18 i = t 18 i := rfl
theorem s45_19 {t : SS} {e : Int32} {i : Nat} : su t 45 0 e 19 i = t 19 i := rfl
theorem s45_20 {t : SS} {e : Int32} {i : Nat} : su t 45 0 e 20 i = t 20 i := rfl
theorem s45_21 {t : SS} {e : Int32} {i : Nat} : su t 45 0 e 21 i = t 21 i := rfl
theorem s45_22 {t : SS} {e : Int32} {i : Nat} : su t 45 0 e 22 i = t 22 i := rfl
theorem s45_23 {t : SS} {e : Int32} {i : Nat} : su t 45 0 e 23 i = t 23 i := rfl
theorem s45_24 {t : SS} {e : Int32} {i : Nat} : su t 45 0 e 24 i = t 24 i := rfl
theorem s45_25 {t : SS} {e : Int32} {i : Nat} : su t 45 0 e 25 i = t 25 i := rfl
theorem s45_26 {t : SS} {e : Int32} {i : Nat} : su t 45 0 e 26 i = t 26 i := rfl
theorem s45_27 {t : SS} {e : Int32} {i : Nat} : su t 45 0 e 27 i = t 27 i := rfl
theorem s45_28 {t : SS} {e : Int32} {i : Nat} : su t 45 0 e 28 i = t 28 i := rfl
theorem s45_29 {t : SS} {e : Int32} {i : Nat} : su t 45 0 e 29 i = t 29 i := rfl
theorem s45_30 {t : SS} {e : Int32} {i : Nat} : su t 45 0 e 30 i = t 30 i := rfl
theorem s45_31 {t : SS} {e : Int32} {i : Nat} : su t 45 0 e 31 i = t 31 i := rfl
theorem s45_32 {t : SS} {e : Int32} {i : Nat} : su t 45 0 e 32 i = t 32 i := rfl
theorem s45_33 {t : SS} {e : Int32} {i : Nat} : su t 45 0 e 33 i = t 33 i := rfl
theorem s45_34 {t : SS} {e : Int32} {i : Nat} : su t 45 0 e 34 i = t 34 i := rfl
theorem s45_35 {t : SS} {e : Int32} {i : Nat} : su t 45 0 e 35 i = t 35 i := rfl
theorem s45_36 {t : SS} {e : Int32} {i : Nat} : su t 45 0 e 36 i = t 36 i := rfl
theorem s45_37 {t : SS} {e : Int32} {i : Nat} : su t 45 0 e 37 i = t 37 i := rfl
theorem s45_38 {t : SS} {e : Int32} {i : Nat} : su t 45 0 e 38 i = t 38 i := rfl
theorem s45_39 {t : SS} {e : Int32} {i : Nat} : su t 45 0 e 39 i = t 39 i := rfl
theorem s45_40 {t : SS} {e : Int32} {i : Nat} : su t 45 0 e 40 i = t 40 i := rfl
theorem s45_41 {t : SS} {e : Int32} {i : Nat} : su t 45 0 e 41 i = t 41 i := rfl
theorem s45_42 {t : SS} {e : Int32} {i : Nat} : su t 45 0 e 42 i = t 42 i := rfl
theorem s45_43 {t : SS} {e : Int32} {i : Nat} : su t 45 0 e 43 i = t 43 i := rfl
theorem s45_44 {t : SS} {e : Int32} {i : Nat} : su t 45 0 e 44 i = t 44 i := rfl

abbrev r_X8_thrown : Room := { frames := 0, cells := 0, slots := 0, locals := 0 }
set_option maxRecDepth 4000 in
theorem c_X8_thrown {l : Launch} {G : GG} {a : AD} {s t s0 : SS} {L : List (Nat × Nat)}  (hst : l.stackTraces = false) (hG : GOK G) (hL : Live L s0)   : Mth l yX8_thrown cX8_thrown 1 (Option.some Jvm.ClassFile.FieldType.int) r_X8_thrown G (wl a (E G.2.2.1 a s t) L) [.ref (a 0 0)] (RI (.int (t 45 0)) (wl a (E G.2.2.1 a s t) L) (True)) nX := by
  refine mth_of rfl (Nat.le_of_ble_eq_true rfl) hst hG (fun X hX C0 => ?_)
  subst hX
  have C : Cx X G cX8_thrown 1 RX8 (Option.some Jvm.ClassFile.FieldType.int) r_X8_thrown "thrown" [] := C0
  clear C0
  show V X G 1 _ 0 0 _ 0 [(0, .ref (a 0 0))] []
  refine v_aload_n C dX8_thrown_0 rfl 0 rfl ?_
  refine v_get C (v := .int (t 45 0)) g_X8_120 (m0 (s := s) (t := t) (g := G.2.2.1) hL) (rg (by decide) rfl) dX8_thrown_1 rfl ?_
  exact v_iret C (by decide) (by decide) dX8_thrown_4 ⟨congrArg (fun z => some (Value.int z)) (by first | rfl | (simp only [bI, pM, pU, n10, n20, n30, n0, if_true, if_false, ite_true, ite_false, not_true_eq_false, not_false_eq_true, and_true, true_and, and_false, false_and, or_true, true_or, or_false, false_or, reduceIte, and_self, or_self, ne_eq, eq_self_iff_true]; first | done | rfl) | (simp [bI, ]; done) | (simp only [bI, ← Int32.not_le] at *; simp []; done) | (simp_all [bI, ]; done) | (simp_all [bI, ]; rfl) | (exfalso; omega)), by rfl, by trivial⟩

abbrev r_X8_holdsTo : Room := { frames := 0, cells := 0, slots := 0, locals := 0 }
set_option maxRecDepth 4000 in
theorem c_X8_holdsTo {l : Launch} {G : GG} {a : AD} {s t s0 : SS} {L : List (Nat × Nat)}  (hst : l.stackTraces = false) (hG : GOK G) (hL : Live L s0) (w_ : Int32)  : Mth l yX8_holdsTo cX8_holdsTo 2 (Option.some Jvm.ClassFile.FieldType.boolean) r_X8_holdsTo G (wl a (E G.2.2.1 a s t) L) [.ref (a 0 0), .int w_] (RI (.int (bI (w_ = 0))) (wl a (E G.2.2.1 a s (su t 45 0 w_)) L) (True)) nX := by
  refine mth_of rfl (Nat.le_of_ble_eq_true rfl) hst hG (fun X hX C0 => ?_)
  subst hX
  have C : Cx X G cX8_holdsTo 2 RX8 (Option.some Jvm.ClassFile.FieldType.boolean) r_X8_holdsTo "holdsTo" [] := C0
  clear C0
  show V X G 2 _ 0 0 _ 0 [(0, .ref (a 0 0)), (1, .int (w_))] []
  refine v_aload_n C dX8_holdsTo_0 rfl 0 rfl ?_
  refine v_iload_n C dX8_holdsTo_1 rfl 1 rfl ?_
  refine v_put C f_X8_120 (put_m0 (s := s) (t := t) (g := G.2.2.1) hL 45 rfl w_) rfl rfl (rg_len (by decide)) dX8_holdsTo_2 rfl ?_
  refine v_iload_n C dX8_holdsTo_5 rfl 1 rfl ?_
  refine v_if_ne C (t := 13) dX8_holdsTo_6 rfl rfl (fun h1 => ?_) (fun h1 => ?_)
  · skip
    refine v_iconst C (v := 0) dX8_holdsTo_13 rfl rfl ?_
    exact v_zret C rfl (by decide) (by decide) dX8_holdsTo_14 ⟨congrArg (fun z => some (Value.int z)) (by first | rfl | (simp only [h1, bI, pM, pU, n10, n20, n30, n0, if_true, if_false, ite_true, ite_false, not_true_eq_false, not_false_eq_true, and_true, true_and, and_false, false_and, or_true, true_or, or_false, false_or, reduceIte, and_self, or_self, ne_eq, eq_self_iff_true]; first | done | rfl) | (simp [bI, h1]; done) | (simp only [bI, ← Int32.not_le] at *; simp [h1]; done) | (simp_all [bI, h1]; done) | (simp_all [bI, h1]; rfl) | (exfalso; omega)), by first | rfl | (simp only [h1, bI, pM, pU, n10, n20, n30, n0, if_true, if_false, ite_true, ite_false, not_true_eq_false, not_false_eq_true, and_true, true_and, and_false, false_and, or_true, true_or, or_false, false_or, reduceIte, and_self, or_self, ne_eq, eq_self_iff_true]; first | done | rfl) | (simp [bI, h1]; done) | (simp only [bI, ← Int32.not_le] at *; simp [h1]; done) | (simp_all [bI, h1]; done) | (simp_all [bI, h1]; rfl) | (exfalso; omega), by trivial⟩
  · skip
    refine v_iconst C (v := 1) dX8_holdsTo_9 rfl rfl ?_
    refine v_goto C (q := 14) dX8_holdsTo_10 rfl ?_
    exact v_zret C rfl (by decide) (by decide) dX8_holdsTo_14 ⟨congrArg (fun z => some (Value.int z)) (by first | rfl | (simp only [eq_true h1, bI, pM, pU, n10, n20, n30, n0, if_true, if_false, ite_true, ite_false, not_true_eq_false, not_false_eq_true, and_true, true_and, and_false, false_and, or_true, true_or, or_false, false_or, reduceIte, and_self, or_self, ne_eq, eq_self_iff_true]; first | done | rfl) | (simp [bI, eq_true h1]; done) | (simp only [bI, ← Int32.not_le] at *; simp [eq_true h1]; done) | (simp_all [bI, eq_true h1]; done) | (simp_all [bI, eq_true h1]; rfl) | (exfalso; omega)), by first | rfl | (simp only [eq_true h1, bI, pM, pU, n10, n20, n30, n0, if_true, if_false, ite_true, ite_false, not_true_eq_false, not_false_eq_true, and_true, true_and, and_false, false_and, or_true, true_or, or_false, false_or, reduceIte, and_self, or_self, ne_eq, eq_self_iff_true]; first | done | rfl) | (simp [bI, eq_true h1]; done) | (simp only [bI, ← Int32.not_le] at *; simp [eq_true h1]; done) | (simp_all [bI, eq_true h1]; done) | (simp_all [bI, eq_true h1]; rfl) | (exfalso; omega), by trivial⟩

abbrev r_X8_isIn : Room := { frames := 0, cells := 0, slots := 0, locals := 0 }
set_option maxRecDepth 4000 in
theorem c_X8_isIn {l : Launch} {G : GG} {a : AD} {s t s0 : SS} {L : List (Nat × Nat)}  (hst : l.stackTraces = false) (hG : GOK G) (hL : Live L s0) (v_ : Int32) (lo : Int32) (hi : Int32)  : Mth l yX8_isIn cX8_isIn 3 (Option.some Jvm.ClassFile.FieldType.boolean) r_X8_isIn G (wl a (E G.2.2.1 a s t) L) [.int v_, .int lo, .int hi] (RI (.int (bI (lo ≤ v_ ∧ v_ ≤ hi))) (wl a (E G.2.2.1 a s t) L) (True)) nX := by
  refine mth_of rfl (Nat.le_of_ble_eq_true rfl) hst hG (fun X hX C0 => ?_)
  subst hX
  have C : Cx X G cX8_isIn 3 RX8 (Option.some Jvm.ClassFile.FieldType.boolean) r_X8_isIn "isIn" [] := C0
  clear C0
  show V X G 3 _ 0 0 _ 0 [(0, .int (v_)), (1, .int (lo)), (2, .int (hi))] []
  refine v_iload_n C dX8_isIn_0 rfl 0 rfl ?_
  refine v_iload_n C dX8_isIn_1 rfl 1 rfl ?_
  refine v_icmp_lt C (t := 14) dX8_isIn_2 rfl rfl (fun h1 => ?_) (fun h1 => ?_)
  · skip
    refine v_iconst C (v := 0) dX8_isIn_14 rfl rfl ?_
    exact v_zret C rfl (by decide) (by decide) dX8_isIn_15 ⟨congrArg (fun z => some (Value.int z)) (by first | rfl | (simp only [h1, Int32.not_le.mpr h1, bI, pM, pU, n10, n20, n30, n0, if_true, if_false, ite_true, ite_false, not_true_eq_false, not_false_eq_true, and_true, true_and, and_false, false_and, or_true, true_or, or_false, false_or, reduceIte, and_self, or_self, ne_eq, eq_self_iff_true]; first | done | rfl) | (simp [bI, h1, Int32.not_le.mpr h1]; done) | (simp only [bI, ← Int32.not_le] at *; simp [h1, Int32.not_le.mpr h1]; done) | (simp_all [bI, h1, Int32.not_le.mpr h1]; done) | (simp_all [bI, h1, Int32.not_le.mpr h1]; rfl) | (exfalso; omega)), by rfl, by trivial⟩
  · skip
    refine v_iload_n C dX8_isIn_5 rfl 0 rfl ?_
    refine v_iload_n C dX8_isIn_6 rfl 2 rfl ?_
    refine v_icmp_gt C (t := 14) dX8_isIn_7 rfl rfl (fun h2 => ?_) (fun h2 => ?_)
    · skip
      refine v_iconst C (v := 0) dX8_isIn_14 rfl rfl ?_
      exact v_zret C rfl (by decide) (by decide) dX8_isIn_15 ⟨congrArg (fun z => some (Value.int z)) (by first | rfl | (simp only [h1, Int32.not_lt.mp h1, h2, Int32.not_le.mpr h2, bI, pM, pU, n10, n20, n30, n0, if_true, if_false, ite_true, ite_false, not_true_eq_false, not_false_eq_true, and_true, true_and, and_false, false_and, or_true, true_or, or_false, false_or, reduceIte, and_self, or_self, ne_eq, eq_self_iff_true]; first | done | rfl) | (simp [bI, h1, Int32.not_lt.mp h1, h2, Int32.not_le.mpr h2]; done) | (simp only [bI, ← Int32.not_le] at *; simp [h1, Int32.not_lt.mp h1, h2, Int32.not_le.mpr h2]; done) | (simp_all [bI, h1, Int32.not_lt.mp h1, h2, Int32.not_le.mpr h2]; done) | (simp_all [bI, h1, Int32.not_lt.mp h1, h2, Int32.not_le.mpr h2]; rfl) | (exfalso; omega)), by rfl, by trivial⟩
    · skip
      refine v_iconst C (v := 1) dX8_isIn_10 rfl rfl ?_
      refine v_goto C (q := 15) dX8_isIn_11 rfl ?_
      exact v_zret C rfl (by decide) (by decide) dX8_isIn_15 ⟨congrArg (fun z => some (Value.int z)) (by first | rfl | (simp only [h1, Int32.not_lt.mp h1, h2, Int32.not_lt.mp h2, bI, pM, pU, n10, n20, n30, n0, if_true, if_false, ite_true, ite_false, not_true_eq_false, not_false_eq_true, and_true, true_and, and_false, false_and, or_true, true_or, or_false, false_or, reduceIte, and_self, or_self, ne_eq, eq_self_iff_true]; first | done | rfl) | (simp [bI, h1, Int32.not_lt.mp h1, h2, Int32.not_lt.mp h2]; done) | (simp only [bI, ← Int32.not_le] at *; simp [h1, Int32.not_lt.mp h1, h2, Int32.not_lt.mp h2]; done) | (simp_all [bI, h1, Int32.not_lt.mp h1, h2, Int32.not_lt.mp h2]; done) | (simp_all [bI, h1, Int32.not_lt.mp h1, h2, Int32.not_lt.mp h2]; rfl) | (exfalso; omega)), by rfl, by trivial⟩

abbrev r_X8_lesser : Room := { frames := 0, cells := 0, slots := 0, locals := 0 }
set_option maxRecDepth 4000 in
theorem c_X8_lesser {l : Launch} {G : GG} {a : AD} {s t s0 : SS} {L : List (Nat × Nat)}  (hst : l.stackTraces = false) (hG : GOK G) (hL : Live L s0) (x : Int32) (y : Int32)  : Mth l yX8_lesser cX8_lesser 2 (Option.some Jvm.ClassFile.FieldType.int) r_X8_lesser G (wl a (E G.2.2.1 a s t) L) [.int x, .int y] (RI (.int (if x < y then x else y)) (wl a (E G.2.2.1 a s t) L) (True)) nX := by
  refine mth_of rfl (Nat.le_of_ble_eq_true rfl) hst hG (fun X hX C0 => ?_)
  subst hX
  have C : Cx X G cX8_lesser 2 RX8 (Option.some Jvm.ClassFile.FieldType.int) r_X8_lesser "lesser" [] := C0
  clear C0
  show V X G 2 _ 0 0 _ 0 [(0, .int (x)), (1, .int (y))] []
  refine v_iload_n C dX8_lesser_0 rfl 0 rfl ?_
  refine v_iload_n C dX8_lesser_1 rfl 1 rfl ?_
  refine v_icmp_ge C (t := 9) dX8_lesser_2 rfl rfl (fun h1 => ?_) (fun h1 => ?_)
  · skip
    refine v_iload_n C dX8_lesser_9 rfl 1 rfl ?_
    exact v_iret C (by decide) (by decide) dX8_lesser_10 ⟨congrArg (fun z => some (Value.int z)) (by first | rfl | (simp only [h1, Int32.not_lt.mpr h1, bI, pM, pU, n10, n20, n30, n0, if_true, if_false, ite_true, ite_false, not_true_eq_false, not_false_eq_true, and_true, true_and, and_false, false_and, or_true, true_or, or_false, false_or, reduceIte, and_self, or_self, ne_eq, eq_self_iff_true]; first | done | rfl) | (simp [bI, h1, Int32.not_lt.mpr h1]; done) | (simp only [bI, ← Int32.not_le] at *; simp [h1, Int32.not_lt.mpr h1]; done) | (simp_all [bI, h1, Int32.not_lt.mpr h1]; done) | (simp_all [bI, h1, Int32.not_lt.mpr h1]; rfl) | (exfalso; omega)), by rfl, by trivial⟩
  · skip
    refine v_iload_n C dX8_lesser_5 rfl 0 rfl ?_
    refine v_goto C (q := 10) dX8_lesser_6 rfl ?_
    exact v_iret C (by decide) (by decide) dX8_lesser_10 ⟨congrArg (fun z => some (Value.int z)) (by first | rfl | (simp only [h1, Int32.not_le.mp h1, bI, pM, pU, n10, n20, n30, n0, if_true, if_false, ite_true, ite_false, not_true_eq_false, not_false_eq_true, and_true, true_and, and_false, false_and, or_true, true_or, or_false, false_or, reduceIte, and_self, or_self, ne_eq, eq_self_iff_true]; first | done | rfl) | (simp [bI, h1, Int32.not_le.mp h1]; done) | (simp only [bI, ← Int32.not_le] at *; simp [h1, Int32.not_le.mp h1]; done) | (simp_all [bI, h1, Int32.not_le.mp h1]; done) | (simp_all [bI, h1, Int32.not_le.mp h1]; rfl) | (exfalso; omega)), by rfl, by trivial⟩

abbrev r_X8_isCell : Room := { frames := 1, cells := 0, slots := 0, locals := 22 }
set_option maxRecDepth 4000 in
theorem c_X8_isCell {l : Launch} {G : GG} {a : AD} {s t s0 : SS} {L : List (Nat × Nat)}  (hst : l.stackTraces = false) (hG : GOK G) (hL : Live L s0) (x : Int32)  : Mth l yX8_isCell cX8_isCell 1 (Option.some Jvm.ClassFile.FieldType.boolean) r_X8_isCell G (wl a (E G.2.2.1 a s t) L) [.int x] (RI (.int (bI ((0 : Int32) ≤ x ∧ x ≤ 39))) (wl a (E G.2.2.1 a s t) L) (True)) nX := by
  refine mth_of rfl (Nat.le_of_ble_eq_true rfl) hst hG (fun X hX C0 => ?_)
  subst hX
  have C : Cx X G cX8_isCell 1 RX8 (Option.some Jvm.ClassFile.FieldType.boolean) r_X8_isCell "isCell" [] := C0
  clear C0
  show V X G 1 _ 0 0 _ 0 [(0, .int (x))] []
  refine v_iload_n C dX8_isCell_0 rfl 0 rfl ?_
  refine v_iconst C (v := 0) dX8_isCell_1 rfl rfl ?_
  refine v_bipush C (v := 39) dX8_isCell_2 rfl rfl ?_
  refine w_invSr C [.int (x), .int (0), .int (39)] 0 0 L_X8_123 (c_X8_isIn (s := s) (t := t)  hst hG hL x 0 39) rfl rfl rfl dX8_isCell_4 rfl kx_no (fun h1 => ?_)
  exact v_zret C bI_z (by decide) (by decide) dX8_isCell_7 ⟨congrArg (fun z => some (Value.int z)) (by first | rfl | (simp only [bI, pM, pU, n10, n20, n30, n0, if_true, if_false, ite_true, ite_false, not_true_eq_false, not_false_eq_true, and_true, true_and, and_false, false_and, or_true, true_or, or_false, false_or, reduceIte, and_self, or_self, ne_eq, eq_self_iff_true]; first | done | rfl) | (simp [bI, ]; done) | (simp only [bI, ← Int32.not_le] at *; simp []; done) | (simp_all [bI, ]; done) | (simp_all [bI, ]; rfl) | (exfalso; omega)), by rfl, by trivial⟩

abbrev r_X8_isMethod : Room := { frames := 1, cells := 0, slots := 0, locals := 22 }
set_option maxRecDepth 4000 in
theorem c_X8_isMethod {l : Launch} {G : GG} {a : AD} {s t s0 : SS} {L : List (Nat × Nat)}  (hst : l.stackTraces = false) (hG : GOK G) (hL : Live L s0) (x : Int32)  : Mth l yX8_isMethod cX8_isMethod 1 (Option.some Jvm.ClassFile.FieldType.boolean) r_X8_isMethod G (wl a (E G.2.2.1 a s t) L) [.int x] (RI (.int (bI ((0 : Int32) ≤ x ∧ x ≤ 3))) (wl a (E G.2.2.1 a s t) L) (True)) nX := by
  refine mth_of rfl (Nat.le_of_ble_eq_true rfl) hst hG (fun X hX C0 => ?_)
  subst hX
  have C : Cx X G cX8_isMethod 1 RX8 (Option.some Jvm.ClassFile.FieldType.boolean) r_X8_isMethod "isMethod" [] := C0
  clear C0
  show V X G 1 _ 0 0 _ 0 [(0, .int (x))] []
  refine v_iload_n C dX8_isMethod_0 rfl 0 rfl ?_
  refine v_iconst C (v := 0) dX8_isMethod_1 rfl rfl ?_
  refine v_iconst C (v := 3) dX8_isMethod_2 rfl rfl ?_
  refine w_invSr C [.int (x), .int (0), .int (3)] 0 0 L_X8_123 (c_X8_isIn (s := s) (t := t)  hst hG hL x 0 3) rfl rfl rfl dX8_isMethod_3 rfl kx_no (fun h1 => ?_)
  exact v_zret C bI_z (by decide) (by decide) dX8_isMethod_6 ⟨congrArg (fun z => some (Value.int z)) (by first | rfl | (simp only [bI, pM, pU, n10, n20, n30, n0, if_true, if_false, ite_true, ite_false, not_true_eq_false, not_false_eq_true, and_true, true_and, and_false, false_and, or_true, true_or, or_false, false_or, reduceIte, and_self, or_self, ne_eq, eq_self_iff_true]; first | done | rfl) | (simp [bI, ]; done) | (simp only [bI, ← Int32.not_le] at *; simp []; done) | (simp_all [bI, ]; done) | (simp_all [bI, ]; rfl) | (exfalso; omega)), by rfl, by trivial⟩

abbrev r_X8_isMiner : Room := { frames := 1, cells := 0, slots := 0, locals := 22 }
set_option maxRecDepth 4000 in
theorem c_X8_isMiner {l : Launch} {G : GG} {a : AD} {s t s0 : SS} {L : List (Nat × Nat)}  (hst : l.stackTraces = false) (hG : GOK G) (hL : Live L s0) (x : Int32)  : Mth l yX8_isMiner cX8_isMiner 2 (Option.some Jvm.ClassFile.FieldType.boolean) r_X8_isMiner G (wl a (E G.2.2.1 a s t) L) [.ref (a 0 0), .int x] (RI (.int (bI ((0 : Int32) ≤ x ∧ x ≤ t 12 0 - 1))) (wl a (E G.2.2.1 a s t) L) (True)) nX := by
  refine mth_of rfl (Nat.le_of_ble_eq_true rfl) hst hG (fun X hX C0 => ?_)
  subst hX
  have C : Cx X G cX8_isMiner 2 RX8 (Option.some Jvm.ClassFile.FieldType.boolean) r_X8_isMiner "isMiner" [] := C0
  clear C0
  show V X G 2 _ 0 0 _ 0 [(0, .ref (a 0 0)), (1, .int (x))] []
  refine v_iload_n C dX8_isMiner_0 rfl 1 rfl ?_
  refine v_iconst C (v := 0) dX8_isMiner_1 rfl rfl ?_
  refine v_aload_n C dX8_isMiner_2 rfl 0 rfl ?_
  refine v_get C (v := .int (t 12 0)) g_X8_127 (m0 (s := s) (t := t) (g := G.2.2.1) hL) (rg (by decide) rfl) dX8_isMiner_3 rfl ?_
  refine v_iconst C (v := 1) dX8_isMiner_6 rfl rfl ?_
  refine v_isub C dX8_isMiner_7 rfl ?_
  refine w_invSr C [.int (x), .int (0), .int ((t 12 0) - 1)] 0 0 L_X8_123 (c_X8_isIn (s := s) (t := t)  hst hG hL x 0 ((t 12 0) - 1)) rfl rfl rfl dX8_isMiner_8 rfl kx_no (fun h1 => ?_)
  exact v_zret C bI_z (by decide) (by decide) dX8_isMiner_11 ⟨congrArg (fun z => some (Value.int z)) (by first | rfl | (simp only [bI, pM, pU, n10, n20, n30, n0, if_true, if_false, ite_true, ite_false, not_true_eq_false, not_false_eq_true, and_true, true_and, and_false, false_and, or_true, true_or, or_false, false_or, reduceIte, and_self, or_self, ne_eq, eq_self_iff_true]; first | done | rfl) | (simp [bI, ]; done) | (simp only [bI, ← Int32.not_le] at *; simp []; done) | (simp_all [bI, ]; done) | (simp_all [bI, ]; rfl) | (exfalso; omega)), by rfl, by trivial⟩

abbrev r_X8_isClaim : Room := { frames := 1, cells := 0, slots := 0, locals := 22 }
set_option maxRecDepth 4000 in
theorem c_X8_isClaim {l : Launch} {G : GG} {a : AD} {s t s0 : SS} {L : List (Nat × Nat)}  (hst : l.stackTraces = false) (hG : GOK G) (hL : Live L s0) (x : Int32)  : Mth l yX8_isClaim cX8_isClaim 2 (Option.some Jvm.ClassFile.FieldType.boolean) r_X8_isClaim G (wl a (E G.2.2.1 a s t) L) [.ref (a 0 0), .int x] (RI (.int (bI ((0 : Int32) ≤ x ∧ x ≤ t 21 0 - 1))) (wl a (E G.2.2.1 a s t) L) (True)) nX := by
  refine mth_of rfl (Nat.le_of_ble_eq_true rfl) hst hG (fun X hX C0 => ?_)
  subst hX
  have C : Cx X G cX8_isClaim 2 RX8 (Option.some Jvm.ClassFile.FieldType.boolean) r_X8_isClaim "isClaim" [] := C0
  clear C0
  show V X G 2 _ 0 0 _ 0 [(0, .ref (a 0 0)), (1, .int (x))] []
  refine v_iload_n C dX8_isClaim_0 rfl 1 rfl ?_
  refine v_iconst C (v := 0) dX8_isClaim_1 rfl rfl ?_
  refine v_aload_n C dX8_isClaim_2 rfl 0 rfl ?_
  refine v_get C (v := .int (t 21 0)) g_X8_130 (m0 (s := s) (t := t) (g := G.2.2.1) hL) (rg (by decide) rfl) dX8_isClaim_3 rfl ?_
  refine v_iconst C (v := 1) dX8_isClaim_6 rfl rfl ?_
  refine v_isub C dX8_isClaim_7 rfl ?_
  refine w_invSr C [.int (x), .int (0), .int ((t 21 0) - 1)] 0 0 L_X8_123 (c_X8_isIn (s := s) (t := t)  hst hG hL x 0 ((t 21 0) - 1)) rfl rfl rfl dX8_isClaim_8 rfl kx_no (fun h1 => ?_)
  exact v_zret C bI_z (by decide) (by decide) dX8_isClaim_11 ⟨congrArg (fun z => some (Value.int z)) (by first | rfl | (simp only [bI, pM, pU, n10, n20, n30, n0, if_true, if_false, ite_true, ite_false, not_true_eq_false, not_false_eq_true, and_true, true_and, and_false, false_and, or_true, true_or, or_false, false_or, reduceIte, and_self, or_self, ne_eq, eq_self_iff_true]; first | done | rfl) | (simp [bI, ]; done) | (simp only [bI, ← Int32.not_le] at *; simp []; done) | (simp_all [bI, ]; done) | (simp_all [bI, ]; rfl) | (exfalso; omega)), by rfl, by trivial⟩

abbrev r_X8_isDead : Room := { frames := 0, cells := 0, slots := 0, locals := 0 }
set_option maxRecDepth 4000 in
theorem c_X8_isDead {l : Launch} {G : GG} {a : AD} {s t s0 : SS} {L : List (Nat × Nat)}  (hst : l.stackTraces = false) (hG : GOK G) (hL : Live L s0) (x : Int32) (j_x : Nat) (e_x : x = nI j_x) (l_x : j_x < 12)  : Mth l yX8_isDead cX8_isDead 2 (Option.some Jvm.ClassFile.FieldType.boolean) r_X8_isDead G (wl a (E G.2.2.1 a s t) L) [.ref (a 0 0), .int x] (RI (.int (bI (t 17 j_x = 0))) (wl a (E G.2.2.1 a s t) L) (True)) nX := by
  refine mth_of rfl (Nat.le_of_ble_eq_true rfl) hst hG (fun X hX C0 => ?_)
  subst hX
  have C : Cx X G cX8_isDead 2 RX8 (Option.some Jvm.ClassFile.FieldType.boolean) r_X8_isDead "isDead" [] := C0
  clear C0
  show V X G 2 _ 0 0 _ 0 [(0, .ref (a 0 0)), (1, .int (x))] []
  subst e_x
  refine v_aload_n C dX8_isDead_0 rfl 0 rfl ?_
  refine v_get C (v := .ref (a 1 17)) g_X8_47 (m0 (s := s) (t := t) (g := G.2.2.1) hL) (rg (by decide) rfl) dX8_isDead_1 rfl ?_
  refine v_iload_n C dX8_isDead_4 rfl 1 rfl ?_
  refine v_ialdE C (len := 12) j_x (m1 (s := s) (t := t) (g := G.2.2.1) hL 17 rfl) (nI_clamp (by omega)) (pk_in j_x 12 (by omega)) dX8_isDead_5 rfl ?_
  refine v_if_ne C (t := 13) dX8_isDead_6 rfl rfl (fun h1 => ?_) (fun h1 => ?_)
  · skip
    refine v_iconst C (v := 0) dX8_isDead_13 rfl rfl ?_
    exact v_zret C rfl (by decide) (by decide) dX8_isDead_14 ⟨congrArg (fun z => some (Value.int z)) (by first | rfl | (simp only [h1, bI, pM, pU, n10, n20, n30, n0, if_true, if_false, ite_true, ite_false, not_true_eq_false, not_false_eq_true, and_true, true_and, and_false, false_and, or_true, true_or, or_false, false_or, reduceIte, and_self, or_self, ne_eq, eq_self_iff_true]; first | done | rfl) | (simp [bI, h1]; done) | (simp only [bI, ← Int32.not_le] at *; simp [h1]; done) | (simp_all [bI, h1]; done) | (simp_all [bI, h1]; rfl) | (exfalso; omega)), by rfl, by trivial⟩
  · skip
    refine v_iconst C (v := 1) dX8_isDead_9 rfl rfl ?_
    refine v_goto C (q := 14) dX8_isDead_10 rfl ?_
    exact v_zret C rfl (by decide) (by decide) dX8_isDead_14 ⟨congrArg (fun z => some (Value.int z)) (by first | rfl | (simp only [eq_true h1, bI, pM, pU, n10, n20, n30, n0, if_true, if_false, ite_true, ite_false, not_true_eq_false, not_false_eq_true, and_true, true_and, and_false, false_and, or_true, true_or, or_false, false_or, reduceIte, and_self, or_self, ne_eq, eq_self_iff_true]; first | done | rfl) | (simp [bI, eq_true h1]; done) | (simp only [bI, ← Int32.not_le] at *; simp [eq_true h1]; done) | (simp_all [bI, eq_true h1]; done) | (simp_all [bI, eq_true h1]; rfl) | (exfalso; omega)), by rfl, by trivial⟩

abbrev r_X8_price : Room := { frames := 0, cells := 0, slots := 0, locals := 0 }
set_option maxRecDepth 4000 in
theorem c_X8_price {l : Launch} {G : GG} {a : AD} {s t s0 : SS} {L : List (Nat × Nat)}  (hst : l.stackTraces = false) (hG : GOK G) (hL : Live L s0)   : Mth l yX8_price cX8_price 1 (Option.some Jvm.ClassFile.FieldType.int) r_X8_price G (wl a (E G.2.2.1 a s t) L) [.ref (a 0 0)] (RI (.int (priceF (t 5 0))) (wl a (E G.2.2.1 a s t) L) (True)) nX := by
  refine mth_of rfl (Nat.le_of_ble_eq_true rfl) hst hG (fun X hX C0 => ?_)
  subst hX
  have C : Cx X G cX8_price 1 RX8 (Option.some Jvm.ClassFile.FieldType.int) r_X8_price "price" [] := C0
  clear C0
  show V X G 1 _ 0 0 _ 0 [(0, .ref (a 0 0))] []
  refine v_aload_n C dX8_price_0 rfl 0 rfl ?_
  refine v_get C (v := .int (t 5 0)) g_X8_22 (m0 (s := s) (t := t) (g := G.2.2.1) hL) (rg (by decide) rfl) dX8_price_1 rfl ?_
  refine v_bipush C (v := 100) dX8_price_4 rfl rfl ?_
  refine v_icmp_ge C (t := 23) dX8_price_6 rfl rfl (fun h1 => ?_) (fun h1 => ?_)
  · skip
    refine v_iconst C (v := 5) dX8_price_23 rfl rfl ?_
    exact v_iret C (by decide) (by decide) dX8_price_24 ⟨congrArg (fun z => some (Value.int z)) (by first | rfl | (simp only [h1, Int32.not_lt.mpr h1, priceF, bI, pM, pU, n10, n20, n30, n0, if_true, if_false, ite_true, ite_false, not_true_eq_false, not_false_eq_true, and_true, true_and, and_false, false_and, or_true, true_or, or_false, false_or, reduceIte, and_self, or_self, ne_eq, eq_self_iff_true]; first | done | rfl) | (simp [bI, h1, Int32.not_lt.mpr h1, priceF]; done) | (simp only [priceF, bI, ← Int32.not_le] at *; simp [h1, Int32.not_lt.mpr h1]; done) | (simp_all [bI, h1, Int32.not_lt.mpr h1, priceF]; done) | (simp_all [bI, h1, Int32.not_lt.mpr h1, priceF]; rfl) | (exfalso; omega)), by rfl, by trivial⟩
  · skip
    refine v_iconst C (v := 5) dX8_price_9 rfl rfl ?_
    refine v_bipush C (v := 100) dX8_price_10 rfl rfl ?_
    refine v_aload_n C dX8_price_12 rfl 0 rfl ?_
    refine v_get C (v := .int (t 5 0)) g_X8_22 (m0 (s := s) (t := t) (g := G.2.2.1) hL) (rg (by decide) rfl) dX8_price_13 rfl ?_
    refine v_isub C dX8_price_16 rfl ?_
    refine v_iconst C (v := 5) dX8_price_17 rfl rfl ?_
    refine v_idiv C dX8_price_18 rfl (by decide) ?_
    refine v_iadd C dX8_price_19 rfl ?_
    refine v_goto C (q := 24) dX8_price_20 rfl ?_
    exact v_iret C (by decide) (by decide) dX8_price_24 ⟨congrArg (fun z => some (Value.int z)) (by first | rfl | (simp only [h1, Int32.not_le.mp h1, priceF, bI, pM, pU, n10, n20, n30, n0, if_true, if_false, ite_true, ite_false, not_true_eq_false, not_false_eq_true, and_true, true_and, and_false, false_and, or_true, true_or, or_false, false_or, reduceIte, and_self, or_self, ne_eq, eq_self_iff_true]; first | done | rfl) | (simp [bI, h1, Int32.not_le.mp h1, priceF]; done) | (simp only [priceF, bI, ← Int32.not_le] at *; simp [h1, Int32.not_le.mp h1]; done) | (simp_all [bI, h1, Int32.not_le.mp h1, priceF]; done) | (simp_all [bI, h1, Int32.not_le.mp h1, priceF]; rfl) | (exfalso; omega)), by rfl, by trivial⟩

abbrev r_X8_day : Room := { frames := 0, cells := 0, slots := 0, locals := 0 }
set_option maxRecDepth 4000 in
theorem c_X8_day {l : Launch} {G : GG} {a : AD} {s t s0 : SS} {L : List (Nat × Nat)}  (hst : l.stackTraces = false) (hG : GOK G) (hL : Live L s0)   : Mth l yX8_day cX8_day 1 (Option.some Jvm.ClassFile.FieldType.int) r_X8_day G (wl a (E G.2.2.1 a s t) L) [.ref (a 0 0)] (RI (.int (t 0 0)) (wl a (E G.2.2.1 a s (su t 45 0 0)) L) (True)) nX := by
  refine mth_of rfl (Nat.le_of_ble_eq_true rfl) hst hG (fun X hX C0 => ?_)
  subst hX
  have C : Cx X G cX8_day 1 RX8 (Option.some Jvm.ClassFile.FieldType.int) r_X8_day "day" [] := C0
  clear C0
  show V X G 1 _ 0 0 _ 0 [(0, .ref (a 0 0))] []
  refine v_aload_n C dX8_day_0 rfl 0 rfl ?_
  refine v_iconst C (v := 0) dX8_day_1 rfl rfl ?_
  refine v_put C f_X8_120 (put_m0 (s := s) (t := t) (g := G.2.2.1) hL 45 rfl 0) rfl rfl (rg_len (by decide)) dX8_day_2 rfl ?_
  refine v_aload_n C dX8_day_5 rfl 0 rfl ?_
  refine v_get C (v := .int (t 0 0)) g_X8_138 (m0 (s := s) (t := ((su t 45 0 0))) (g := G.2.2.1) hL) (rg (by decide) rfl) dX8_day_6 rfl ?_
  exact v_iret C (by decide) (by decide) dX8_day_9 ⟨congrArg (fun z => some (Value.int z)) (by first | rfl | (simp only [bI, pM, pU, n10, n20, n30, n0, if_true, if_false, ite_true, ite_false, not_true_eq_false, not_false_eq_true, and_true, true_and, and_false, false_and, or_true, true_or, or_false, false_or, reduceIte, and_self, or_self, ne_eq, eq_self_iff_true]; first | done | rfl) | (simp [bI, ]; done) | (simp only [bI, ← Int32.not_le] at *; simp []; done) | (simp_all [bI, ]; done) | (simp_all [bI, ]; rfl) | (exfalso; omega)), by first | rfl | (simp only [bI, pM, pU, n10, n20, n30, n0, if_true, if_false, ite_true, ite_false, not_true_eq_false, not_false_eq_true, and_true, true_and, and_false, false_and, or_true, true_or, or_false, false_or, reduceIte, and_self, or_self, ne_eq, eq_self_iff_true]; first | done | rfl) | (simp [bI, ]; done) | (simp only [bI, ← Int32.not_le] at *; simp []; done) | (simp_all [bI, ]; done) | (simp_all [bI, ]; rfl) | (exfalso; omega), by trivial⟩

