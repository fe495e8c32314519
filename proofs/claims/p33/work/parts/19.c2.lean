section VN2
variable {X : XS} {G : GG} {cc : ByteArray} {nL : Nat} {own : String} {ret : Option FieldType} {rm : Room} {nm : String} {tb : List ExceptionTableEntry} {w w2 : va_W} {k n : Nat} {Q : State → Prop} {pc q : Nat} {lv : List (Nat × Value)} {st : List Value}
theorem xx_topR {x y : Nat} (h : x = y) (kk : V X G nL w k n Q pc lv (.ref y :: st)) : V X G nL w k n Q pc lv (.ref x :: st) := h ▸ kk
theorem xx_topV {x y : Value} (h : x = y) (kk : V X G nL w k n Q pc lv (y :: st)) : V X G nL w k n Q pc lv (x :: st) := h ▸ kk
theorem v_null (C : Cx X G cc nL own ret rm nm tb) (d : decode cc pc = .ok (.aconst_null, 1)) (hq : pc + 1 = q) (kk : V X G nL w k n Q q lv (.null :: st)) : V X G nL w k n Q pc lv st := by
  subst hq
  obtain ⟨p, l, e, R, s, m, args, below, meth, c⟩ := X
  obtain ⟨hx, hb, hml, hown, hts, hst, hlk, hr, hR, hG, hF, hz, hK, hnm, htb⟩ := C
  intro H locs ls hP hD hS hl
  exact lv_null hx hb d (kk H locs ls hP hD hS hl)
theorem gears_Z (C : Cx X G cc nL own ret rm nm tb) : va_Z "NuggetCamp" "GEARS" "[LNuggetCamp$Gear;" (.ref (G.2.2.1 11)) (gA G) X.2.2.2.2.1 X.2.2.2.2.1.heap := by
  obtain ⟨-, -, -, -, -, -, -, h, -⟩ := cx_sf C
  exact h
theorem gears_T (C : Cx X G cc nL own ret rm nm tb) : va_T (.object "NuggetCamp$Gear") (G.2.2.1 11) 4 (fun j => .ref (G.2.2.1 (20 + j))) (gA G) X.2.2.2.2.1 X.2.2.2.2.1.heap := by
  obtain ⟨-, -, -, -, -, -, -, -, h, -⟩ := cx_sf C
  exact h
theorem pan_Z (C : Cx X G cc nL own ret rm nm tb) : va_Z "NuggetCamp$Gear" "PAN" "LNuggetCamp$Gear;" (.ref (G.2.2.1 (20 + 0))) (gA G) X.2.2.2.2.1 X.2.2.2.2.1.heap := ((gear_all C).1 0 (by decide)).1
end VN2
theorem bI_nz {P : Prop} [Decidable P] (h : ¬ bI P = 0) : P := Classical.byContradiction fun z => h (bI_e0.mpr z)
theorem bI_z0 {P : Prop} [Decidable P] (h : bI P = 0) : ¬ P := bI_e0.mp h
theorem m7 {g : Nat → Nat} {a : AD} {s t s0 : SS} {L : List (Nat × Nat)} (hL : Live L s0) (i : Nat) (hi : i < 3) (hp : 0 < tn (s0 (lI i) 0)) : (a 7 i, Sum.inl (g 2, a 15 i, Sum.inr (Sum.inr (Sum.inr (Sum.inr (fun j => if j < tn (s (lI i) 0) then some (a (eI i) j) else none)))))) ∈ wl a (E g a s t) L := wl_mem (F := E g a s t) (inL hL (k := 7) ⟨hi, hp⟩)
def LsOK (a : AD) (s s0 : SS) (k n : Nat) : Prop := s (lI k) 0 = nI n ∧ n ≤ 30 ∧ (0 < n → 0 < tn (s0 (lI k) 0) ∧ a 16 k = a 7 k ∧ n ≤ a 15 k ∧ a 15 k < 1000)
theorem LsOK.tn {a : AD} {s s0 : SS} {k n : Nat} (h : LsOK a s s0 k n) : _root_.Jvm.Pilot.CNuggetCampLaw_law_r1031_c654c7.tn (s (lI k) 0) = n := by
  have := h.2.1
  rw [h.1]
  exact nI_clamp (by omega)
theorem ltc {x : Int32} {n : Nat} (h : n < 1000) : x ≤ nI n - 1 ↔ x < nI n := by
  rw [Int32.lt_iff_toInt_lt, Int32.le_iff_toInt_le, nI_toInt (by omega)]
  have h3 := pk_sub_toInt (a := n) (b := 1) (by omega) (by omega)
  rw [show nI 1 = (1 : Int32) from rfl] at h3
  omega
theorem mi_of {s : SS} {k n j : Nat} (h : s k 0 = nI n) (hj : j < n) (hn : n < 1000) : (0 : Int32) ≤ nI j ∧ nI j ≤ s k 0 - 1 := by
  rw [h, ltc hn]
  exact ⟨nI_pos' (by omega), nI_lt hj (by omega)⟩
theorem ini_I : Cond.initialized xI ∈ wA := (q1 11 rfl rfl)
theorem good_I : ∀ x ∈ Cond.classLink RX7 292 xI :: Cond.initialized xI :: vx_atS RX7 296 xI exN, vx_ot x = true := by decide +kernel
theorem ini_A : Cond.initialized xA ∈ wA := (q1 14 rfl rfl)
theorem good_A : ∀ x ∈ Cond.classLink RX7 299 xA :: Cond.initialized xA :: vx_atS RX7 303 xA exN, vx_ot x = true := by decide +kernel
theorem ini_S : Cond.initialized xS ∈ wA := (q1 16 rfl rfl)
theorem good_S : ∀ x ∈ Cond.classLink RX7 304 xS :: Cond.initialized xS :: vx_atS RX7 308 xS exN, vx_ot x = true := by decide +kernel

abbrev r_Jx4a65c_size_8abf5 : Room := { frames := 0, cells := 0, slots := 0, locals := 0 }
set_option maxRecDepth 4000 in
theorem c_Jx4a65c_size_8abf5 {l : Launch} {G : GG} {a : AD} {s t s0 : SS} {L : List (Nat × Nat)}  (hst : l.stackTraces = false) (hG : GOK G) (hL : Live L s0) (i_this : Nat) (hv : i_this < 3) : Mth l yJx4a65c_size_8abf5 cJx4a65c_size_8abf5 1 (Option.some Jvm.ClassFile.FieldType.int) r_Jx4a65c_size_8abf5 G (wl a (E G.2.2.1 a s t) L) [.ref (a 6 i_this)] (RI (.int (s (lI i_this) 0)) (wl a (E G.2.2.1 a s t) L) (True)) nX := by
  refine mth_of rfl (Nat.le_of_ble_eq_true rfl) hst hG (fun X hX C0 => ?_)
  subst hX
  have C : Cx X G cJx4a65c_size_8abf5 1 RJx4a65c (Option.some Jvm.ClassFile.FieldType.int) r_Jx4a65c_size_8abf5 "size" [] := C0
  clear C0
  show V X G 1 _ 0 0 _ 0 [(0, .ref (a 6 i_this))] []
  refine v_aload_n C dJx4a65c_size_8abf5_0 rfl 0 rfl ?_
  refine v_get C (v := .int (s (lI i_this) 0)) g_Jx4a65c_48 (m6 (s := s) (t := t) (g := G.2.2.1) hL i_this hv) rfl dJx4a65c_size_8abf5_1 rfl ?_
  exact v_iret C (by decide) (by decide) dJx4a65c_size_8abf5_4 ⟨congrArg (fun z => some (Value.int z)) (by first | rfl | (simp only [bI, pM, pU, n10, n20, n30, n0, if_true, if_false, ite_true, ite_false, not_true_eq_false, not_false_eq_true, and_true, true_and, and_false, false_and, or_true, true_or, or_false, false_or, reduceIte, and_self, or_self, ne_eq, eq_self_iff_true]; first | done | rfl) | (simp [bI, ]; done) | (simp only [bI, ← Int32.not_le] at *; simp []; done) | (simp_all [bI, ]; done) | (simp_all [bI, ]; rfl) | (exfalso; omega)), by rfl, by trivial⟩

abbrev r_J3_checkIndex_8e157 : Room := { frames := 0, cells := 0, slots := 0, locals := 0 }
set_option maxRecDepth 4000 in
theorem c_J3_checkIndex_8e157 {l : Launch} {G : GG} {a : AD} {s t s0 : SS} {L : List (Nat × Nat)}  (hst : l.stackTraces = false) (hG : GOK G) (hL : Live L s0) (x : Int32) (n_ : Int32) (h0 : ¬ x < 0) (h1 : x < n_) : Mth l yJ3_checkIndex_8e157 cJ3_checkIndex_8e157 3 (Option.some Jvm.ClassFile.FieldType.int) r_J3_checkIndex_8e157 G (wl a (E G.2.2.1 a s t) L) [.int x, .int n_, .null] (RI (.int (x)) (wl a (E G.2.2.1 a s t) L) (True)) nX := by
  refine mth_of rfl (Nat.le_of_ble_eq_true rfl) hst hG (fun X hX C0 => ?_)
  subst hX
  have C : Cx X G cJ3_checkIndex_8e157 3 RJ3 (Option.some Jvm.ClassFile.FieldType.int) r_J3_checkIndex_8e157 "checkIndex" [] := C0
  clear C0
  show V X G 3 _ 0 0 _ 0 [(0, .int (x)), (1, .int (n_)), (2, .null)] []
  refine v_iload_n C dJ3_checkIndex_8e157_0 rfl 0 rfl ?_
  refine v_if_lt C (t := 9) dJ3_checkIndex_8e157_1 rfl rfl (fun h => absurd h h0) (fun _ => ?_)
  refine v_iload_n C dJ3_checkIndex_8e157_4 rfl 0 rfl ?_
  refine v_iload_n C dJ3_checkIndex_8e157_5 rfl 1 rfl ?_
  refine v_icmp_lt C (t := 16) dJ3_checkIndex_8e157_6 rfl rfl (fun _ => ?_) (fun h => absurd h1 h)
  refine v_iload_n C dJ3_checkIndex_8e157_16 rfl 0 rfl ?_
  exact v_iret C (by decide) (by decide) dJ3_checkIndex_8e157_17 ⟨congrArg (fun z => some (Value.int z)) (by first | rfl | (simp only [bI, pM, pU, n10, n20, n30, n0, if_true, if_false, ite_true, ite_false, not_true_eq_false, not_false_eq_true, and_true, true_and, and_false, false_and, or_true, true_or, or_false, false_or, reduceIte, and_self, or_self, ne_eq, eq_self_iff_true]; first | done | rfl) | (simp [bI, ]; done) | (simp only [bI, ← Int32.not_le] at *; simp []; done) | (simp_all [bI, ]; done) | (simp_all [bI, ]; rfl) | (exfalso; omega)), by rfl, by trivial⟩

abbrev r_J15_checkIndex_7cf53 : Room := { frames := 1, cells := 0, slots := 0, locals := 22 }
set_option maxRecDepth 4000 in
theorem c_J15_checkIndex_7cf53 {l : Launch} {G : GG} {a : AD} {s t s0 : SS} {L : List (Nat × Nat)}  (hst : l.stackTraces = false) (hG : GOK G) (hL : Live L s0) (x : Int32) (n_ : Int32) (h0 : ¬ x < 0) (h1 : x < n_) : Mth l yJ15_checkIndex_7cf53 cJ15_checkIndex_7cf53 2 (Option.some Jvm.ClassFile.FieldType.int) r_J15_checkIndex_7cf53 G (wl a (E G.2.2.1 a s t) L) [.int x, .int n_] (RI (.int (x)) (wl a (E G.2.2.1 a s t) L) (True)) nX := by
  refine mth_of rfl (Nat.le_of_ble_eq_true rfl) hst hG (fun X hX C0 => ?_)
  subst hX
  have C : Cx X G cJ15_checkIndex_7cf53 2 RJ15 (Option.some Jvm.ClassFile.FieldType.int) r_J15_checkIndex_7cf53 "checkIndex" [] := C0
  clear C0
  show V X G 2 _ 0 0 _ 0 [(0, .int (x)), (1, .int (n_))] []
  refine v_iload_n C dJ15_checkIndex_7cf53_0 rfl 0 rfl ?_
  refine v_iload_n C dJ15_checkIndex_7cf53_1 rfl 1 rfl ?_
  refine v_null C dJ15_checkIndex_7cf53_2 rfl ?_
  refine w_invSr C [.int (x), .int (n_), .null] 0 0 L_J15_105 (c_J3_checkIndex_8e157 (s := s) (t := t)  hst hG hL x n_ h0 h1) rfl rfl rfl dJ15_checkIndex_7cf53_3 rfl kx_no (fun h1 => ?_)
  exact v_iret C (by decide) (by decide) dJ15_checkIndex_7cf53_6 ⟨congrArg (fun z => some (Value.int z)) (by first | rfl | (simp only [bI, pM, pU, n10, n20, n30, n0, if_true, if_false, ite_true, ite_false, not_true_eq_false, not_false_eq_true, and_true, true_and, and_false, false_and, or_true, true_or, or_false, false_or, reduceIte, and_self, or_self, ne_eq, eq_self_iff_true]; first | done | rfl) | (simp [bI, ]; done) | (simp only [bI, ← Int32.not_le] at *; simp []; done) | (simp_all [bI, ]; done) | (simp_all [bI, ]; rfl) | (exfalso; omega)), by rfl, by trivial⟩

abbrev r_Jx4a65c_elementData_915e3 : Room := { frames := 0, cells := 0, slots := 0, locals := 0 }
set_option maxRecDepth 4000 in
theorem c_Jx4a65c_elementData_915e3 {l : Launch} {G : GG} {a : AD} {s t s0 : SS} {L : List (Nat × Nat)} {n : Nat} (hst : l.stackTraces = false) (hG : GOK G) (hL : Live L s0) (i_this : Nat) (x : Int32) (j_x : Nat) (e_x : x = nI j_x) (l_x : j_x < 999) (hv : i_this < 3) (hls : LsOK a s s0 i_this n) (hjn : j_x < n) : Mth l yJx4a65c_elementData_915e3 cJx4a65c_elementData_915e3 2 (Option.some (Jvm.ClassFile.FieldType.object "java/lang/Object")) r_Jx4a65c_elementData_915e3 G (wl a (E G.2.2.1 a s t) L) [.ref (a 6 i_this), .int x] (RI (.ref (a (eI i_this) j_x)) (wl a (E G.2.2.1 a s t) L) (True)) nX := by
  refine mth_of rfl (Nat.le_of_ble_eq_true rfl) hst hG (fun X hX C0 => ?_)
  subst hX
  have C : Cx X G cJx4a65c_elementData_915e3 2 RJx4a65c (Option.some (Jvm.ClassFile.FieldType.object "java/lang/Object")) r_Jx4a65c_elementData_915e3 "elementData" [] := C0
  clear C0
  show V X G 2 _ 0 0 _ 0 [(0, .ref (a 6 i_this)), (1, .int (x))] []
  subst e_x
  have hcap := (hls.2.2 (by omega)).2.2
  refine v_aload_n C dJx4a65c_elementData_915e3_0 rfl 0 rfl ?_
  refine v_get C (v := .ref (a 16 i_this)) g_Jx4a65c_9 (m6 (s := s) (t := t) (g := G.2.2.1) hL i_this hv) rfl dJx4a65c_elementData_915e3_1 rfl ?_
  refine xx_topR (y := a 7 i_this) (hls.2.2 (by omega)).2.1 ?_
  refine v_iload_n C dJx4a65c_elementData_915e3_4 rfl 1 rfl ?_
  refine v_aald C (m7 (s := s) (t := t) (g := G.2.2.1) hL i_this hv (hls.2.2 (by omega)).1) (pk_in j_x _ (by omega)) dJx4a65c_elementData_915e3_5 rfl ?_
  refine xx_topV (y := .ref (a (eI i_this) j_x)) (by rw [nI_clamp (by omega), if_pos (by rw [hls.tn]; omega)]; rfl) ?_
  exact v_aret C (Or.inl ⟨_, rfl⟩) (by decide) (by decide) dJx4a65c_elementData_915e3_6 ⟨by rfl, by rfl, by trivial⟩

abbrev r_Jx4a65c_get_915e3 : Room := { frames := 2, cells := 0, slots := 0, locals := 43 }
set_option maxRecDepth 4000 in
theorem c_Jx4a65c_get_915e3 {l : Launch} {G : GG} {a : AD} {s t s0 : SS} {L : List (Nat × Nat)} {n : Nat} (hst : l.stackTraces = false) (hG : GOK G) (hL : Live L s0) (i_this : Nat) (x : Int32) (j_x : Nat) (e_x : x = nI j_x) (l_x : j_x < 999) (hv : i_this < 3) (hls : LsOK a s s0 i_this n) (hjn : j_x < n) : Mth l yJx4a65c_get_915e3 cJx4a65c_get_915e3 2 (Option.some (Jvm.ClassFile.FieldType.object "java/lang/Object")) r_Jx4a65c_get_915e3 G (wl a (E G.2.2.1 a s t) L) [.ref (a 6 i_this), .int x] (RI (.ref (a (eI i_this) j_x)) (wl a (E G.2.2.1 a s t) L) (True)) nX := by
  refine mth_of rfl (Nat.le_of_ble_eq_true rfl) hst hG (fun X hX C0 => ?_)
  subst hX
  have C : Cx X G cJx4a65c_get_915e3 2 RJx4a65c (Option.some (Jvm.ClassFile.FieldType.object "java/lang/Object")) r_Jx4a65c_get_915e3 "get" [] := C0
  clear C0
  show V X G 2 _ 0 0 _ 0 [(0, .ref (a 6 i_this)), (1, .int (x))] []
  subst e_x
  have hn30 := hls.2.1
  refine v_iload_n C dJx4a65c_get_915e3_0 rfl 1 rfl ?_
  refine v_aload_n C dJx4a65c_get_915e3_1 rfl 0 rfl ?_
  refine v_get C (v := .int (s (lI i_this) 0)) g_Jx4a65c_48 (m6 (s := s) (t := t) (g := G.2.2.1) hL i_this hv) rfl dJx4a65c_get_915e3_2 rfl ?_
  refine w_invSr C [.int (nI (j_x)), .int (s (lI i_this) 0)] 0 0 L_Jx4a65c_118 (c_J15_checkIndex_7cf53 (s := s) (t := t)  hst hG hL (nI (j_x)) (s (lI i_this) 0) (nI_pos (by omega)) (by rw [hls.1]; exact nI_lt hjn (by omega))) rfl rfl rfl dJx4a65c_get_915e3_5 rfl kx_no (fun h1 => ?_)
  refine v_pop C dJx4a65c_get_915e3_8 rfl rfl ?_
  refine v_aload_n C dJx4a65c_get_915e3_9 rfl 0 rfl ?_
  refine v_iload_n C dJx4a65c_get_915e3_10 rfl 1 rfl ?_
  refine w_invVr C [.int (nI (j_x))] 0 0 L_Jx4a65c_123 (c_Jx4a65c_elementData_915e3 (s := s) (t := t) (n := n) hst hG hL i_this (nI (j_x)) j_x rfl (by omega) hv hls hjn) (m6 (s := s) (t := t) (g := G.2.2.1) hL i_this hv) rfl rfl rfl rfl dJx4a65c_get_915e3_11 rfl kx_no (fun h2 => ?_)
  exact v_aret C (Or.inl ⟨_, rfl⟩) (by decide) (by decide) dJx4a65c_get_915e3_14 ⟨by rfl, by rfl, by trivial⟩

