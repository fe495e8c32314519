theorem LsOK.p0 {a : AD} {s s0 : SS} {n : Nat} (h : LsOK a s s0 0 n) : s 12 0 = nI n := h.1
theorem LsOK.p1 {a : AD} {s s0 : SS} {n : Nat} (h : LsOK a s s0 1 n) : s 21 0 = nI n := h.1
theorem LsOK.p2 {a : AD} {s s0 : SS} {n : Nat} (h : LsOK a s s0 2 n) : s 33 0 = nI n := h.1
theorem LsOK.c {a : AD} {s s' s0 : SS} {k n : Nat} (h : s' (lI k) 0 = s (lI k) 0) (hl : LsOK a s s0 k n) : LsOK a s' s0 k n := ⟨h.trans hl.1, hl.2⟩
theorem lt4 {x : Int32} : x < 4 ↔ x ≤ 3 := by
  rw [Int32.lt_iff_toInt_lt, Int32.le_iff_toInt_le]
  have h1 : (4 : Int32).toInt = 4 := by decide
  have h2 : (3 : Int32).toInt = 3 := by decide
  omega
/-- the first claim that is held and has the cell -/
def heldC (z : SS) (x : Int32) : Nat → Int32
  | 0 => -1
  | i + 1 => if heldC z x i = -1 then (if ¬ z 25 i = 0 ∧ (z 23 i ≤ x ∧ x < z 23 i + z 24 i) then nI i else -1) else heldC z x i
theorem nI_m1 {n : Nat} (h : n < 1000) : ¬ nI n = -1 := by
  intro e
  have h1 := nI_toInt (n := n) (by omega)
  rw [e] at h1
  have h2 : (-1 : Int32).toInt = -1 := by decide
  omega
theorem heldC_up {z : SS} {x : Int32} {i : Nat} (hi : i < 1000) (h : heldC z x (i + 1) = nI i) : ∀ d, heldC z x (i + 1 + d) = nI i
  | 0 => h
  | d + 1 => by
    show heldC z x (i + 1 + d + 1) = nI i
    unfold heldC
    rw [heldC_up hi h d, if_neg (nI_m1 hi)]
theorem heldC_in {z : SS} {x : Int32} : ∀ n, heldC z x n = -1 ∨ ∃ i, i < n ∧ heldC z x n = nI i
  | 0 => Or.inl rfl
  | n + 1 => by
    unfold heldC
    split
    · split
      · exact Or.inr ⟨n, by omega, rfl⟩
      · exact Or.inl rfl
    · rcases heldC_in n with h | ⟨i, hi, h⟩
      · exact Or.inl h
      · exact Or.inr ⟨i, by omega, h⟩
def freeC (z : SS) (c nc : Nat) : Nat → Int32
  | 0 => 1
  | i + 1 => if freeC z c nc i = 0 then 0 else if heldC z (nI (c + i)) nc = -1 then 1 else 0
theorem freeC_up {z : SS} {c nc i : Nat} (h : freeC z c nc (i + 1) = 0) : ∀ d, freeC z c nc (i + 1 + d) = 0
  | 0 => h
  | d + 1 => by
    show freeC z c nc (i + 1 + d + 1) = 0
    unfold freeC
    rw [if_pos (freeC_up h d)]
def mayG (z : SS) (g : Nat) (x c : Int32) : Int32 := if c = -1 then (if g = 0 then 1 else 0) else if z 22 (tn c) = x then 1 else 0
def spW (z : SS) (x c : Int32) : Nat → SS
  | 0 => z
  | i + 1 => if z 53 i = x ∧ z 32 i = z 0 0 ∧ (spW z x c i 23 i ≤ c ∧ c < spW z x c i 23 i + spW z x c i 24 i) then su (spW z x c i) 54 i 1 else spW z x c i
theorem spW_o {z : SS} {x c : Int32} {k : Nat} (h : k ≠ 54) : ∀ n, spW z x c n k = z k
  | 0 => rfl
  | n + 1 => by
    unfold spW
    split
    · rw [su_o h, spW_o h n]
    · exact spW_o h n
def lpF (z : SS) (i : Nat) : SS := if z 17 (tn (z 22 i)) = 0 ∨ z 27 i < z 0 0 - z 26 i then su z 25 i 0 else z
theorem lpF_o {z : SS} {i k : Nat} (h : k ≠ 25) : lpF z i k = z k := by
  unfold lpF
  split
  · exact su_o h
  · rfl
def laW (z : SS) : Nat → SS
  | 0 => z
  | i + 1 => eatC (laW z i) i
theorem eatC_o {z : SS} {j k : Nat} (h15 : k ≠ 15) (h17 : k ≠ 17) : eatC z j k = z k := by
  unfold eatC
  split
  · rfl
  · split
    · rw [su_o h17, su_o h15]
    · rw [su_o h17]
theorem laW_o {z : SS} {k : Nat} (h15 : k ≠ 15) (h17 : k ≠ 17) : ∀ n, laW z n k = z k
  | 0 => rfl
  | n + 1 => by
    unfold laW
    rw [eatC_o h15 h17, laW_o h15 h17 n]
def lpW (z : SS) : Nat → SS
  | 0 => z
  | i + 1 => lpF (lpW z i) i
theorem lpW_o {z : SS} {k : Nat} (h : k ≠ 25) : ∀ n, lpW z n k = z k
  | 0 => rfl
  | n + 1 => by
    unfold lpW
    rw [lpF_o h, lpW_o h n]
theorem fdV_o {z : SS} {k : Nat} (h : k ≠ 11) : ∀ n, fdV z n k = z k
  | 0 => rfl
  | n + 1 => by
    unfold fdV
    rw [su_o h, fdV_o h n]
def dayC (z : SS) (nm nc : Nat) : SS := lpW (fdV (ulW (laW (su z 0 0 (z 0 0 + 1)) nm) (z 0 0 + 1) 20) 40) nc
theorem dayC_o {z : SS} {nm nc k : Nat} (h0 : k ≠ 0) (h5 : k ≠ 5) (h11 : k ≠ 11) (h15 : k ≠ 15) (h17 : k ≠ 17) (h25 : k ≠ 25) (h50 : k ≠ 50) : dayC z nm nc k = z k := by
  unfold dayC
  rw [lpW_o h25, fdV_o h11, ulW_o h5 h50, laW_o h15 h17, su_o h0]
theorem gear0 {X : XS} {G : GG} {cc : ByteArray} {nL : Nat} {own : String} {ret : Option FieldType} {rm : Room} {nm : String} {tb : List ExceptionTableEntry} (C : Cx X G cc nL own ret rm nm tb) {g : Nat} (hg : g < 4) (h : G.2.2.1 (20 + g) = G.2.2.1 (20 + 0)) : g = 0 := (gear_all C).2 g 0 hg (by decide) h

abbrev r_X7_checkIndex : Room := { frames := 6, cells := 1, slots := 6, locals := 82 }
set_option maxRecDepth 4000 in
theorem c_X7_checkIndex {l : Launch} {G : GG} {a : AD} {s t s0 : SS} {L : List (Nat × Nat)}  (hst : l.stackTraces = false) (hG : GOK G) (hL : Live L s0) (v_ : Int32)  : Mth l yX7_checkIndex cX7_checkIndex 1 (Option.none : Option Jvm.ClassFile.FieldType) r_X7_checkIndex G (wl a (E G.2.2.1 a s t) L) [.int v_] (RV (wl a (E G.2.2.1 a s t) L) (¬ v_ = 0)) (XW (fun E => E = xI ∧ v_ = 0) (wl a (E G.2.2.1 a s t) L)) := by
  refine mth_of rfl (Nat.le_of_ble_eq_true rfl) hst hG (fun X hX C0 => ?_)
  subst hX
  have C : Cx X G cX7_checkIndex 1 RX7 (Option.none : Option Jvm.ClassFile.FieldType) r_X7_checkIndex "checkIndex" [] := C0
  clear C0
  show V X G 1 _ 0 0 _ 0 [(0, .int (v_))] []
  refine v_iload_n C dX7_checkIndex_0 rfl 0 rfl ?_
  refine v_if_ne C (t := 15) dX7_checkIndex_1 rfl rfl (fun h1 => ?_) (fun h1 => ?_)
  · skip
    exact v_vret C (by decide) (by decide) dX7_checkIndex_15 ⟨rfl, by rfl, by first | assumption | first | rfl | (simp only [h1, bI, pM, pU, n10, n20, n30, n0, if_true, if_false, ite_true, ite_false, not_true_eq_false, not_false_eq_true, and_true, true_and, and_false, false_and, or_true, true_or, or_false, false_or, reduceIte, and_self, or_self, ne_eq, eq_self_iff_true]; first | done | rfl) | (simp [bI, h1]; done) | (simp only [bI, ← Int32.not_le] at *; simp [h1]; done) | (simp_all [bI, h1]; done) | (simp_all [bI, h1]; rfl) | (exfalso; omega)⟩
  · skip
    exact v_throw C (E := xI) rfl K_X7_292 ini_I (List.Mem.head _) (fun _ h => List.mem_append_left _ h) good_I dX7_checkIndex_4 dX7_checkIndex_7 dX7_checkIndex_8 dX7_checkIndex_11 dX7_checkIndex_14 (by decide) (Nat.le_of_ble_eq_true rfl) (by decide) (by decide) ⟨by refine ⟨rfl, ?_⟩; first | assumption | (first | rfl | (simp only [eq_true h1, bI, pM, pU, n10, n20, n30, n0, if_true, if_false, ite_true, ite_false, not_true_eq_false, not_false_eq_true, and_true, true_and, and_false, false_and, or_true, true_or, or_false, false_or, reduceIte, and_self, or_self, ne_eq, eq_self_iff_true]; first | done | rfl) | (simp [bI, eq_true h1]; done) | (simp only [bI, ← Int32.not_le] at *; simp [eq_true h1]; done) | (simp_all [bI, eq_true h1]; done) | (simp_all [bI, eq_true h1]; rfl) | (exfalso; omega)), rfl⟩

abbrev r_X7_checkArgument : Room := { frames := 6, cells := 1, slots := 6, locals := 82 }
set_option maxRecDepth 4000 in
theorem c_X7_checkArgument {l : Launch} {G : GG} {a : AD} {s t s0 : SS} {L : List (Nat × Nat)}  (hst : l.stackTraces = false) (hG : GOK G) (hL : Live L s0) (v_ : Int32)  : Mth l yX7_checkArgument cX7_checkArgument 1 (Option.none : Option Jvm.ClassFile.FieldType) r_X7_checkArgument G (wl a (E G.2.2.1 a s t) L) [.int v_] (RV (wl a (E G.2.2.1 a s t) L) (¬ v_ = 0)) (XW (fun E => E = xA ∧ v_ = 0) (wl a (E G.2.2.1 a s t) L)) := by
  refine mth_of rfl (Nat.le_of_ble_eq_true rfl) hst hG (fun X hX C0 => ?_)
  subst hX
  have C : Cx X G cX7_checkArgument 1 RX7 (Option.none : Option Jvm.ClassFile.FieldType) r_X7_checkArgument "checkArgument" [] := C0
  clear C0
  show V X G 1 _ 0 0 _ 0 [(0, .int (v_))] []
  refine v_iload_n C dX7_checkArgument_0 rfl 0 rfl ?_
  refine v_if_ne C (t := 15) dX7_checkArgument_1 rfl rfl (fun h1 => ?_) (fun h1 => ?_)
  · skip
    exact v_vret C (by decide) (by decide) dX7_checkArgument_15 ⟨rfl, by rfl, by first | assumption | first | rfl | (simp only [h1, bI, pM, pU, n10, n20, n30, n0, if_true, if_false, ite_true, ite_false, not_true_eq_false, not_false_eq_true, and_true, true_and, and_false, false_and, or_true, true_or, or_false, false_or, reduceIte, and_self, or_self, ne_eq, eq_self_iff_true]; first | done | rfl) | (simp [bI, h1]; done) | (simp only [bI, ← Int32.not_le] at *; simp [h1]; done) | (simp_all [bI, h1]; done) | (simp_all [bI, h1]; rfl) | (exfalso; omega)⟩
  · skip
    exact v_throw C (E := xA) rfl K_X7_299 ini_A (List.Mem.tail _ (List.Mem.head _)) (fun _ h => List.mem_append_right _ (List.mem_append_left _ h)) good_A dX7_checkArgument_4 dX7_checkArgument_7 dX7_checkArgument_8 dX7_checkArgument_11 dX7_checkArgument_14 (by decide) (Nat.le_of_ble_eq_true rfl) (by decide) (by decide) ⟨by refine ⟨rfl, ?_⟩; first | assumption | (first | rfl | (simp only [eq_true h1, bI, pM, pU, n10, n20, n30, n0, if_true, if_false, ite_true, ite_false, not_true_eq_false, not_false_eq_true, and_true, true_and, and_false, false_and, or_true, true_or, or_false, false_or, reduceIte, and_self, or_self, ne_eq, eq_self_iff_true]; first | done | rfl) | (simp [bI, eq_true h1]; done) | (simp only [bI, ← Int32.not_le] at *; simp [eq_true h1]; done) | (simp_all [bI, eq_true h1]; done) | (simp_all [bI, eq_true h1]; rfl) | (exfalso; omega)), rfl⟩

abbrev r_X7_checkState : Room := { frames := 6, cells := 1, slots := 6, locals := 82 }
set_option maxRecDepth 4000 in
theorem c_X7_checkState {l : Launch} {G : GG} {a : AD} {s t s0 : SS} {L : List (Nat × Nat)}  (hst : l.stackTraces = false) (hG : GOK G) (hL : Live L s0) (v_ : Int32)  : Mth l yX7_checkState cX7_checkState 1 (Option.none : Option Jvm.ClassFile.FieldType) r_X7_checkState G (wl a (E G.2.2.1 a s t) L) [.int v_] (RV (wl a (E G.2.2.1 a s t) L) (¬ v_ = 0)) (XW (fun E => E = xS ∧ v_ = 0) (wl a (E G.2.2.1 a s t) L)) := by
  refine mth_of rfl (Nat.le_of_ble_eq_true rfl) hst hG (fun X hX C0 => ?_)
  subst hX
  have C : Cx X G cX7_checkState 1 RX7 (Option.none : Option Jvm.ClassFile.FieldType) r_X7_checkState "checkState" [] := C0
  clear C0
  show V X G 1 _ 0 0 _ 0 [(0, .int (v_))] []
  refine v_iload_n C dX7_checkState_0 rfl 0 rfl ?_
  refine v_if_ne C (t := 15) dX7_checkState_1 rfl rfl (fun h1 => ?_) (fun h1 => ?_)
  · skip
    exact v_vret C (by decide) (by decide) dX7_checkState_15 ⟨rfl, by rfl, by first | assumption | first | rfl | (simp only [h1, bI, pM, pU, n10, n20, n30, n0, if_true, if_false, ite_true, ite_false, not_true_eq_false, not_false_eq_true, and_true, true_and, and_false, false_and, or_true, true_or, or_false, false_or, reduceIte, and_self, or_self, ne_eq, eq_self_iff_true]; first | done | rfl) | (simp [bI, h1]; done) | (simp only [bI, ← Int32.not_le] at *; simp [h1]; done) | (simp_all [bI, h1]; done) | (simp_all [bI, h1]; rfl) | (exfalso; omega)⟩
  · skip
    exact v_throw C (E := xS) rfl K_X7_304 ini_S (List.Mem.tail _ (List.Mem.tail _ (List.Mem.head _))) (fun _ h => List.mem_append_right _ (List.mem_append_right _ h)) good_S dX7_checkState_4 dX7_checkState_7 dX7_checkState_8 dX7_checkState_11 dX7_checkState_14 (by decide) (Nat.le_of_ble_eq_true rfl) (by decide) (by decide) ⟨by refine ⟨rfl, ?_⟩; first | assumption | (first | rfl | (simp only [eq_true h1, bI, pM, pU, n10, n20, n30, n0, if_true, if_false, ite_true, ite_false, not_true_eq_false, not_false_eq_true, and_true, true_and, and_false, false_and, or_true, true_or, or_false, false_or, reduceIte, and_self, or_self, ne_eq, eq_self_iff_true]; first | done | rfl) | (simp [bI, eq_true h1]; done) | (simp only [bI, ← Int32.not_le] at *; simp [eq_true h1]; done) | (simp_all [bI, eq_true h1]; done) | (simp_all [bI, eq_true h1]; rfl) | (exfalso; omega)), rfl⟩

abbrev r_X7_checkRange : Room := { frames := 7, cells := 1, slots := 6, locals := 102 }
set_option maxRecDepth 4000 in
theorem c_X7_checkRange {l : Launch} {G : GG} {a : AD} {s t s0 : SS} {L : List (Nat × Nat)}  (hst : l.stackTraces = false) (hG : GOK G) (hL : Live L s0) (v_ : Int32) (lo : Int32) (hi : Int32)  : Mth l yX7_checkRange cX7_checkRange 3 (Option.none : Option Jvm.ClassFile.FieldType) r_X7_checkRange G (wl a (E G.2.2.1 a s t) L) [.int v_, .int lo, .int hi] (RV (wl a (E G.2.2.1 a s t) L) (lo ≤ v_ ∧ v_ ≤ hi)) (XW (fun E => E = xA ∧ ¬ (lo ≤ v_ ∧ v_ ≤ hi)) (wl a (E G.2.2.1 a s t) L)) := by
  refine mth_of rfl (Nat.le_of_ble_eq_true rfl) hst hG (fun X hX C0 => ?_)
  subst hX
  have C : Cx X G cX7_checkRange 3 RX7 (Option.none : Option Jvm.ClassFile.FieldType) r_X7_checkRange "checkRange" [] := C0
  clear C0
  show V X G 3 _ 0 0 _ 0 [(0, .int (v_)), (1, .int (lo)), (2, .int (hi))] []
  refine v_iload_n C dX7_checkRange_0 rfl 0 rfl ?_
  refine v_iload_n C dX7_checkRange_1 rfl 1 rfl ?_
  refine v_icmp_lt C (t := 14) dX7_checkRange_2 rfl rfl (fun h1 => ?_) (fun h1 => ?_)
  · skip
    refine v_iconst C (v := 0) dX7_checkRange_14 rfl rfl ?_
    refine w_invSv C [.int (0)] 1 6 L_X7_105 (c_X7_checkArgument (s := s) (t := t)  hst hG hL 0) rfl rfl rfl dX7_checkRange_15 rfl (kx_out C (by decide) (fun E w1 hE => by obtain ⟨⟨rfl, h2⟩, rfl⟩ := hE; exact ⟨by refine ⟨rfl, ?_⟩; first | assumption | (first | rfl | (simp only [h1, Int32.not_le.mpr h1, h2, bI, pM, pU, n10, n20, n30, n0, if_true, if_false, ite_true, ite_false, not_true_eq_false, not_false_eq_true, and_true, true_and, and_false, false_and, or_true, true_or, or_false, false_or, reduceIte, and_self, or_self, ne_eq, eq_self_iff_true]; first | done | rfl) | (simp [bI, h1, Int32.not_le.mpr h1, h2]; done) | (simp only [bI, ← Int32.not_le] at *; simp [h1, Int32.not_le.mpr h1, h2]; done) | (simp_all [bI, h1, Int32.not_le.mpr h1, h2]; done) | (simp_all [bI, h1, Int32.not_le.mpr h1, h2]; rfl) | (exfalso; omega)), rfl⟩)) (fun h3 => ?_)
    exact absurd rfl h3
  · skip
    refine v_iload_n C dX7_checkRange_5 rfl 0 rfl ?_
    refine v_iload_n C dX7_checkRange_6 rfl 2 rfl ?_
    refine v_icmp_gt C (t := 14) dX7_checkRange_7 rfl rfl (fun h4 => ?_) (fun h4 => ?_)
    · skip
      refine v_iconst C (v := 0) dX7_checkRange_14 rfl rfl ?_
      refine w_invSv C [.int (0)] 1 6 L_X7_105 (c_X7_checkArgument (s := s) (t := t)  hst hG hL 0) rfl rfl rfl dX7_checkRange_15 rfl (kx_out C (by decide) (fun E w1 hE => by obtain ⟨⟨rfl, h5⟩, rfl⟩ := hE; exact ⟨by refine ⟨rfl, ?_⟩; first | assumption | (first | rfl | (simp only [h1, Int32.not_lt.mp h1, h4, Int32.not_le.mpr h4, h5, bI, pM, pU, n10, n20, n30, n0, if_true, if_false, ite_true, ite_false, not_true_eq_false, not_false_eq_true, and_true, true_and, and_false, false_and, or_true, true_or, or_false, false_or, reduceIte, and_self, or_self, ne_eq, eq_self_iff_true]; first | done | rfl) | (simp [bI, h1, Int32.not_lt.mp h1, h4, Int32.not_le.mpr h4, h5]; done) | (simp only [bI, ← Int32.not_le] at *; simp [h1, Int32.not_lt.mp h1, h4, Int32.not_le.mpr h4, h5]; done) | (simp_all [bI, h1, Int32.not_lt.mp h1, h4, Int32.not_le.mpr h4, h5]; done) | (simp_all [bI, h1, Int32.not_lt.mp h1, h4, Int32.not_le.mpr h4, h5]; rfl) | (exfalso; omega)), rfl⟩)) (fun h6 => ?_)
      exact absurd rfl h6
    · skip
      refine v_iconst C (v := 1) dX7_checkRange_10 rfl rfl ?_
      refine v_goto C (q := 15) dX7_checkRange_11 rfl ?_
      refine w_invSv C [.int (1)] 1 6 L_X7_105 (c_X7_checkArgument (s := s) (t := t)  hst hG hL 1) rfl rfl rfl dX7_checkRange_15 rfl (fun E w1 hE => absurd hE.1.2 (by decide)) (fun h7 => ?_)
      exact v_vret C (by decide) (by decide) dX7_checkRange_18 ⟨rfl, by rfl, by first | assumption | first | rfl | (simp only [h1, Int32.not_lt.mp h1, h4, Int32.not_lt.mp h4, bI, pM, pU, n10, n20, n30, n0, if_true, if_false, ite_true, ite_false, not_true_eq_false, not_false_eq_true, and_true, true_and, and_false, false_and, or_true, true_or, or_false, false_or, reduceIte, and_self, or_self, ne_eq, eq_self_iff_true]; first | done | rfl) | (simp [bI, h1, Int32.not_lt.mp h1, h4, Int32.not_lt.mp h4]; done) | (simp only [bI, ← Int32.not_le] at *; simp [h1, Int32.not_lt.mp h1, h4, Int32.not_lt.mp h4]; done) | (simp_all [bI, h1, Int32.not_lt.mp h1, h4, Int32.not_lt.mp h4]; done) | (simp_all [bI, h1, Int32.not_lt.mp h1, h4, Int32.not_lt.mp h4]; rfl) | (exfalso; omega)⟩

abbrev r_X7_checkCell : Room := { frames := 7, cells := 1, slots := 6, locals := 102 }
set_option maxRecDepth 4000 in
theorem c_X7_checkCell {l : Launch} {G : GG} {a : AD} {s t s0 : SS} {L : List (Nat × Nat)}  (hst : l.stackTraces = false) (hG : GOK G) (hL : Live L s0) (x : Int32)  : Mth l yX7_checkCell cX7_checkCell 1 (Option.none : Option Jvm.ClassFile.FieldType) r_X7_checkCell G (wl a (E G.2.2.1 a s t) L) [.int x] (RV (wl a (E G.2.2.1 a s t) L) ((0 : Int32) ≤ x ∧ x ≤ 39)) (XW (fun E => E = xI ∧ ¬ ((0 : Int32) ≤ x ∧ x ≤ 39)) (wl a (E G.2.2.1 a s t) L)) := by
  refine mth_of rfl (Nat.le_of_ble_eq_true rfl) hst hG (fun X hX C0 => ?_)
  subst hX
  have C : Cx X G cX7_checkCell 1 RX7 (Option.none : Option Jvm.ClassFile.FieldType) r_X7_checkCell "checkCell" [] := C0
  clear C0
  show V X G 1 _ 0 0 _ 0 [(0, .int (x))] []
  refine v_iload_n C dX7_checkCell_0 rfl 0 rfl ?_
  refine w_invSr C [.int (x)] 0 0 L_X7_309 (c_X7_isCell (s := s) (t := t)  hst hG hL x) rfl rfl rfl dX7_checkCell_1 rfl kx_no (fun h1 => ?_)
  refine w_invSv C [.int (bI ((0 : Int32) ≤ x ∧ x ≤ 39))] 1 6 L_X7_112 (c_X7_checkIndex (s := s) (t := t)  hst hG hL (bI ((0 : Int32) ≤ x ∧ x ≤ 39))) rfl rfl rfl dX7_checkCell_4 rfl (kx_out C (by decide) (fun E w1 hE => by obtain ⟨⟨rfl, h2⟩, rfl⟩ := hE; have h2 := bI_z0 h2; exact ⟨by refine ⟨rfl, ?_⟩; first | assumption | (first | rfl | (simp only [h2, bI, pM, pU, n10, n20, n30, n0, if_true, if_false, ite_true, ite_false, not_true_eq_false, not_false_eq_true, and_true, true_and, and_false, false_and, or_true, true_or, or_false, false_or, reduceIte, and_self, or_self, ne_eq, eq_self_iff_true]; first | done | rfl) | (simp [bI, h2]; done) | (simp only [bI, ← Int32.not_le] at *; simp [h2]; done) | (simp_all [bI, h2]; done) | (simp_all [bI, h2]; rfl) | (exfalso; omega)), rfl⟩)) (fun h3 => ?_)
  have h4 := bI_nz h3
  exact v_vret C (by decide) (by decide) dX7_checkCell_7 ⟨rfl, by rfl, by first | assumption | first | rfl | (simp only [h4, bI, pM, pU, n10, n20, n30, n0, if_true, if_false, ite_true, ite_false, not_true_eq_false, not_false_eq_true, and_true, true_and, and_false, false_and, or_true, true_or, or_false, false_or, reduceIte, and_self, or_self, ne_eq, eq_self_iff_true]; first | done | rfl) | (simp [bI, h4]; done) | (simp only [bI, ← Int32.not_le] at *; simp [h4]; done) | (simp_all [bI, h4]; done) | (simp_all [bI, h4]; rfl) | (exfalso; omega)⟩

abbrev r_X7_isMiner : Room := { frames := 1, cells := 0, slots := 0, locals := 20 }
set_option maxRecDepth 4000 in
theorem c_X7_isMiner {l : Launch} {G : GG} {a : AD} {s t s0 : SS} {L : List (Nat × Nat)} {nm : Nat} (hst : l.stackTraces = false) (hG : GOK G) (hL : Live L s0) (x : Int32) (hlm : LsOK a s s0 0 nm) (hm12 : nm ≤ 12) (hv_nm : ∀ i, i < nm → i < tn (s0 12 0)) : Mth l yX7_isMiner cX7_isMiner 2 (Option.some Jvm.ClassFile.FieldType.boolean) r_X7_isMiner G (wl a (E G.2.2.1 a s t) L) [.ref (a 2 0), .int x] (RI (.int (bI ((0 : Int32) ≤ x ∧ x ≤ s 12 0 - 1))) (wl a (E G.2.2.1 a s t) L) (True)) nX := by
  refine mth_of rfl (Nat.le_of_ble_eq_true rfl) hst hG (fun X hX C0 => ?_)
  subst hX
  have C : Cx X G cX7_isMiner 2 RX7 (Option.some Jvm.ClassFile.FieldType.boolean) r_X7_isMiner "isMiner" [] := C0
  clear C0
  show V X G 2 _ 0 0 _ 0 [(0, .ref (a 2 0)), (1, .int (x))] []
  refine v_iload_n C dX7_isMiner_0 rfl 1 rfl ?_
  refine v_if_lt C (t := 19) dX7_isMiner_1 rfl rfl (fun h1 => ?_) (fun h1 => ?_)
  · skip
    refine v_iconst C (v := 0) dX7_isMiner_19 rfl rfl ?_
    exact v_zret C rfl (by decide) (by decide) dX7_isMiner_20 ⟨congrArg (fun z => some (Value.int z)) (by rw [hlm.p0]; simp only [bI, ltc (show nm < 1000 by omega), h1, Int32.not_le.mpr h1, true_and, and_true, and_false, false_and, if_true, if_false]), by rfl, by trivial⟩
  · skip
    refine v_iload_n C dX7_isMiner_4 rfl 1 rfl ?_
    refine v_aload_n C dX7_isMiner_5 rfl 0 rfl ?_
    refine v_get C (v := .ref (a 6 0)) g_X7_33 (m2 (s := s) (t := t) (g := G.2.2.1) hL) (rg (by decide) rfl) dX7_isMiner_6 rfl ?_
    refine w_invVr C [] 0 0 L_X7_86 (c_Jx4a65c_size_8abf5 (s := s) (t := t)  hst hG hL 0 (by decide)) (m6 (s := s) (t := t) (g := G.2.2.1) hL 0 (by decide)) rfl rfl rfl rfl dX7_isMiner_9 rfl kx_no (fun h2 => ?_)
    refine xx_top (y := s 12 0) rfl ?_
    refine xx_top (y := nI nm) hlm.p0 ?_
    refine v_icmp_ge C (t := 19) dX7_isMiner_12 rfl rfl (fun h3 => ?_) (fun h3 => ?_)
    · skip
      refine v_iconst C (v := 0) dX7_isMiner_19 rfl rfl ?_
      exact v_zret C rfl (by decide) (by decide) dX7_isMiner_20 ⟨congrArg (fun z => some (Value.int z)) (by rw [hlm.p0]; simp only [bI, ltc (show nm < 1000 by omega), h1, Int32.not_lt.mp h1, h3, Int32.not_lt.mpr h3, true_and, and_true, and_false, false_and, if_true, if_false]), by rfl, by trivial⟩
    · skip
      refine v_iconst C (v := 1) dX7_isMiner_15 rfl rfl ?_
      refine v_goto C (q := 20) dX7_isMiner_16 rfl ?_
      exact v_zret C rfl (by decide) (by decide) dX7_isMiner_20 ⟨congrArg (fun z => some (Value.int z)) (by rw [hlm.p0]; simp only [bI, ltc (show nm < 1000 by omega), h1, Int32.not_lt.mp h1, h3, Int32.not_le.mp h3, true_and, and_true, and_false, false_and, if_true, if_false]), by rfl, by trivial⟩

abbrev r_X7_minerAt : Room := { frames := 6, cells := 1, slots := 6, locals := 82 }
set_option maxRecDepth 4000 in
theorem c_X7_minerAt {l : Launch} {G : GG} {a : AD} {s t s0 : SS} {L : List (Nat × Nat)} {nm : Nat} (hst : l.stackTraces = false) (hG : GOK G) (hL : Live L s0) (x : Int32) (hlm : LsOK a s s0 0 nm) (hm12 : nm ≤ 12) (hv_nm : ∀ i, i < nm → i < tn (s0 12 0)) : Mth l yX7_minerAt cX7_minerAt 2 (Option.some (Jvm.ClassFile.FieldType.object "NuggetCamp$Miner")) r_X7_minerAt G (wl a (E G.2.2.1 a s t) L) [.ref (a 2 0), .int x] (RI (.ref (a 9 (tn x))) (wl a (E G.2.2.1 a s t) L) ((0 : Int32) ≤ x ∧ x ≤ s 12 0 - 1)) (XW (fun E => E = xI ∧ ¬ ((0 : Int32) ≤ x ∧ x ≤ s 12 0 - 1)) (wl a (E G.2.2.1 a s t) L)) := by
  refine mth_of rfl (Nat.le_of_ble_eq_true rfl) hst hG (fun X hX C0 => ?_)
  subst hX
  have C : Cx X G cX7_minerAt 2 RX7 (Option.some (Jvm.ClassFile.FieldType.object "NuggetCamp$Miner")) r_X7_minerAt "minerAt" [] := C0
  clear C0
  show V X G 2 _ 0 0 _ 0 [(0, .ref (a 2 0)), (1, .int (x))] []
  refine v_aload_n C dX7_minerAt_0 rfl 0 rfl ?_
  refine v_iload_n C dX7_minerAt_1 rfl 1 rfl ?_
  refine w_invVr C [.int (x)] 0 0 L_X7_219 (c_X7_isMiner (s := s) (t := t) (nm := nm) hst hG hL x hlm hm12 hv_nm) (m2 (s := s) (t := t) (g := G.2.2.1) hL) rfl rfl rfl rfl dX7_minerAt_2 rfl kx_no (fun h1 => ?_)
  refine v_ifB_ne C (t := 19) dX7_minerAt_5 rfl rfl (fun h2 => ?_) (fun h2 => ?_)
  · skip
    have lx : tn x < nm := in_lt (vp_cnt (by assumption) hlm.p0 (Nat.le_refl _) (by omega))
    refine v_aload_n C dX7_minerAt_19 rfl 0 rfl ?_
    refine v_get C (v := .ref (a 6 0)) g_X7_33 (m2 (s := s) (t := t) (g := G.2.2.1) hL) (rg (by decide) rfl) dX7_minerAt_20 rfl ?_
    refine v_iload_n C dX7_minerAt_23 rfl 1 rfl ?_
    refine w_invVr C [.int (x)] 0 0 L_X7_314 (c_Jx4a65c_get_915e3 (s := s) (t := t) (n := nm) hst hG hL 0 x _ (in_nI (N := 999) (vp_cnt (N := 999) (by assumption) hlm.p0 (by omega) (by omega)) (by omega)) (in_lt (N := 999) (vp_cnt (N := 999) (by assumption) hlm.p0 (by omega) (by omega))) (by decide) hlm (by omega)) (m6 (s := s) (t := t) (g := G.2.2.1) hL 0 (by decide)) rfl rfl rfl rfl dX7_minerAt_24 rfl kx_no (fun h3 => ?_)
    refine xx_topR (y := a 9 ((tn x))) rfl ?_
    refine v_cast C K_X7_90 rfl (m9 (s := s) (t := t) (g := G.2.2.1) hL ((tn x)) (hv_nm _ (by omega))) dX7_minerAt_27 rfl ?_
    exact v_aret C (Or.inl ⟨_, rfl⟩) (by decide) (by decide) dX7_minerAt_30 ⟨by rfl, by rfl, by first | assumption | first | rfl | (simp only [h2, bI, pM, pU, n10, n20, n30, n0, if_true, if_false, ite_true, ite_false, not_true_eq_false, not_false_eq_true, and_true, true_and, and_false, false_and, or_true, true_or, or_false, false_or, reduceIte, and_self, or_self, ne_eq, eq_self_iff_true]; first | done | rfl) | (simp [bI, h2]; done) | (simp only [bI, ← Int32.not_le] at *; simp [h2]; done) | (simp_all [bI, h2]; done) | (simp_all [bI, h2]; rfl) | (exfalso; omega)⟩
  · skip
    exact v_throw C (E := xI) rfl K_X7_292 ini_I (List.Mem.tail _ (List.Mem.tail _ (List.Mem.tail _ (List.Mem.head _)))) (fun _ h => List.mem_append_left _ h) good_I dX7_minerAt_8 dX7_minerAt_11 dX7_minerAt_12 dX7_minerAt_15 dX7_minerAt_18 (by decide) (Nat.le_of_ble_eq_true rfl) (by decide) (by decide) ⟨by refine ⟨rfl, ?_⟩; first | assumption | (first | rfl | (simp only [h2, bI, pM, pU, n10, n20, n30, n0, if_true, if_false, ite_true, ite_false, not_true_eq_false, not_false_eq_true, and_true, true_and, and_false, false_and, or_true, true_or, or_false, false_or, reduceIte, and_self, or_self, ne_eq, eq_self_iff_true]; first | done | rfl) | (simp [bI, h2]; done) | (simp only [bI, ← Int32.not_le] at *; simp [h2]; done) | (simp_all [bI, h2]; done) | (simp_all [bI, h2]; rfl) | (exfalso; omega)), rfl⟩

abbrev r_X7_claimAt : Room := { frames := 6, cells := 1, slots := 6, locals := 82 }
set_option maxRecDepth 4000 in
theorem c_X7_claimAt {l : Launch} {G : GG} {a : AD} {s t s0 : SS} {L : List (Nat × Nat)} {nc : Nat} (hst : l.stackTraces = false) (hG : GOK G) (hL : Live L s0) (x : Int32) (hlc : LsOK a s s0 1 nc) (hv_nc : ∀ i, i < nc → i < tn (s0 21 0)) : Mth l yX7_claimAt cX7_claimAt 2 (Option.some (Jvm.ClassFile.FieldType.object "NuggetCamp$Claim")) r_X7_claimAt G (wl a (E G.2.2.1 a s t) L) [.ref (a 2 0), .int x] (RI (.ref (a 12 (tn x))) (wl a (E G.2.2.1 a s t) L) ((0 : Int32) ≤ x ∧ x ≤ s 21 0 - 1)) (XW (fun E => E = xI ∧ ¬ ((0 : Int32) ≤ x ∧ x ≤ s 21 0 - 1)) (wl a (E G.2.2.1 a s t) L)) := by
  refine mth_of rfl (Nat.le_of_ble_eq_true rfl) hst hG (fun X hX C0 => ?_)
  subst hX
  have C : Cx X G cX7_claimAt 2 RX7 (Option.some (Jvm.ClassFile.FieldType.object "NuggetCamp$Claim")) r_X7_claimAt "claimAt" [] := C0
  clear C0
  show V X G 2 _ 0 0 _ 0 [(0, .ref (a 2 0)), (1, .int (x))] []
  have hc30 := hlc.2.1
  refine v_iload_n C dX7_claimAt_0 rfl 1 rfl ?_
  refine v_if_lt C (t := 15) dX7_claimAt_1 rfl rfl (fun h1 => ?_) (fun h1 => ?_)
  · skip
    exact v_throw C (E := xI) rfl K_X7_292 ini_I (List.Mem.tail _ (List.Mem.tail _ (List.Mem.tail _ (List.Mem.tail _ (List.Mem.tail _ (List.Mem.head _)))))) (fun _ h => List.mem_append_left _ h) good_I dX7_claimAt_15 dX7_claimAt_18 dX7_claimAt_19 dX7_claimAt_22 dX7_claimAt_25 (by decide) (Nat.le_of_ble_eq_true rfl) (by decide) (by decide) ⟨by refine ⟨rfl, ?_⟩; rw [hlc.p1, ltc (by omega)]; rintro ⟨q1, q2⟩; first | exact absurd q1 (Int32.not_le.mpr (by assumption)) | exact absurd q2 (by assumption), rfl⟩
  · skip
    refine v_iload_n C dX7_claimAt_4 rfl 1 rfl ?_
    refine v_aload_n C dX7_claimAt_5 rfl 0 rfl ?_
    refine v_get C (v := .ref (a 6 1)) g_X7_37 (m2 (s := s) (t := t) (g := G.2.2.1) hL) (rg (by decide) rfl) dX7_claimAt_6 rfl ?_
    refine w_invVr C [] 0 0 L_X7_86 (c_Jx4a65c_size_8abf5 (s := s) (t := t)  hst hG hL 1 (by decide)) (m6 (s := s) (t := t) (g := G.2.2.1) hL 1 (by decide)) rfl rfl rfl rfl dX7_claimAt_9 rfl kx_no (fun h2 => ?_)
    refine xx_top (y := s 21 0) rfl ?_
    refine xx_top (y := nI nc) hlc.p1 ?_
    refine v_icmp_lt C (t := 26) dX7_claimAt_12 rfl rfl (fun h3 => ?_) (fun h3 => ?_)
    · skip
      have hP : (0 : Int32) ≤ x ∧ x ≤ s 21 0 - 1 := by rw [hlc.p1, ltc (by omega)]; exact ⟨Int32.not_lt.mp (by assumption), by assumption⟩
      have lx : tn x < nc := in_lt (vp_cnt hP hlc.p1 (Nat.le_refl _) (by omega))
      refine v_aload_n C dX7_claimAt_26 rfl 0 rfl ?_
      refine v_get C (v := .ref (a 6 1)) g_X7_37 (m2 (s := s) (t := t) (g := G.2.2.1) hL) (rg (by decide) rfl) dX7_claimAt_27 rfl ?_
      refine v_iload_n C dX7_claimAt_30 rfl 1 rfl ?_
      refine w_invVr C [.int (x)] 0 0 L_X7_314 (c_Jx4a65c_get_915e3 (s := s) (t := t) (n := nc) hst hG hL 1 x _ (in_nI (N := 999) (vp_cnt (N := 999) hP hlc.p1 (by omega) (by omega)) (by omega)) (in_lt (N := 999) (vp_cnt (N := 999) hP hlc.p1 (by omega) (by omega))) (by decide) hlc (by omega)) (m6 (s := s) (t := t) (g := G.2.2.1) hL 1 (by decide)) rfl rfl rfl rfl dX7_claimAt_31 rfl kx_no (fun h4 => ?_)
      refine xx_topR (y := a 12 ((tn x))) rfl ?_
      refine v_cast C K_X7_123 rfl (m12 (s := s) (t := t) (g := G.2.2.1) hL ((tn x)) (hv_nc _ (by omega))) dX7_claimAt_34 rfl ?_
      exact v_aret C (Or.inl ⟨_, rfl⟩) (by decide) (by decide) dX7_claimAt_37 ⟨by rfl, by rfl, by first | assumption | first | rfl | (simp only [h1, Int32.not_lt.mp h1, h3, Int32.not_le.mpr h3, bI, pM, pU, n10, n20, n30, n0, if_true, if_false, ite_true, ite_false, not_true_eq_false, not_false_eq_true, and_true, true_and, and_false, false_and, or_true, true_or, or_false, false_or, reduceIte, and_self, or_self, ne_eq, eq_self_iff_true]; first | done | rfl) | (simp [bI, h1, Int32.not_lt.mp h1, h3, Int32.not_le.mpr h3]; done) | (simp only [bI, ← Int32.not_le] at *; simp [h1, Int32.not_lt.mp h1, h3, Int32.not_le.mpr h3]; done) | (simp_all [bI, h1, Int32.not_lt.mp h1, h3, Int32.not_le.mpr h3]; done) | (simp_all [bI, h1, Int32.not_lt.mp h1, h3, Int32.not_le.mpr h3]; rfl) | (exfalso; omega)⟩
    · skip
      exact v_throw C (E := xI) rfl K_X7_292 ini_I (List.Mem.tail _ (List.Mem.tail _ (List.Mem.tail _ (List.Mem.tail _ (List.Mem.tail _ (List.Mem.head _)))))) (fun _ h => List.mem_append_left _ h) good_I dX7_claimAt_15 dX7_claimAt_18 dX7_claimAt_19 dX7_claimAt_22 dX7_claimAt_25 (by decide) (Nat.le_of_ble_eq_true rfl) (by decide) (by decide) ⟨by refine ⟨rfl, ?_⟩; rw [hlc.p1, ltc (by omega)]; rintro ⟨q1, q2⟩; first | exact absurd q1 (Int32.not_le.mpr (by assumption)) | exact absurd q2 (by assumption), rfl⟩

abbrev r_X7_gearAt : Room := { frames := 6, cells := 1, slots := 6, locals := 82 }
set_option maxRecDepth 4000 in
theorem c_X7_gearAt {l : Launch} {G : GG} {a : AD} {s t s0 : SS} {L : List (Nat × Nat)}  (hst : l.stackTraces = false) (hG : GOK G) (hL : Live L s0) (x : Int32)  : Mth l yX7_gearAt cX7_gearAt 1 (Option.some (Jvm.ClassFile.FieldType.object "NuggetCamp$Gear")) r_X7_gearAt G (wl a (E G.2.2.1 a s t) L) [.int x] (RI (.ref (G.2.2.1 (20 + tn x))) (wl a (E G.2.2.1 a s t) L) ((0 : Int32) ≤ x ∧ x ≤ 3)) (XW (fun E => E = xA ∧ ¬ ((0 : Int32) ≤ x ∧ x ≤ 3)) (wl a (E G.2.2.1 a s t) L)) := by
  refine mth_of rfl (Nat.le_of_ble_eq_true rfl) hst hG (fun X hX C0 => ?_)
  subst hX
  have C : Cx X G cX7_gearAt 1 RX7 (Option.some (Jvm.ClassFile.FieldType.object "NuggetCamp$Gear")) r_X7_gearAt "gearAt" [] := C0
  clear C0
  show V X G 1 _ 0 0 _ 0 [(0, .int (x))] []
  refine v_iload_n C dX7_gearAt_0 rfl 0 rfl ?_
  refine v_if_lt C (t := 12) dX7_gearAt_1 rfl rfl (fun h1 => ?_) (fun h1 => ?_)
  · skip
    exact v_throw C (E := xA) rfl K_X7_299 ini_A (List.Mem.tail _ (List.Mem.tail _ (List.Mem.tail _ (List.Mem.tail _ (List.Mem.head _))))) (fun _ h => List.mem_append_right _ (List.mem_append_left _ h)) good_A dX7_gearAt_12 dX7_gearAt_15 dX7_gearAt_16 dX7_gearAt_19 dX7_gearAt_22 (by decide) (Nat.le_of_ble_eq_true rfl) (by decide) (by decide) ⟨by refine ⟨rfl, ?_⟩; rw [← lt4]; rintro ⟨q1, q2⟩; first | exact absurd q1 (Int32.not_le.mpr (by assumption)) | exact absurd q2 (by assumption), rfl⟩
  · skip
    refine v_iload_n C dX7_gearAt_4 rfl 0 rfl ?_
    refine v_gets C (v := .ref (G.2.2.1 11)) S_X7_320 (gears_Z C) dX7_gearAt_5 rfl ?_
    refine v_tlen C (v := 4) (gears_T C) rfl dX7_gearAt_8 rfl ?_
    refine v_icmp_lt C (t := 23) dX7_gearAt_9 rfl rfl (fun h2 => ?_) (fun h2 => ?_)
    · skip
      have hP : (0 : Int32) ≤ x ∧ x ≤ 3 := ⟨Int32.not_lt.mp (by assumption), lt4.mp (by assumption)⟩
      refine v_gets C (v := .ref (G.2.2.1 11)) S_X7_320 (gears_Z C) dX7_gearAt_23 rfl ?_
      refine v_iload_n C dX7_gearAt_26 rfl 0 rfl ?_
      refine v_tq C (v := .ref (G.2.2.1 (20 + tn x))) (gears_T C) (vp_rng (n := 3) (N := 4) rfl (by decide) hP) rfl dX7_gearAt_27 rfl ?_
      exact v_aret C (Or.inl ⟨_, rfl⟩) (by decide) (by decide) dX7_gearAt_28 ⟨by rfl, by rfl, by first | assumption | first | rfl | (simp only [h1, Int32.not_lt.mp h1, h2, Int32.not_le.mpr h2, bI, pM, pU, n10, n20, n30, n0, if_true, if_false, ite_true, ite_false, not_true_eq_false, not_false_eq_true, and_true, true_and, and_false, false_and, or_true, true_or, or_false, false_or, reduceIte, and_self, or_self, ne_eq, eq_self_iff_true]; first | done | rfl) | (simp [bI, h1, Int32.not_lt.mp h1, h2, Int32.not_le.mpr h2]; done) | (simp only [bI, ← Int32.not_le] at *; simp [h1, Int32.not_lt.mp h1, h2, Int32.not_le.mpr h2]; done) | (simp_all [bI, h1, Int32.not_lt.mp h1, h2, Int32.not_le.mpr h2]; done) | (simp_all [bI, h1, Int32.not_lt.mp h1, h2, Int32.not_le.mpr h2]; rfl) | (exfalso; omega)⟩
    · skip
      exact v_throw C (E := xA) rfl K_X7_299 ini_A (List.Mem.tail _ (List.Mem.tail _ (List.Mem.tail _ (List.Mem.tail _ (List.Mem.head _))))) (fun _ h => List.mem_append_right _ (List.mem_append_left _ h)) good_A dX7_gearAt_12 dX7_gearAt_15 dX7_gearAt_16 dX7_gearAt_19 dX7_gearAt_22 (by decide) (Nat.le_of_ble_eq_true rfl) (by decide) (by decide) ⟨by refine ⟨rfl, ?_⟩; rw [← lt4]; rintro ⟨q1, q2⟩; first | exact absurd q1 (Int32.not_le.mpr (by assumption)) | exact absurd q2 (by assumption), rfl⟩

abbrev r_X7_isDead : Room := { frames := 3, cells := 0, slots := 0, locals := 64 }
set_option maxRecDepth 4000 in
theorem c_X7_isDead {l : Launch} {G : GG} {a : AD} {s t s0 : SS} {L : List (Nat × Nat)} {nm : Nat} (hst : l.stackTraces = false) (hG : GOK G) (hL : Live L s0) (x : Int32) (j_x : Nat) (e_x : x = nI j_x) (l_x : j_x < nm) (hlm : LsOK a s s0 0 nm) (hm12 : nm ≤ 12) (hv_nm : ∀ i, i < nm → i < tn (s0 12 0)) : Mth l yX7_isDead cX7_isDead 2 (Option.some Jvm.ClassFile.FieldType.boolean) r_X7_isDead G (wl a (E G.2.2.1 a s t) L) [.ref (a 2 0), .int x] (RI (.int (bI (s 17 j_x = 0))) (wl a (E G.2.2.1 a s t) L) (True)) nX := by
  refine mth_of rfl (Nat.le_of_ble_eq_true rfl) hst hG (fun X hX C0 => ?_)
  subst hX
  have C : Cx X G cX7_isDead 2 RX7 (Option.some Jvm.ClassFile.FieldType.boolean) r_X7_isDead "isDead" [] := C0
  clear C0
  show V X G 2 _ 0 0 _ 0 [(0, .ref (a 2 0)), (1, .int (x))] []
  subst e_x
  refine v_aload_n C dX7_isDead_0 rfl 0 rfl ?_
  refine v_iload_n C dX7_isDead_1 rfl 1 rfl ?_
  refine w_invVr C [.int (nI (j_x))] 0 0 L_X7_219 (c_X7_isMiner (s := s) (t := t) (nm := nm) hst hG hL (nI (j_x)) hlm hm12 hv_nm) (m2 (s := s) (t := t) (g := G.2.2.1) hL) rfl rfl rfl rfl dX7_isDead_2 rfl kx_no (fun h1 => ?_)
  refine v_ifB_eq C (t := 29) dX7_isDead_5 rfl rfl (fun h => absurd (mi_of hlm.p0 l_x (by omega)) h) (fun _ => ?_)
  refine v_aload_n C dX7_isDead_8 rfl 0 rfl ?_
  refine v_get C (v := .ref (a 6 0)) g_X7_33 (m2 (s := s) (t := t) (g := G.2.2.1) hL) (rg (by decide) rfl) dX7_isDead_9 rfl ?_
  refine v_iload_n C dX7_isDead_12 rfl 1 rfl ?_
  refine w_invVr C [.int (nI (j_x))] 0 0 L_X7_314 (c_Jx4a65c_get_915e3 (s := s) (t := t) (n := nm) hst hG hL 0 (nI (j_x)) j_x rfl (by omega) (by decide) hlm (by omega)) (m6 (s := s) (t := t) (g := G.2.2.1) hL 0 (by decide)) rfl rfl rfl rfl dX7_isDead_13 rfl kx_no (fun h2 => ?_)
  refine xx_topR (y := a 9 j_x) rfl ?_
  refine v_cast C K_X7_90 rfl (m9 (s := s) (t := t) (g := G.2.2.1) hL j_x (hv_nm _ (by omega))) dX7_isDead_16 rfl ?_
  refine w_invVr C [] 0 0 L_X7_115 (c_X3_isDead (s := s) (t := t)  hst hG hL j_x (hv_nm _ (by omega))) (m9 (s := s) (t := t) (g := G.2.2.1) hL j_x (hv_nm _ (by omega))) rfl rfl rfl rfl dX7_isDead_19 rfl kx_no (fun h3 => ?_)
  refine v_ifB_eq C (t := 29) dX7_isDead_22 rfl rfl (fun h4 => ?_) (fun h4 => ?_)
  · skip
    refine v_iconst C (v := 0) dX7_isDead_29 rfl rfl ?_
    exact v_zret C rfl (by decide) (by decide) dX7_isDead_30 ⟨congrArg (fun z => some (Value.int z)) (by first | rfl | (simp only [h4, bI, pM, pU, n10, n20, n30, n0, if_true, if_false, ite_true, ite_false, not_true_eq_false, not_false_eq_true, and_true, true_and, and_false, false_and, or_true, true_or, or_false, false_or, reduceIte, and_self, or_self, ne_eq, eq_self_iff_true]; first | done | rfl) | (simp [bI, h4]; done) | (simp only [bI, ← Int32.not_le] at *; simp [h4]; done) | (simp_all [bI, h4]; done) | (simp_all [bI, h4]; rfl) | (exfalso; omega)), by rfl, by trivial⟩
  · skip
    refine v_iconst C (v := 1) dX7_isDead_25 rfl rfl ?_
    refine v_goto C (q := 30) dX7_isDead_26 rfl ?_
    exact v_zret C rfl (by decide) (by decide) dX7_isDead_30 ⟨congrArg (fun z => some (Value.int z)) (by first | rfl | (simp only [eq_true h4, bI, pM, pU, n10, n20, n30, n0, if_true, if_false, ite_true, ite_false, not_true_eq_false, not_false_eq_true, and_true, true_and, and_false, false_and, or_true, true_or, or_false, false_or, reduceIte, and_self, or_self, ne_eq, eq_self_iff_true]; first | done | rfl) | (simp [bI, eq_true h4]; done) | (simp only [bI, ← Int32.not_le] at *; simp [eq_true h4]; done) | (simp_all [bI, eq_true h4]; done) | (simp_all [bI, eq_true h4]; rfl) | (exfalso; omega)), by rfl, by trivial⟩

abbrev r_X7_livingMiners : Room := { frames := 4, cells := 0, slots := 0, locals := 85 }
set_option maxRecDepth 4000 in
theorem c_X7_livingMiners {l : Launch} {G : GG} {a : AD} {s t s0 : SS} {L : List (Nat × Nat)} {nm : Nat} (hst : l.stackTraces = false) (hG : GOK G) (hL : Live L s0)  (hlm : LsOK a s s0 0 nm) (hm12 : nm ≤ 12) (hv_nm : ∀ i, i < nm → i < tn (s0 12 0)) : Mth l yX7_livingMiners cX7_livingMiners 3 (Option.some Jvm.ClassFile.FieldType.int) r_X7_livingMiners G (wl a (E G.2.2.1 a s t) L) [.ref (a 2 0)] (RI (.int (livN s nm)) (wl a (E G.2.2.1 a s t) L) (True)) nX := by
  refine mth_of rfl (Nat.le_of_ble_eq_true rfl) hst hG (fun X hX C0 => ?_)
  subst hX
  have C : Cx X G cX7_livingMiners 3 RX7 (Option.some Jvm.ClassFile.FieldType.int) r_X7_livingMiners "livingMiners" [] := C0
  clear C0
  show V X G 3 _ 0 0 _ 0 [(0, .ref (a 2 0))] []
  refine v_iconst C (v := 0) dX7_livingMiners_0 rfl rfl ?_
  refine v_istore_n C (lv1 := [(1, .int (0)), (0, .ref (a 2 0))]) dX7_livingMiners_1 rfl (by decide) rfl ?_
  refine v_iconst C (v := 0) dX7_livingMiners_2 rfl rfl ?_
  refine v_istore_n C (lv1 := [(2, .int (0)), (1, .int (0)), (0, .ref (a 2 0))]) dX7_livingMiners_3 rfl (by decide) rfl ?_
  refine xx_lv [2, 1, 0] (lv' := [(0, .ref (a 2 0)), (1, .int (0)), (2, .int (0))]) rfl ?_
  refine xx_wc (w2 := wl a (E G.2.2.1 a s t) L) (lv' := [(0, .ref (a 2 0)), (1, .int (livN s 0)), (2, .int (nI (0)))]) (by rfl) (by first | rfl | (simp [bI, livN, sumN]; done)) ?_
  refine xx_loop (nm) 0 (fun i => wl a (E G.2.2.1 a s t) L) (fun i => [(0, .ref (a 2 0)), (1, .int (livN s i)), (2, .int (nI (i)))]) (by omega) ?_
  intro i hi0 hiN ih_i
  refine v_iload_n C dX7_livingMiners_4 rfl 2 rfl ?_
  refine v_aload_n C dX7_livingMiners_5 rfl 0 rfl ?_
  refine v_get C (v := .ref (a 6 0)) g_X7_33 (m2 (s := s) (t := t) (g := G.2.2.1) hL) (rg (by decide) rfl) dX7_livingMiners_6 rfl ?_
  refine w_invVr C [] 0 0 L_X7_86 (c_Jx4a65c_size_8abf5 (s := s) (t := t)  hst hG hL 0 (by decide)) (m6 (s := s) (t := t) (g := G.2.2.1) hL 0 (by decide)) rfl rfl rfl rfl dX7_livingMiners_9 rfl kx_no (fun h1 => ?_)
  refine xx_top (y := s 12 0) rfl ?_
  refine xx_top (y := nI nm) hlm.p0 ?_
  refine v_icN_ge C (t := 32) i nm rfl rfl (by omega) (by omega) dX7_livingMiners_12 rfl rfl (fun h2 => ?_) (fun h2 => ?_)
  · skip
    refine v_iload_n C dX7_livingMiners_32 rfl 1 rfl ?_
    exact v_iret C (by decide) (by decide) dX7_livingMiners_33 ⟨congrArg (fun z => some (Value.int z)) (by (have : i = nm := by omega); subst this; rfl), by rfl, by trivial⟩
  · skip
    refine v_aload_n C dX7_livingMiners_15 rfl 0 rfl ?_
    refine v_iload_n C dX7_livingMiners_16 rfl 2 rfl ?_
    refine w_invVr C [.int (nI (i))] 0 0 L_X7_339 (c_X7_isDead (s := s) (t := t) (nm := nm) hst hG hL (nI (i)) i rfl (by omega) hlm hm12 hv_nm) (m2 (s := s) (t := t) (g := G.2.2.1) hL) rfl rfl rfl rfl dX7_livingMiners_17 rfl kx_no (fun h3 => ?_)
    refine v_ifB_ne C (t := 26) dX7_livingMiners_20 rfl rfl (fun h4 => ?_) (fun h4 => ?_)
    · skip
      refine v_iincN C (lv1 := [(2, .int (nI (i + 1))), (0, .ref (a 2 0)), (1, .int (livN s i))]) i rfl dX7_livingMiners_26 rfl 2 rfl (by decide) rfl ?_
      refine v_goto C (q := 4) dX7_livingMiners_29 rfl ?_
      refine xx_lv [1, 2, 0] (lv' := [(0, .ref (a 2 0)), (1, .int (livN s i)), (2, .int (nI (i + 1)))]) rfl ?_
      refine xx_wc (w2 := wl a (E G.2.2.1 a s t) L) (lv' := [(0, .ref (a 2 0)), (1, .int (livN s (i + 1))), (2, .int (nI (i + 1)))]) (by rfl) (by first | rfl | (simp [h2, Nat.not_le.mpr h2, eq_true h4, livN, sumN, Nat.add_assoc])) ?_
      exact ih_i (by omega)
    · skip
      refine v_iinc C (lv1 := [(1, .int ((livN s i) + 1)), (0, .ref (a 2 0)), (2, .int (nI (i)))]) (v := (livN s i) + 1) dX7_livingMiners_23 rfl 1 rfl rfl (by decide) rfl ?_
      refine v_iincN C (lv1 := [(2, .int (nI (i + 1))), (1, .int ((livN s i) + 1)), (0, .ref (a 2 0))]) i rfl dX7_livingMiners_26 rfl 2 rfl (by decide) rfl ?_
      refine v_goto C (q := 4) dX7_livingMiners_29 rfl ?_
      refine xx_lv [2, 1, 0] (lv' := [(0, .ref (a 2 0)), (1, .int ((livN s i) + 1)), (2, .int (nI (i + 1)))]) rfl ?_
      refine xx_wc (w2 := wl a (E G.2.2.1 a s t) L) (lv' := [(0, .ref (a 2 0)), (1, .int (livN s (i + 1))), (2, .int (nI (i + 1)))]) (by rfl) (by first | rfl | (simp [h2, Nat.not_le.mpr h2, h4, livN, sumN, Nat.add_assoc])) ?_
      exact ih_i (by omega)

abbrev r_X7_goldOfMiners : Room := { frames := 3, cells := 0, slots := 0, locals := 64 }
set_option maxRecDepth 4000 in
theorem c_X7_goldOfMiners {l : Launch} {G : GG} {a : AD} {s t s0 : SS} {L : List (Nat × Nat)} {nm : Nat} (hst : l.stackTraces = false) (hG : GOK G) (hL : Live L s0)  (hlm : LsOK a s s0 0 nm) (hm12 : nm ≤ 12) (hv_nm : ∀ i, i < nm → i < tn (s0 12 0)) : Mth l yX7_goldOfMiners cX7_goldOfMiners 3 (Option.some Jvm.ClassFile.FieldType.int) r_X7_goldOfMiners G (wl a (E G.2.2.1 a s t) L) [.ref (a 2 0)] (RI (.int (sumN (s 13) nm)) (wl a (E G.2.2.1 a s t) L) (True)) nX := by
  refine mth_of rfl (Nat.le_of_ble_eq_true rfl) hst hG (fun X hX C0 => ?_)
  subst hX
  have C : Cx X G cX7_goldOfMiners 3 RX7 (Option.some Jvm.ClassFile.FieldType.int) r_X7_goldOfMiners "goldOfMiners" [] := C0
  clear C0
  show V X G 3 _ 0 0 _ 0 [(0, .ref (a 2 0))] []
  refine v_iconst C (v := 0) dX7_goldOfMiners_0 rfl rfl ?_
  refine v_istore_n C (lv1 := [(1, .int (0)), (0, .ref (a 2 0))]) dX7_goldOfMiners_1 rfl (by decide) rfl ?_
  refine v_iconst C (v := 0) dX7_goldOfMiners_2 rfl rfl ?_
  refine v_istore_n C (lv1 := [(2, .int (0)), (1, .int (0)), (0, .ref (a 2 0))]) dX7_goldOfMiners_3 rfl (by decide) rfl ?_
  refine xx_lv [2, 1, 0] (lv' := [(0, .ref (a 2 0)), (1, .int (0)), (2, .int (0))]) rfl ?_
  refine xx_wc (w2 := wl a (E G.2.2.1 a s t) L) (lv' := [(0, .ref (a 2 0)), (1, .int (sumN (s 13) 0)), (2, .int (nI (0)))]) (by rfl) (by first | rfl | (simp [bI, sumN]; done)) ?_
  refine xx_loop (nm) 0 (fun i => wl a (E G.2.2.1 a s t) L) (fun i => [(0, .ref (a 2 0)), (1, .int (sumN (s 13) i)), (2, .int (nI (i)))]) (by omega) ?_
  intro i hi0 hiN ih_i
  refine v_iload_n C dX7_goldOfMiners_4 rfl 2 rfl ?_
  refine v_aload_n C dX7_goldOfMiners_5 rfl 0 rfl ?_
  refine v_get C (v := .ref (a 6 0)) g_X7_33 (m2 (s := s) (t := t) (g := G.2.2.1) hL) (rg (by decide) rfl) dX7_goldOfMiners_6 rfl ?_
  refine w_invVr C [] 0 0 L_X7_86 (c_Jx4a65c_size_8abf5 (s := s) (t := t)  hst hG hL 0 (by decide)) (m6 (s := s) (t := t) (g := G.2.2.1) hL 0 (by decide)) rfl rfl rfl rfl dX7_goldOfMiners_9 rfl kx_no (fun h1 => ?_)
  refine xx_top (y := s 12 0) rfl ?_
  refine xx_top (y := nI nm) hlm.p0 ?_
  refine v_icN_ge C (t := 38) i nm rfl rfl (by omega) (by omega) dX7_goldOfMiners_12 rfl rfl (fun h2 => ?_) (fun h2 => ?_)
  · skip
    refine v_iload_n C dX7_goldOfMiners_38 rfl 1 rfl ?_
    exact v_iret C (by decide) (by decide) dX7_goldOfMiners_39 ⟨congrArg (fun z => some (Value.int z)) (by (have : i = nm := by omega); subst this; rfl), by rfl, by trivial⟩
  · skip
    refine v_iload_n C dX7_goldOfMiners_15 rfl 1 rfl ?_
    refine v_aload_n C dX7_goldOfMiners_16 rfl 0 rfl ?_
    refine v_get C (v := .ref (a 6 0)) g_X7_33 (m2 (s := s) (t := t) (g := G.2.2.1) hL) (rg (by decide) rfl) dX7_goldOfMiners_17 rfl ?_
    refine v_iload_n C dX7_goldOfMiners_20 rfl 2 rfl ?_
    refine w_invVr C [.int (nI (i))] 0 0 L_X7_314 (c_Jx4a65c_get_915e3 (s := s) (t := t) (n := nm) hst hG hL 0 (nI (i)) i rfl (by omega) (by decide) hlm (by omega)) (m6 (s := s) (t := t) (g := G.2.2.1) hL 0 (by decide)) rfl rfl rfl rfl dX7_goldOfMiners_21 rfl kx_no (fun h3 => ?_)
    refine xx_topR (y := a 9 i) rfl ?_
    refine v_cast C K_X7_90 rfl (m9 (s := s) (t := t) (g := G.2.2.1) hL i (hv_nm _ (by omega))) dX7_goldOfMiners_24 rfl ?_
    refine v_get C (v := .int (s 13 i)) g_X7_166 (m9 (s := s) (t := t) (g := G.2.2.1) hL i (hv_nm _ (by omega))) (rg (by decide) rfl) dX7_goldOfMiners_27 rfl ?_
    refine v_iadd C dX7_goldOfMiners_30 rfl ?_
    refine v_istore_n C (lv1 := [(1, .int ((sumN (s 13) i) + (s 13 i))), (0, .ref (a 2 0)), (2, .int (nI (i)))]) dX7_goldOfMiners_31 rfl (by decide) rfl ?_
    refine v_iincN C (lv1 := [(2, .int (nI (i + 1))), (1, .int ((sumN (s 13) i) + (s 13 i))), (0, .ref (a 2 0))]) i rfl dX7_goldOfMiners_32 rfl 2 rfl (by decide) rfl ?_
    refine v_goto C (q := 4) dX7_goldOfMiners_35 rfl ?_
    refine xx_lv [2, 1, 0] (lv' := [(0, .ref (a 2 0)), (1, .int ((sumN (s 13) i) + (s 13 i))), (2, .int (nI (i + 1)))]) rfl ?_
    refine xx_wc (w2 := wl a (E G.2.2.1 a s t) L) (lv' := [(0, .ref (a 2 0)), (1, .int (sumN (s 13) (i + 1))), (2, .int (nI (i + 1)))]) (by rfl) (by first | rfl | (simp [h2, Nat.not_le.mpr h2, sumN, Nat.add_assoc])) ?_
    exact ih_i (by omega)

abbrev r_X7_shareOut : Room := { frames := 3, cells := 0, slots := 0, locals := 64 }
set_option maxRecDepth 4000 in
theorem c_X7_shareOut {l : Launch} {G : GG} {a : AD} {s t s0 : SS} {L : List (Nat × Nat)} {nm : Nat} (hst : l.stackTraces = false) (hG : GOK G) (hL : Live L s0) (i_w_ : Nat) (m : Int32) (hlm : LsOK a s s0 0 nm) (hm12 : nm ≤ 12) (hv_nm : ∀ i, i < nm → i < tn (s0 12 0)) (hw : i_w_ < nm) : Mth l yX7_shareOut cX7_shareOut 6 (Option.none : Option Jvm.ClassFile.FieldType) r_X7_shareOut G (wl a (E G.2.2.1 a s t) L) [.ref (a 2 0), .ref (a 9 i_w_), .int m] (RV (wl a (E G.2.2.1 a (shaF s i_w_ m nm) t) L) (True)) nX := by
  refine mth_of rfl (Nat.le_of_ble_eq_true rfl) hst hG (fun X hX C0 => ?_)
  subst hX
  have C : Cx X G cX7_shareOut 6 RX7 (Option.none : Option Jvm.ClassFile.FieldType) r_X7_shareOut "shareOut" [] := C0
  clear C0
  show V X G 6 _ 0 0 _ 0 [(0, .ref (a 2 0)), (1, .ref (a 9 i_w_)), (2, .int (m))] []
  refine v_iload_n C dX7_shareOut_0 rfl 2 rfl ?_
  refine v_istore_n C (lv1 := [(3, .int (m)), (0, .ref (a 2 0)), (1, .ref (a 9 i_w_)), (2, .int (m))]) dX7_shareOut_1 rfl (by decide) rfl ?_
  refine v_iconst C (v := 0) dX7_shareOut_2 rfl rfl ?_
  refine v_istore C (lv1 := [(4, .int (0)), (3, .int (m)), (0, .ref (a 2 0)), (1, .ref (a 9 i_w_)), (2, .int (m))]) dX7_shareOut_3 rfl (by decide) rfl ?_
  refine xx_lv [2, 3, 4, 1, 0] (lv' := [(0, .ref (a 2 0)), (1, .ref (a 9 i_w_)), (2, .int (m)), (3, .int (m)), (4, .int (0))]) rfl ?_
  refine xx_wc (w2 := wl a (E G.2.2.1 a (shW s i_w_ m 0) t) L) (lv' := [(0, .ref (a 2 0)), (1, .ref (a 9 i_w_)), (2, .int (m)), (3, .int (shL s i_w_ m 0)), (4, .int (nI (0)))]) (by rfl) (by first | rfl | (simp [bI, shW, shL]; done)) ?_
  refine xx_loop (nm) 0 (fun i => wl a (E G.2.2.1 a (shW s i_w_ m i) t) L) (fun i => [(0, .ref (a 2 0)), (1, .ref (a 9 i_w_)), (2, .int (m)), (3, .int (shL s i_w_ m i)), (4, .int (nI (i)))]) (by omega) ?_
  intro i hi0 hiN ih_i
  refine v_iload C dX7_shareOut_5 rfl 4 rfl ?_
  refine v_aload_n C dX7_shareOut_7 rfl 0 rfl ?_
  refine v_get C (v := .ref (a 6 0)) g_X7_33 (m2 (s := ((shW s i_w_ m i))) (t := t) (g := G.2.2.1) hL) (rg (by decide) rfl) dX7_shareOut_8 rfl ?_
  refine w_invVr C [] 0 0 L_X7_86 (c_Jx4a65c_size_8abf5 (s := ((shW s i_w_ m i))) (t := t)  hst hG hL 0 (by decide)) (m6 (s := ((shW s i_w_ m i))) (t := t) (g := G.2.2.1) hL 0 (by decide)) rfl rfl rfl rfl dX7_shareOut_11 rfl kx_no (fun h1 => ?_)
  refine xx_top (y := (shW s i_w_ m i) 12 0) rfl ?_
  refine xx_top (y := s 12 0) (congrFun (shW_o (k := 12) (by decide) _) _) ?_
  refine xx_top (y := nI nm) hlm.p0 ?_
  refine v_icN_ge C (t := 63) i nm rfl rfl (by omega) (by omega) dX7_shareOut_14 rfl rfl (fun h2 => ?_) (fun h2 => ?_)
  · skip
    refine v_aload_n C dX7_shareOut_63 rfl 1 rfl ?_
    refine v_dup C dX7_shareOut_64 rfl rfl ?_
    refine v_get C (v := .int ((shW s i_w_ m i) 13 i_w_)) g_X7_166 (m9 (s := ((shW s i_w_ m i))) (t := t) (g := G.2.2.1) hL i_w_ (hv_nm _ (by omega))) (rg (by decide) rfl) dX7_shareOut_65 rfl ?_
    refine v_iload_n C dX7_shareOut_68 rfl 3 rfl ?_
    refine v_iadd C dX7_shareOut_69 rfl ?_
    refine v_put C f_X7_166 (put_n (s := ((shW s i_w_ m i))) (t := t) (g := G.2.2.1) hL 2 (by decide) (by decide) i_w_ (hv_nm _ (by omega)) (((shW s i_w_ m i) 13 i_w_) + (shL s i_w_ m i))) rfl rfl (rg_len (by decide)) dX7_shareOut_70 rfl ?_
    refine xx_w (w' := wl a (E G.2.2.1 a (su (shW s i_w_ m i) 13 i_w_ (((shW s i_w_ m i) 13 i_w_) + (shL s i_w_ m i))) t) L) rfl ?_
    exact v_vret C (by decide) (by decide) dX7_shareOut_73 ⟨rfl, by (have : i = nm := by omega); subst this; rfl, by trivial⟩
  · skip
    refine v_iload_n C dX7_shareOut_17 rfl 2 rfl ?_
    refine v_aload_n C dX7_shareOut_18 rfl 1 rfl ?_
    refine v_iload C dX7_shareOut_19 rfl 4 rfl ?_
    refine w_invVr C [.int (nI (i))] 0 0 L_X7_210 (c_X3_percentOf (s := ((shW s i_w_ m i))) (t := t)  hst hG hL i_w_ (nI (i)) i rfl (by omega) (hv_nm _ (by omega))) (m9 (s := ((shW s i_w_ m i))) (t := t) (g := G.2.2.1) hL i_w_ (hv_nm _ (by omega))) rfl rfl rfl rfl dX7_shareOut_21 rfl kx_no (fun h3 => ?_)
    refine xx_top (y := s 20 (12 * i_w_ + i)) (congrFun (shW_o (k := 20) (by decide) _) _) ?_
    refine v_imul C dX7_shareOut_24 rfl ?_
    refine v_bipush C (v := 100) dX7_shareOut_25 rfl rfl ?_
    refine v_idiv C dX7_shareOut_27 rfl (by decide) ?_
    refine v_istore C (lv1 := [(5, .int ((m * (s 20 (12 * i_w_ + i))) / 100)), (0, .ref (a 2 0)), (1, .ref (a 9 i_w_)), (2, .int (m)), (3, .int (shL s i_w_ m i)), (4, .int (nI (i)))]) dX7_shareOut_28 rfl (by decide) rfl ?_
    refine v_aload_n C dX7_shareOut_30 rfl 1 rfl ?_
    refine v_get C (v := .ref (a 6 0)) g_X7_33 (m2 (s := ((shW s i_w_ m i))) (t := t) (g := G.2.2.1) hL) (rg (by decide) rfl) dX7_shareOut_31 rfl ?_
    refine v_iload C dX7_shareOut_34 rfl 5 rfl ?_
    refine w_invVr C [.int (nI (i))] 0 0 L_X7_314 (c_Jx4a65c_get_915e3 (s := ((shW s i_w_ m i))) (t := t) (n := nm) hst hG hL 0 (nI (i)) i rfl (by omega) (by decide) (LsOK.c (congrFun (shW_o (k := 12) (by decide) _) 0) hlm) (by omega)) (m6 (s := ((shW s i_w_ m i))) (t := t) (g := G.2.2.1) hL 0 (by decide)) rfl rfl rfl rfl dX7_shareOut_36 rfl kx_no (fun h4 => ?_)
    refine xx_topR (y := a 9 i) rfl ?_
    refine v_cast C K_X7_90 rfl (m9 (s := ((shW s i_w_ m i))) (t := t) (g := G.2.2.1) hL i (hv_nm _ (by omega))) dX7_shareOut_39 rfl ?_
    refine v_dup C dX7_shareOut_42 rfl rfl ?_
    refine v_get C (v := .int ((shW s i_w_ m i) 13 i)) g_X7_166 (m9 (s := ((shW s i_w_ m i))) (t := t) (g := G.2.2.1) hL i (hv_nm _ (by omega))) (rg (by decide) rfl) dX7_shareOut_43 rfl ?_
    refine v_iload C dX7_shareOut_46 rfl 0 rfl ?_
    refine v_iadd C dX7_shareOut_48 rfl ?_
    refine v_put C f_X7_166 (put_n (s := ((shW s i_w_ m i))) (t := t) (g := G.2.2.1) hL 2 (by decide) (by decide) i (hv_nm _ (by omega)) (((shW s i_w_ m i) 13 i) + ((m * (s 20 (12 * i_w_ + i))) / 100))) rfl rfl (rg_len (by decide)) dX7_shareOut_49 rfl ?_
    refine xx_w (w' := wl a (E G.2.2.1 a (su (shW s i_w_ m i) 13 i (((shW s i_w_ m i) 13 i) + ((m * (s 20 (12 * i_w_ + i))) / 100))) t) L) rfl ?_
    refine v_iload_n C dX7_shareOut_52 rfl 4 rfl ?_
    refine v_iload C dX7_shareOut_53 rfl 0 rfl ?_
    refine v_isub C dX7_shareOut_55 rfl ?_
    refine v_istore_n C (lv1 := [(3, .int ((shL s i_w_ m i) - ((m * (s 20 (12 * i_w_ + i))) / 100))), (5, .int ((m * (s 20 (12 * i_w_ + i))) / 100)), (0, .ref (a 2 0)), (1, .ref (a 9 i_w_)), (2, .int (m)), (4, .int (nI (i)))]) dX7_shareOut_56 rfl (by decide) rfl ?_
    refine v_iincN C (lv1 := [(4, .int (nI (i + 1))), (3, .int ((shL s i_w_ m i) - ((m * (s 20 (12 * i_w_ + i))) / 100))), (5, .int ((m * (s 20 (12 * i_w_ + i))) / 100)), (0, .ref (a 2 0)), (1, .ref (a 9 i_w_)), (2, .int (m))]) i rfl dX7_shareOut_57 rfl 5 rfl (by decide) rfl ?_
    refine v_goto C (q := 5) dX7_shareOut_60 rfl ?_
    refine xx_lv [3, 4, 5, 1, 0] (lv' := [(0, .ref (a 2 0)), (1, .ref (a 9 i_w_)), (2, .int (m)), (3, .int ((shL s i_w_ m i) - ((m * (s 20 (12 * i_w_ + i))) / 100))), (4, .int (nI (i + 1)))]) rfl ?_
    refine xx_wc (w2 := wl a (E G.2.2.1 a (shW s i_w_ m (i + 1)) t) L) (lv' := [(0, .ref (a 2 0)), (1, .ref (a 9 i_w_)), (2, .int (m)), (3, .int (shL s i_w_ m (i + 1))), (4, .int (nI (i + 1)))]) (by first | rfl | (simp [h2, Nat.not_le.mpr h2, shW, shL])) (by first | rfl | (simp [h2, Nat.not_le.mpr h2, shW, shL, Nat.add_assoc])) ?_
    exact ih_i (by omega)

abbrev r_X7_claimHolding : Room := { frames := 3, cells := 0, slots := 0, locals := 64 }
set_option maxRecDepth 4000 in
theorem c_X7_claimHolding {l : Launch} {G : GG} {a : AD} {s t s0 : SS} {L : List (Nat × Nat)} {nc : Nat} (hst : l.stackTraces = false) (hG : GOK G) (hL : Live L s0) (x : Int32) (hlc : LsOK a s s0 1 nc) (hv_nc : ∀ i, i < nc → i < tn (s0 21 0)) : Mth l yX7_claimHolding cX7_claimHolding 4 (Option.some Jvm.ClassFile.FieldType.int) r_X7_claimHolding G (wl a (E G.2.2.1 a s t) L) [.ref (a 2 0), .int x] (RI (.int (heldC s x nc)) (wl a (E G.2.2.1 a s t) L) (True)) nX := by
  refine mth_of rfl (Nat.le_of_ble_eq_true rfl) hst hG (fun X hX C0 => ?_)
  subst hX
  have C : Cx X G cX7_claimHolding 4 RX7 (Option.some Jvm.ClassFile.FieldType.int) r_X7_claimHolding "claimHolding" [] := C0
  clear C0
  show V X G 4 _ 0 0 _ 0 [(0, .ref (a 2 0)), (1, .int (x))] []
  have hc30 := hlc.2.1
  refine v_iconst C (v := 0) dX7_claimHolding_0 rfl rfl ?_
  refine v_istore_n C (lv1 := [(2, .int (0)), (0, .ref (a 2 0)), (1, .int (x))]) dX7_claimHolding_1 rfl (by decide) rfl ?_
  refine xx_lv [1, 2, 0] (lv' := [(0, .ref (a 2 0)), (1, .int (x)), (2, .int (0))]) rfl ?_
  refine xx_wc (w2 := wl a (E G.2.2.1 a s t) L) (lv' := [(0, .ref (a 2 0)), (1, .int (x)), (2, .int (nI (0)))]) (by rfl) (by first | rfl | (simp [bI, heldC]; done)) ?_
  refine xx_loopP (nc) 0 (fun i => wl a (E G.2.2.1 a s t) L) (fun i => [(0, .ref (a 2 0)), (1, .int (x)), (2, .int (nI (i)))]) (fun i => heldC s x i = -1) (by omega) (rfl) ?_
  intro i hi0 hiN hinv ih_i
  refine v_iload_n C dX7_claimHolding_2 rfl 2 rfl ?_
  refine v_aload_n C dX7_claimHolding_3 rfl 0 rfl ?_
  refine v_get C (v := .ref (a 6 1)) g_X7_37 (m2 (s := s) (t := t) (g := G.2.2.1) hL) (rg (by decide) rfl) dX7_claimHolding_4 rfl ?_
  refine w_invVr C [] 0 0 L_X7_86 (c_Jx4a65c_size_8abf5 (s := s) (t := t)  hst hG hL 1 (by decide)) (m6 (s := s) (t := t) (g := G.2.2.1) hL 1 (by decide)) rfl rfl rfl rfl dX7_claimHolding_7 rfl kx_no (fun h1 => ?_)
  refine xx_top (y := s 21 0) rfl ?_
  refine xx_top (y := nI nc) hlc.p1 ?_
  refine v_icN_ge C (t := 48) i nc rfl rfl (by omega) (by omega) dX7_claimHolding_10 rfl rfl (fun h2 => ?_) (fun h2 => ?_)
  · skip
    refine v_iconst C (v := (-1)) dX7_claimHolding_48 rfl rfl ?_
    exact v_iret C (by decide) (by decide) dX7_claimHolding_49 ⟨congrArg (fun z => some (Value.int z)) (by first | ((have : i = nc := by omega); subst this; exact hinv.symm) | (exfalso; omega)), by rfl, by trivial⟩
  · skip
    refine v_aload_n C dX7_claimHolding_13 rfl 0 rfl ?_
    refine v_get C (v := .ref (a 6 1)) g_X7_37 (m2 (s := s) (t := t) (g := G.2.2.1) hL) (rg (by decide) rfl) dX7_claimHolding_14 rfl ?_
    refine v_iload_n C dX7_claimHolding_17 rfl 2 rfl ?_
    refine w_invVr C [.int (nI (i))] 0 0 L_X7_314 (c_Jx4a65c_get_915e3 (s := s) (t := t) (n := nc) hst hG hL 1 (nI (i)) i rfl (by omega) (by decide) hlc (by omega)) (m6 (s := s) (t := t) (g := G.2.2.1) hL 1 (by decide)) rfl rfl rfl rfl dX7_claimHolding_18 rfl kx_no (fun h3 => ?_)
    refine xx_topR (y := a 12 i) rfl ?_
    refine v_cast C K_X7_123 rfl (m12 (s := s) (t := t) (g := G.2.2.1) hL i (hv_nc _ (by omega))) dX7_claimHolding_21 rfl ?_
    refine v_astore_n C (lv1 := [(3, .ref (a 12 i)), (0, .ref (a 2 0)), (1, .int (x)), (2, .int (nI (i)))]) dX7_claimHolding_24 rfl (by decide) rfl ?_
    refine v_aload_n C dX7_claimHolding_25 rfl 0 rfl ?_
    refine v_get C (v := .int (s 25 i)) g_X7_226 (m12 (s := s) (t := t) (g := G.2.2.1) hL i (hv_nc _ (by omega))) (rg (by decide) rfl) dX7_claimHolding_26 rfl ?_
    refine v_if_eq C (t := 42) dX7_claimHolding_29 rfl rfl (fun h4 => ?_) (fun h4 => ?_)
    · skip
      refine v_iincN C (lv1 := [(2, .int (nI (i + 1))), (3, .ref (a 12 i)), (0, .ref (a 2 0)), (1, .int (x))]) i rfl dX7_claimHolding_42 rfl 3 rfl (by decide) rfl ?_
      refine v_goto C (q := 2) dX7_claimHolding_45 rfl ?_
      refine xx_lv [2, 3, 0] (lv' := [(0, .ref (a 2 0)), (1, .int (x)), (2, .int (nI (i + 1)))]) rfl ?_
      refine xx_wc (w2 := wl a (E G.2.2.1 a s t) L) (lv' := [(0, .ref (a 2 0)), (1, .int (x)), (2, .int (nI (i + 1)))]) (by rfl) (by first | rfl | (simp [h2, Nat.not_le.mpr h2, eq_true h4, heldC, Nat.add_assoc])) ?_
      exact ih_i (by omega) (by simp only [heldC, hinv, h2, Nat.not_le.mpr h2, eq_true h4, if_true, if_false, not_true_eq_false, not_false_eq_true, true_and, false_and, and_false])
    · skip
      refine v_aload_n C dX7_claimHolding_32 rfl 0 rfl ?_
      refine v_iload_n C dX7_claimHolding_33 rfl 2 rfl ?_
      refine w_invVr C [.int (x)] 0 0 L_X7_341 (c_X0_covers (s := s) (t := t)  hst hG hL i x (hv_nc _ (by omega))) (m12 (s := s) (t := t) (g := G.2.2.1) hL i (hv_nc _ (by omega))) rfl rfl rfl rfl dX7_claimHolding_34 rfl kx_no (fun h5 => ?_)
      refine v_ifB_eq C (t := 42) dX7_claimHolding_37 rfl rfl (fun h6 => ?_) (fun h6 => ?_)
      · skip
        refine v_iincN C (lv1 := [(2, .int (nI (i + 1))), (3, .ref (a 12 i)), (0, .ref (a 2 0)), (1, .int (x))]) i rfl dX7_claimHolding_42 rfl 3 rfl (by decide) rfl ?_
        refine v_goto C (q := 2) dX7_claimHolding_45 rfl ?_
        refine xx_lv [2, 3, 0] (lv' := [(0, .ref (a 2 0)), (1, .int (x)), (2, .int (nI (i + 1)))]) rfl ?_
        refine xx_wc (w2 := wl a (E G.2.2.1 a s t) L) (lv' := [(0, .ref (a 2 0)), (1, .int (x)), (2, .int (nI (i + 1)))]) (by rfl) (by first | rfl | (simp [h2, Nat.not_le.mpr h2, h4, h6, heldC, Nat.add_assoc])) ?_
        exact ih_i (by omega) (by simp only [heldC, hinv, h2, Nat.not_le.mpr h2, h4, h6, if_true, if_false, not_true_eq_false, not_false_eq_true, true_and, false_and, and_false])
      · skip
        refine v_iload_n C dX7_claimHolding_40 rfl 3 rfl ?_
        exact v_iret C (by decide) (by decide) dX7_claimHolding_41 ⟨congrArg (fun z => some (Value.int z)) (by (have hd : i + 1 + (nc - (i + 1)) = nc := by omega); rw [← hd]; exact (heldC_up (by omega) (by simp only [heldC, hinv, h2, Nat.not_le.mpr h2, h4, h6, if_true, not_false_eq_true, and_self]) _).symm), by rfl, by trivial⟩

abbrev r_X7_areFree : Room := { frames := 4, cells := 0, slots := 0, locals := 87 }
set_option maxRecDepth 4000 in
theorem c_X7_areFree {l : Launch} {G : GG} {a : AD} {s t s0 : SS} {L : List (Nat × Nat)} {nc : Nat} (hst : l.stackTraces = false) (hG : GOK G) (hL : Live L s0) (x : Int32) (j_x : Nat) (e_x : x = nI j_x) (l_x : j_x < 40) (m : Int32) (j_m : Nat) (e_m : m = nI j_m) (l_m : j_m < 11) (hlc : LsOK a s s0 1 nc) (hv_nc : ∀ i, i < nc → i < tn (s0 21 0)) : Mth l yX7_areFree cX7_areFree 4 (Option.some Jvm.ClassFile.FieldType.boolean) r_X7_areFree G (wl a (E G.2.2.1 a s t) L) [.ref (a 2 0), .int x, .int m] (RI (.int (freeC s j_x nc j_m)) (wl a (E G.2.2.1 a s t) L) (True)) nX := by
  refine mth_of rfl (Nat.le_of_ble_eq_true rfl) hst hG (fun X hX C0 => ?_)
  subst hX
  have C : Cx X G cX7_areFree 4 RX7 (Option.some Jvm.ClassFile.FieldType.boolean) r_X7_areFree "areFree" [] := C0
  clear C0
  show V X G 4 _ 0 0 _ 0 [(0, .ref (a 2 0)), (1, .int (x)), (2, .int (m))] []
  subst e_x
  subst e_m
  have hc30 := hlc.2.1
  refine v_iconst C (v := 0) dX7_areFree_0 rfl rfl ?_
  refine v_istore_n C (lv1 := [(3, .int (0)), (0, .ref (a 2 0)), (1, .int (nI (j_x))), (2, .int (nI (j_m)))]) dX7_areFree_1 rfl (by decide) rfl ?_
  refine xx_lv [1, 2, 3, 0] (lv' := [(0, .ref (a 2 0)), (1, .int (nI (j_x))), (2, .int (nI (j_m))), (3, .int (0))]) rfl ?_
  refine xx_wc (w2 := wl a (E G.2.2.1 a s t) L) (lv' := [(0, .ref (a 2 0)), (1, .int (nI (j_x))), (2, .int (nI (j_m))), (3, .int (nI (0)))]) (by rfl) (by first | rfl | (simp [bI, freeC]; done)) ?_
  refine xx_loopP (j_m) 0 (fun i => wl a (E G.2.2.1 a s t) L) (fun i => [(0, .ref (a 2 0)), (1, .int (nI (j_x))), (2, .int (nI (j_m))), (3, .int (nI (i)))]) (fun i => freeC s j_x nc i = 1) (by omega) (rfl) ?_
  intro i hi0 hiN hinv ih_i
  refine v_iload_n C dX7_areFree_2 rfl 3 rfl ?_
  refine v_iload_n C dX7_areFree_3 rfl 2 rfl ?_
  refine v_icN_ge C (t := 26) i j_m rfl rfl (by omega) (by omega) dX7_areFree_4 rfl rfl (fun h1 => ?_) (fun h1 => ?_)
  · skip
    refine v_iconst C (v := 1) dX7_areFree_26 rfl rfl ?_
    exact v_zret C rfl (by decide) (by decide) dX7_areFree_27 ⟨congrArg (fun z => some (Value.int z)) (by first | ((have : i = j_m := by omega); subst this; exact hinv.symm) | (exfalso; omega)), by rfl, by trivial⟩
  · skip
    refine v_aload_n C dX7_areFree_7 rfl 0 rfl ?_
    refine v_iload_n C dX7_areFree_8 rfl 1 rfl ?_
    refine v_iload_n C dX7_areFree_9 rfl 3 rfl ?_
    refine v_iaddN C j_x i rfl rfl dX7_areFree_10 rfl ?_
    refine w_invVr C [.int (nI (j_x + i))] 0 0 L_X7_135 (c_X7_claimHolding (s := s) (t := t) (nc := nc) hst hG hL (nI (j_x + i)) hlc hv_nc) (m2 (s := s) (t := t) (g := G.2.2.1) hL) rfl rfl rfl rfl dX7_areFree_11 rfl kx_no (fun h2 => ?_)
    refine v_iconst C (v := (-1)) dX7_areFree_14 rfl rfl ?_
    refine v_icmp_eq C (t := 20) dX7_areFree_15 rfl rfl (fun h3 => ?_) (fun h3 => ?_)
    · skip
      refine v_iincN C (lv1 := [(3, .int (nI (i + 1))), (0, .ref (a 2 0)), (1, .int (nI (j_x))), (2, .int (nI (j_m)))]) i rfl dX7_areFree_20 rfl 3 rfl (by decide) rfl ?_
      refine v_goto C (q := 2) dX7_areFree_23 rfl ?_
      refine xx_lv [1, 2, 3, 0] (lv' := [(0, .ref (a 2 0)), (1, .int (nI (j_x))), (2, .int (nI (j_m))), (3, .int (nI (i + 1)))]) rfl ?_
      refine xx_wc (w2 := wl a (E G.2.2.1 a s t) L) (lv' := [(0, .ref (a 2 0)), (1, .int (nI (j_x))), (2, .int (nI (j_m))), (3, .int (nI (i + 1)))]) (by rfl) (by first | rfl | (simp [h1, Nat.not_le.mpr h1, eq_true h3, freeC, Nat.add_assoc])) ?_
      exact ih_i (by omega) (by unfold freeC; rw [hinv, if_neg (by decide), if_pos (by assumption)])
    · skip
      refine v_iconst C (v := 0) dX7_areFree_18 rfl rfl ?_
      exact v_zret C rfl (by decide) (by decide) dX7_areFree_19 ⟨congrArg (fun z => some (Value.int z)) (by (have hd : i + 1 + (j_m - (i + 1)) = j_m := by omega); rw [← hd]; exact (freeC_up (by unfold freeC; rw [hinv, if_neg (by decide), if_neg (by assumption)]) _).symm), by rfl, by trivial⟩

abbrev r_X7_mayUse : Room := { frames := 7, cells := 1, slots := 6, locals := 103 }
set_option maxRecDepth 4000 in
theorem c_X7_mayUse {l : Launch} {G : GG} {a : AD} {s t s0 : SS} {L : List (Nat × Nat)} {nc : Nat} (hst : l.stackTraces = false) (hG : GOK G) (hL : Live L s0) (g_g : Nat) (l_g : g_g < 4) (x : Int32) (c : Int32) (hlc : LsOK a s s0 1 nc) (hv_nc : ∀ i, i < nc → i < tn (s0 21 0)) (hcl : c = -1 ∨ ((0 : Int32) ≤ c ∧ c ≤ s 21 0 - 1)) : Mth l yX7_mayUse cX7_mayUse 4 (Option.some Jvm.ClassFile.FieldType.boolean) r_X7_mayUse G (wl a (E G.2.2.1 a s t) L) [.ref (a 2 0), .ref (G.2.2.1 (20 + g_g)), .int x, .int c] (RI (.int (mayG s g_g x c)) (wl a (E G.2.2.1 a s t) L) (True)) nX := by
  refine mth_of rfl (Nat.le_of_ble_eq_true rfl) hst hG (fun X hX C0 => ?_)
  subst hX
  have C : Cx X G cX7_mayUse 4 RX7 (Option.some Jvm.ClassFile.FieldType.boolean) r_X7_mayUse "mayUse" [] := C0
  clear C0
  show V X G 4 _ 0 0 _ 0 [(0, .ref (a 2 0)), (1, .ref (G.2.2.1 (20 + g_g))), (2, .int (x)), (3, .int (c))] []
  have hc30 := hlc.2.1
  refine v_iload_n C dX7_mayUse_0 rfl 3 rfl ?_
  refine v_iconst C (v := (-1)) dX7_mayUse_1 rfl rfl ?_
  refine v_icmp_ne C (t := 20) dX7_mayUse_2 rfl rfl (fun h1 => ?_) (fun h1 => ?_)
  · skip
    refine v_aload_n C dX7_mayUse_20 rfl 0 rfl ?_
    refine v_iload_n C dX7_mayUse_21 rfl 3 rfl ?_
    refine w_invVr C [.int (c)] 1 6 L_X7_157 (c_X7_claimAt (s := s) (t := t) (nc := nc) hst hG hL c hlc hv_nc) (m2 (s := s) (t := t) (g := G.2.2.1) hL) rfl rfl rfl rfl dX7_mayUse_22 rfl (fun E w1 hE => absurd (hcl.resolve_left (by assumption)) hE.1.2) (fun h2 => ?_)
    have lh2 : tn c < nc := in_lt (vp_cnt h2 hlc.p1 (Nat.le_refl _) (by omega))
    refine v_get C (v := .int (s 22 (tn c))) g_X7_223 (m12 (s := s) (t := t) (g := G.2.2.1) hL (tn c) (hv_nc _ (by omega))) (rg (by decide) rfl) dX7_mayUse_25 rfl ?_
    refine v_iload_n C dX7_mayUse_28 rfl 2 rfl ?_
    refine v_icmp_ne C (t := 36) dX7_mayUse_29 rfl rfl (fun h3 => ?_) (fun h3 => ?_)
    · skip
      refine v_iconst C (v := 0) dX7_mayUse_36 rfl rfl ?_
      exact v_zret C rfl (by decide) (by decide) dX7_mayUse_37 ⟨congrArg (fun z => some (Value.int z)) (by first | (simp only [mayG, h1, h2, h3, if_true, if_false]; done) | (rw [mayG, if_pos (by assumption)]; first | rw [if_pos (gear0 C (by omega) (by assumption))] | rw [if_neg (fun e => by subst e; exact absurd rfl (by assumption))])), by rfl, by trivial⟩
    · skip
      refine v_iconst C (v := 1) dX7_mayUse_32 rfl rfl ?_
      refine v_goto C (q := 37) dX7_mayUse_33 rfl ?_
      exact v_zret C rfl (by decide) (by decide) dX7_mayUse_37 ⟨congrArg (fun z => some (Value.int z)) (by first | (simp only [mayG, h1, h2, eq_true h3, if_true, if_false]; done) | (rw [mayG, if_pos (by assumption)]; first | rw [if_pos (gear0 C (by omega) (by assumption))] | rw [if_neg (fun e => by subst e; exact absurd rfl (by assumption))])), by rfl, by trivial⟩
  · skip
    refine v_aload_n C dX7_mayUse_5 rfl 1 rfl ?_
    refine v_gets C (v := .ref (G.2.2.1 (20 + 0))) S_X7_344 (pan_Z C) dX7_mayUse_6 rfl ?_
    refine v_acmp_ne C (t := 16) dX7_mayUse_9 rfl rfl (fun h4 => ?_) (fun h4 => ?_)
    · skip
      refine v_iconst C (v := 0) dX7_mayUse_16 rfl rfl ?_
      refine v_goto C (q := 37) dX7_mayUse_17 rfl ?_
      exact v_zret C rfl (by decide) (by decide) dX7_mayUse_37 ⟨congrArg (fun z => some (Value.int z)) (by first | (simp only [mayG, eq_true h1, h4, if_true, if_false]; done) | (rw [mayG, if_pos (by assumption)]; first | rw [if_pos (gear0 C (by omega) (by assumption))] | rw [if_neg (fun e => by subst e; exact absurd rfl (by assumption))])), by rfl, by trivial⟩
    · skip
      refine v_iconst C (v := 1) dX7_mayUse_12 rfl rfl ?_
      refine v_goto C (q := 37) dX7_mayUse_13 rfl ?_
      exact v_zret C rfl (by decide) (by decide) dX7_mayUse_37 ⟨congrArg (fun z => some (Value.int z)) (by first | (simp only [mayG, eq_true h1, eq_true h4, if_true, if_false]; done) | (rw [mayG, if_pos (by assumption)]; first | rw [if_pos (gear0 C (by omega) (by assumption))] | rw [if_neg (fun e => by subst e; exact absurd rfl (by assumption))])), by rfl, by trivial⟩

abbrev r_X7_spoilSalesOfToday : Room := { frames := 3, cells := 0, slots := 0, locals := 64 }
set_option maxRecDepth 4000 in
theorem c_X7_spoilSalesOfToday {l : Launch} {G : GG} {a : AD} {s t s0 : SS} {L : List (Nat × Nat)} {nc : Nat} (hst : l.stackTraces = false) (hG : GOK G) (hL : Live L s0) (x : Int32) (c : Int32) (hlc : LsOK a s s0 1 nc) (hv_nc : ∀ i, i < nc → i < tn (s0 21 0)) : Mth l yX7_spoilSalesOfToday cX7_spoilSalesOfToday 5 (Option.none : Option Jvm.ClassFile.FieldType) r_X7_spoilSalesOfToday G (wl a (E G.2.2.1 a s t) L) [.ref (a 2 0), .int x, .int c] (RV (wl a (E G.2.2.1 a (spW s x c nc) t) L) (True)) nX := by
  refine mth_of rfl (Nat.le_of_ble_eq_true rfl) hst hG (fun X hX C0 => ?_)
  subst hX
  have C : Cx X G cX7_spoilSalesOfToday 5 RX7 (Option.none : Option Jvm.ClassFile.FieldType) r_X7_spoilSalesOfToday "spoilSalesOfToday" [] := C0
  clear C0
  show V X G 5 _ 0 0 _ 0 [(0, .ref (a 2 0)), (1, .int (x)), (2, .int (c))] []
  have hc30 := hlc.2.1
  refine v_iconst C (v := 0) dX7_spoilSalesOfToday_0 rfl rfl ?_
  refine v_istore_n C (lv1 := [(3, .int (0)), (0, .ref (a 2 0)), (1, .int (x)), (2, .int (c))]) dX7_spoilSalesOfToday_1 rfl (by decide) rfl ?_
  refine xx_lv [1, 2, 3, 0] (lv' := [(0, .ref (a 2 0)), (1, .int (x)), (2, .int (c)), (3, .int (0))]) rfl ?_
  refine xx_wc (w2 := wl a (E G.2.2.1 a (spW s x c 0) t) L) (lv' := [(0, .ref (a 2 0)), (1, .int (x)), (2, .int (c)), (3, .int (nI (0)))]) (by rfl) (by first | rfl | (simp [bI, spW]; done)) ?_
  refine xx_loop (nc) 0 (fun i => wl a (E G.2.2.1 a (spW s x c i) t) L) (fun i => [(0, .ref (a 2 0)), (1, .int (x)), (2, .int (c)), (3, .int (nI (i)))]) (by omega) ?_
  intro i hi0 hiN ih_i
  refine v_iload_n C dX7_spoilSalesOfToday_2 rfl 3 rfl ?_
  refine v_aload_n C dX7_spoilSalesOfToday_3 rfl 0 rfl ?_
  refine v_get C (v := .ref (a 6 1)) g_X7_37 (m2 (s := ((spW s x c i))) (t := t) (g := G.2.2.1) hL) (rg (by decide) rfl) dX7_spoilSalesOfToday_4 rfl ?_
  refine w_invVr C [] 0 0 L_X7_86 (c_Jx4a65c_size_8abf5 (s := ((spW s x c i))) (t := t)  hst hG hL 1 (by decide)) (m6 (s := ((spW s x c i))) (t := t) (g := G.2.2.1) hL 1 (by decide)) rfl rfl rfl rfl dX7_spoilSalesOfToday_7 rfl kx_no (fun h1 => ?_)
  refine xx_top (y := (spW s x c i) 21 0) rfl ?_
  refine xx_top (y := s 21 0) (congrFun (spW_o (k := 21) (by decide) _) _) ?_
  refine xx_top (y := nI nc) hlc.p1 ?_
  refine v_icN_ge C (t := 68) i nc rfl rfl (by omega) (by omega) dX7_spoilSalesOfToday_10 rfl rfl (fun h2 => ?_) (fun h2 => ?_)
  · skip
    exact v_vret C (by decide) (by decide) dX7_spoilSalesOfToday_68 ⟨rfl, by (have : i = nc := by omega); subst this; rfl, by trivial⟩
  · skip
    refine v_aload_n C dX7_spoilSalesOfToday_13 rfl 0 rfl ?_
    refine v_get C (v := .ref (a 6 1)) g_X7_37 (m2 (s := ((spW s x c i))) (t := t) (g := G.2.2.1) hL) (rg (by decide) rfl) dX7_spoilSalesOfToday_14 rfl ?_
    refine v_iload_n C dX7_spoilSalesOfToday_17 rfl 3 rfl ?_
    refine w_invVr C [.int (nI (i))] 0 0 L_X7_314 (c_Jx4a65c_get_915e3 (s := ((spW s x c i))) (t := t) (n := nc) hst hG hL 1 (nI (i)) i rfl (by omega) (by decide) (LsOK.c (congrFun (spW_o (k := 21) (by decide) _) 0) hlc) (by omega)) (m6 (s := ((spW s x c i))) (t := t) (g := G.2.2.1) hL 1 (by decide)) rfl rfl rfl rfl dX7_spoilSalesOfToday_18 rfl kx_no (fun h3 => ?_)
    refine xx_topR (y := a 12 i) rfl ?_
    refine v_cast C K_X7_123 rfl (m12 (s := ((spW s x c i))) (t := t) (g := G.2.2.1) hL i (hv_nc _ (by omega))) dX7_spoilSalesOfToday_21 rfl ?_
    refine v_astore C (lv1 := [(4, .ref (a 12 i)), (0, .ref (a 2 0)), (1, .int (x)), (2, .int (c)), (3, .int (nI (i)))]) dX7_spoilSalesOfToday_24 rfl (by decide) rfl ?_
    refine v_aload C dX7_spoilSalesOfToday_26 rfl 0 rfl ?_
    refine v_get C (v := .int ((spW s x c i) 53 i)) g_X7_243 (m12 (s := ((spW s x c i))) (t := t) (g := G.2.2.1) hL i (hv_nc _ (by omega))) (rg (by decide) rfl) dX7_spoilSalesOfToday_28 rfl ?_
    refine xx_top (y := s 53 i) (congrFun (spW_o (k := 53) (by decide) _) _) ?_
    refine v_iload_n C dX7_spoilSalesOfToday_31 rfl 2 rfl ?_
    refine v_icmp_ne C (t := 62) dX7_spoilSalesOfToday_32 rfl rfl (fun h4 => ?_) (fun h4 => ?_)
    · skip
      refine v_iincN C (lv1 := [(3, .int (nI (i + 1))), (4, .ref (a 12 i)), (0, .ref (a 2 0)), (1, .int (x)), (2, .int (c))]) i rfl dX7_spoilSalesOfToday_62 rfl 4 rfl (by decide) rfl ?_
      refine v_goto C (q := 2) dX7_spoilSalesOfToday_65 rfl ?_
      refine xx_lv [2, 3, 4, 0] (lv' := [(0, .ref (a 2 0)), (1, .int (x)), (2, .int (c)), (3, .int (nI (i + 1)))]) rfl ?_
      refine xx_wc (w2 := wl a (E G.2.2.1 a (spW s x c (i + 1)) t) L) (lv' := [(0, .ref (a 2 0)), (1, .int (x)), (2, .int (c)), (3, .int (nI (i + 1)))]) (by simp only [h2, Nat.not_le.mpr h2, h4, spW, if_true, if_false, and_true, true_and, and_self, false_and, and_false]) (by first | rfl | (simp [h2, Nat.not_le.mpr h2, h4, spW, Nat.add_assoc])) ?_
      exact ih_i (by omega)
    · skip
      refine v_aload C dX7_spoilSalesOfToday_35 rfl 0 rfl ?_
      refine v_get C (v := .int ((spW s x c i) 32 i)) g_X7_249 (m12 (s := ((spW s x c i))) (t := t) (g := G.2.2.1) hL i (hv_nc _ (by omega))) (rg (by decide) rfl) dX7_spoilSalesOfToday_37 rfl ?_
      refine xx_top (y := s 32 i) (congrFun (spW_o (k := 32) (by decide) _) _) ?_
      refine v_aload_n C dX7_spoilSalesOfToday_40 rfl 1 rfl ?_
      refine v_get C (v := .int ((spW s x c i) 0 0)) g_X7_43 (m2 (s := ((spW s x c i))) (t := t) (g := G.2.2.1) hL) (rg (by decide) rfl) dX7_spoilSalesOfToday_41 rfl ?_
      refine xx_top (y := s 0 0) (congrFun (spW_o (k := 0) (by decide) _) _) ?_
      refine v_icmp_ne C (t := 62) dX7_spoilSalesOfToday_44 rfl rfl (fun h5 => ?_) (fun h5 => ?_)
      · skip
        refine v_iincN C (lv1 := [(3, .int (nI (i + 1))), (4, .ref (a 12 i)), (0, .ref (a 2 0)), (1, .int (x)), (2, .int (c))]) i rfl dX7_spoilSalesOfToday_62 rfl 4 rfl (by decide) rfl ?_
        refine v_goto C (q := 2) dX7_spoilSalesOfToday_65 rfl ?_
        refine xx_lv [2, 3, 4, 0] (lv' := [(0, .ref (a 2 0)), (1, .int (x)), (2, .int (c)), (3, .int (nI (i + 1)))]) rfl ?_
        refine xx_wc (w2 := wl a (E G.2.2.1 a (spW s x c (i + 1)) t) L) (lv' := [(0, .ref (a 2 0)), (1, .int (x)), (2, .int (c)), (3, .int (nI (i + 1)))]) (by simp only [h2, Nat.not_le.mpr h2, eq_true h4, h5, spW, if_true, if_false, and_true, true_and, and_self, false_and, and_false]) (by first | rfl | (simp [h2, Nat.not_le.mpr h2, eq_true h4, h5, spW, Nat.add_assoc])) ?_
        exact ih_i (by omega)
      · skip
        refine v_aload C dX7_spoilSalesOfToday_47 rfl 0 rfl ?_
        refine v_iload_n C dX7_spoilSalesOfToday_49 rfl 3 rfl ?_
        refine w_invVr C [.int (c)] 0 0 L_X7_341 (c_X0_covers (s := ((spW s x c i))) (t := t)  hst hG hL i c (hv_nc _ (by omega))) (m12 (s := ((spW s x c i))) (t := t) (g := G.2.2.1) hL i (hv_nc _ (by omega))) rfl rfl rfl rfl dX7_spoilSalesOfToday_50 rfl kx_no (fun h6 => ?_)
        refine v_ifB_eq C (t := 62) dX7_spoilSalesOfToday_53 rfl rfl (fun h7 => ?_) (fun h7 => ?_)
        · skip
          refine v_iincN C (lv1 := [(3, .int (nI (i + 1))), (4, .ref (a 12 i)), (0, .ref (a 2 0)), (1, .int (x)), (2, .int (c))]) i rfl dX7_spoilSalesOfToday_62 rfl 4 rfl (by decide) rfl ?_
          refine v_goto C (q := 2) dX7_spoilSalesOfToday_65 rfl ?_
          refine xx_lv [2, 3, 4, 0] (lv' := [(0, .ref (a 2 0)), (1, .int (x)), (2, .int (c)), (3, .int (nI (i + 1)))]) rfl ?_
          refine xx_wc (w2 := wl a (E G.2.2.1 a (spW s x c (i + 1)) t) L) (lv' := [(0, .ref (a 2 0)), (1, .int (x)), (2, .int (c)), (3, .int (nI (i + 1)))]) (by simp only [h2, Nat.not_le.mpr h2, eq_true h4, eq_true h5, h7, spW, if_true, if_false, and_true, true_and, and_self, false_and, and_false]) (by first | rfl | (simp [h2, Nat.not_le.mpr h2, eq_true h4, eq_true h5, h7, spW, Nat.add_assoc])) ?_
          exact ih_i (by omega)
        · skip
          refine v_aload C dX7_spoilSalesOfToday_56 rfl 0 rfl ?_
          refine v_iconst C (v := 1) dX7_spoilSalesOfToday_58 rfl rfl ?_
          refine v_put C f_X7_252 (put_k (s := ((spW s x c i))) (t := t) (g := G.2.2.1) hL 9 (by decide) i (hv_nc _ (by omega)) 1) rfl rfl (rg_len (by decide)) dX7_spoilSalesOfToday_59 rfl ?_
          refine xx_w (w' := wl a (E G.2.2.1 a (su (spW s x c i) 54 i 1) t) L) rfl ?_
          refine v_iincN C (lv1 := [(3, .int (nI (i + 1))), (4, .ref (a 12 i)), (0, .ref (a 2 0)), (1, .int (x)), (2, .int (c))]) i rfl dX7_spoilSalesOfToday_62 rfl 4 rfl (by decide) rfl ?_
          refine v_goto C (q := 2) dX7_spoilSalesOfToday_65 rfl ?_
          refine xx_lv [2, 3, 4, 0] (lv' := [(0, .ref (a 2 0)), (1, .int (x)), (2, .int (c)), (3, .int (nI (i + 1)))]) rfl ?_
          refine xx_wc (w2 := wl a (E G.2.2.1 a (spW s x c (i + 1)) t) L) (lv' := [(0, .ref (a 2 0)), (1, .int (x)), (2, .int (c)), (3, .int (nI (i + 1)))]) (by simp only [h2, Nat.not_le.mpr h2, eq_true h4, eq_true h5, h7, spW, if_true, if_false, and_true, true_and, and_self, false_and, and_false]) (by first | rfl | (simp [h2, Nat.not_le.mpr h2, eq_true h4, eq_true h5, h7, spW, Nat.add_assoc])) ?_
          exact ih_i (by omega)

abbrev r_X7_inchesOfRight : Room := { frames := 4, cells := 0, slots := 0, locals := 85 }
set_option maxRecDepth 4000 in
theorem c_X7_inchesOfRight {l : Launch} {G : GG} {a : AD} {s t s0 : SS} {L : List (Nat × Nat)} {nm : Nat} {nr : Nat} (hst : l.stackTraces = false) (hG : GOK G) (hL : Live L s0) (x : Int32) (j_x : Nat) (e_x : x = nI j_x) (l_x : j_x < 20) (hlm : LsOK a s s0 0 nm) (hm12 : nm ≤ 12) (hv_nm : ∀ i, i < nm → i < tn (s0 12 0)) (hlr : LsOK a s s0 2 nr) (hr20 : nr ≤ 20) (hv_nr : ∀ i, i < nr → i < tn (s0 33 0)) (hro : ∀ i, i < nr → vp_in (s 34 i) nm) (hxr : j_x < nr) : Mth l yX7_inchesOfRight cX7_inchesOfRight 6 (Option.some Jvm.ClassFile.FieldType.int) r_X7_inchesOfRight G (wl a (E G.2.2.1 a s t) L) [.ref (a 2 0), .int x] (RI (.int (gvW s (j_x + 1))) (wl a (E G.2.2.1 a s t) L) (True)) nX := by
  refine mth_of rfl (Nat.le_of_ble_eq_true rfl) hst hG (fun X hX C0 => ?_)
  subst hX
  have C : Cx X G cX7_inchesOfRight 6 RX7 (Option.some Jvm.ClassFile.FieldType.int) r_X7_inchesOfRight "inchesOfRight" [] := C0
  clear C0
  show V X G 6 _ 0 0 _ 0 [(0, .ref (a 2 0)), (1, .int (x))] []
  subst e_x
  refine v_aload_n C dX7_inchesOfRight_0 rfl 0 rfl ?_
  refine v_get C (v := .int (s 1 0)) g_X7_47 (m2 (s := s) (t := t) (g := G.2.2.1) hL) (rg (by decide) rfl) dX7_inchesOfRight_1 rfl ?_
  refine v_istore_n C (lv1 := [(2, .int (s 1 0)), (0, .ref (a 2 0)), (1, .int (nI (j_x)))]) dX7_inchesOfRight_4 rfl (by decide) rfl ?_
  refine v_iconst C (v := 0) dX7_inchesOfRight_5 rfl rfl ?_
  refine v_istore_n C (lv1 := [(3, .int (0)), (2, .int (s 1 0)), (0, .ref (a 2 0)), (1, .int (nI (j_x)))]) dX7_inchesOfRight_6 rfl (by decide) rfl ?_
  refine v_iconst C (v := 0) dX7_inchesOfRight_7 rfl rfl ?_
  refine v_istore C (lv1 := [(4, .int (0)), (3, .int (0)), (2, .int (s 1 0)), (0, .ref (a 2 0)), (1, .int (nI (j_x)))]) dX7_inchesOfRight_8 rfl (by decide) rfl ?_
  refine xx_lv [3, 4, 2, 1, 0] (lv' := [(0, .ref (a 2 0)), (1, .int (nI (j_x))), (2, .int (s 1 0)), (3, .int (0)), (4, .int (0))]) rfl ?_
  refine xx_wc (w2 := wl a (E G.2.2.1 a s t) L) (lv' := [(0, .ref (a 2 0)), (1, .int (nI (j_x))), (2, .int (lfW s 0)), (3, .int (gvW s 0)), (4, .int (nI (0)))]) (by rfl) (by first | rfl | (simp [bI, gvW, lfW]; done)) ?_
  refine xx_loop (j_x + 1) 0 (fun i => wl a (E G.2.2.1 a s t) L) (fun i => [(0, .ref (a 2 0)), (1, .int (nI (j_x))), (2, .int (lfW s i)), (3, .int (gvW s i)), (4, .int (nI (i)))]) (by omega) ?_
  intro i hi0 hiN ih_i
  refine v_iload C dX7_inchesOfRight_10 rfl 4 rfl ?_
  refine v_iload_n C dX7_inchesOfRight_12 rfl 1 rfl ?_
  refine v_icN_gt C (t := 78) i j_x rfl rfl (by omega) (by omega) dX7_inchesOfRight_13 rfl rfl (fun h1 => ?_) (fun h1 => ?_)
  · skip
    refine v_iload_n C dX7_inchesOfRight_78 rfl 3 rfl ?_
    exact v_iret C (by decide) (by decide) dX7_inchesOfRight_79 ⟨congrArg (fun z => some (Value.int z)) (by (have : i = j_x + 1 := by omega); subst this; rfl), by rfl, by trivial⟩
  · skip
    refine v_iload C dX7_inchesOfRight_16 rfl 4 rfl ?_
    refine v_aload_n C dX7_inchesOfRight_18 rfl 0 rfl ?_
    refine v_get C (v := .ref (a 6 2)) g_X7_40 (m2 (s := s) (t := t) (g := G.2.2.1) hL) (rg (by decide) rfl) dX7_inchesOfRight_19 rfl ?_
    refine w_invVr C [] 0 0 L_X7_86 (c_Jx4a65c_size_8abf5 (s := s) (t := t)  hst hG hL 2 (by decide)) (m6 (s := s) (t := t) (g := G.2.2.1) hL 2 (by decide)) rfl rfl rfl rfl dX7_inchesOfRight_22 rfl kx_no (fun h2 => ?_)
    refine xx_top (y := s 33 0) rfl ?_
    refine xx_top (y := nI nr) hlr.p2 ?_
    refine v_icN_ge C (t := 78) i nr rfl rfl (by omega) (by omega) dX7_inchesOfRight_25 rfl rfl (fun h3 => ?_) (fun h3 => ?_)
    · skip
      refine v_iload_n C dX7_inchesOfRight_78 rfl 3 rfl ?_
      exact v_iret C (by decide) (by decide) dX7_inchesOfRight_79 ⟨congrArg (fun z => some (Value.int z)) (by (have : i = j_x + 1 := by omega); subst this; rfl), by rfl, by trivial⟩
    · skip
      refine v_aload_n C dX7_inchesOfRight_28 rfl 0 rfl ?_
      refine v_get C (v := .ref (a 6 2)) g_X7_40 (m2 (s := s) (t := t) (g := G.2.2.1) hL) (rg (by decide) rfl) dX7_inchesOfRight_29 rfl ?_
      refine v_iload C dX7_inchesOfRight_32 rfl 4 rfl ?_
      refine w_invVr C [.int (nI (i))] 0 0 L_X7_314 (c_Jx4a65c_get_915e3 (s := s) (t := t) (n := nr) hst hG hL 2 (nI (i)) i rfl (by omega) (by decide) hlr (by omega)) (m6 (s := s) (t := t) (g := G.2.2.1) hL 2 (by decide)) rfl rfl rfl rfl dX7_inchesOfRight_34 rfl kx_no (fun h4 => ?_)
      refine xx_topR (y := a 13 i) rfl ?_
      refine v_cast C K_X7_128 rfl (m13 (s := s) (t := t) (g := G.2.2.1) hL i (hv_nr _ (by omega))) dX7_inchesOfRight_37 rfl ?_
      refine v_astore C (lv1 := [(5, .ref (a 13 i)), (0, .ref (a 2 0)), (1, .int (nI (j_x))), (2, .int (lfW s i)), (3, .int (gvW s i)), (4, .int (nI (i)))]) dX7_inchesOfRight_40 rfl (by decide) rfl ?_
      refine v_aload_n C dX7_inchesOfRight_42 rfl 1 rfl ?_
      refine v_aload C dX7_inchesOfRight_43 rfl 0 rfl ?_
      refine v_get C (v := .int (s 34 i)) g_X7_348 (m13 (s := s) (t := t) (g := G.2.2.1) hL i (hv_nr _ (by omega))) rfl dX7_inchesOfRight_45 rfl ?_
      refine w_invVr C [.int (s 34 i)] 0 0 L_X7_339 (c_X7_isDead (s := s) (t := t) (nm := nm) hst hG hL (s 34 i) _ (in_nI (N := nm) (hro i (by omega)) (by omega)) (in_lt (N := nm) (hro i (by omega))) hlm hm12 hv_nm) (m2 (s := s) (t := t) (g := G.2.2.1) hL) rfl rfl rfl rfl dX7_inchesOfRight_48 rfl kx_no (fun h5 => ?_)
      refine v_ifB_eq C (t := 58) dX7_inchesOfRight_51 rfl rfl (fun h6 => ?_) (fun h6 => ?_)
      · skip
        refine v_aload C dX7_inchesOfRight_58 rfl 0 rfl ?_
        refine v_get C (v := .int (s 35 i)) g_X7_349 (m13 (s := s) (t := t) (g := G.2.2.1) hL i (hv_nr _ (by omega))) rfl dX7_inchesOfRight_60 rfl ?_
        refine v_iload_n C dX7_inchesOfRight_63 rfl 3 rfl ?_
        refine v_mmin C L_X7_258.2.1 L_X7_258.2.2 L_X7_258.1.1 L_X7_258.1.2.1 (by decide) (Nat.le_of_ble_eq_true rfl) (by decide) (by decide) dX7_inchesOfRight_64 rfl ?_
        refine xx_top (y := minF (s 35 i) (lfW s i)) mn_c ?_
        refine v_istore_n C (lv1 := [(3, .int (minF (s 35 i) (lfW s i))), (5, .ref (a 13 i)), (0, .ref (a 2 0)), (1, .int (nI (j_x))), (2, .int (lfW s i)), (4, .int (nI (i)))]) dX7_inchesOfRight_67 rfl (by decide) rfl ?_
        refine v_iload_n C dX7_inchesOfRight_68 rfl 4 rfl ?_
        refine v_iload_n C dX7_inchesOfRight_69 rfl 0 rfl ?_
        refine v_isub C dX7_inchesOfRight_70 rfl ?_
        refine v_istore_n C (lv1 := [(2, .int ((lfW s i) - (minF (s 35 i) (lfW s i)))), (3, .int (minF (s 35 i) (lfW s i))), (5, .ref (a 13 i)), (0, .ref (a 2 0)), (1, .int (nI (j_x))), (4, .int (nI (i)))]) dX7_inchesOfRight_71 rfl (by decide) rfl ?_
        refine v_iincN C (lv1 := [(4, .int (nI (i + 1))), (2, .int ((lfW s i) - (minF (s 35 i) (lfW s i)))), (3, .int (minF (s 35 i) (lfW s i))), (5, .ref (a 13 i)), (0, .ref (a 2 0)), (1, .int (nI (j_x)))]) i rfl dX7_inchesOfRight_72 rfl 5 rfl (by decide) rfl ?_
        refine v_goto C (q := 10) dX7_inchesOfRight_75 rfl ?_
        refine xx_lv [4, 5, 1, 2, 0] (lv' := [(0, .ref (a 2 0)), (1, .int (nI (j_x))), (2, .int ((lfW s i) - (minF (s 35 i) (lfW s i)))), (3, .int (minF (s 35 i) (lfW s i))), (4, .int (nI (i + 1)))]) rfl ?_
        refine xx_wc (w2 := wl a (E G.2.2.1 a s t) L) (lv' := [(0, .ref (a 2 0)), (1, .int (nI (j_x))), (2, .int (lfW s (i + 1))), (3, .int (gvW s (i + 1))), (4, .int (nI (i + 1)))]) (by rfl) (by first | rfl | (simp [h1, Nat.not_lt.mpr h1, h3, Nat.not_le.mpr h3, h6, gvW, lfW, Nat.add_assoc])) ?_
        exact ih_i (by omega)
      · skip
        refine v_iconst C (v := 0) dX7_inchesOfRight_54 rfl rfl ?_
        refine v_goto C (q := 67) dX7_inchesOfRight_55 rfl ?_
        refine v_istore_n C (lv1 := [(3, .int (0)), (5, .ref (a 13 i)), (0, .ref (a 2 0)), (1, .int (nI (j_x))), (2, .int (lfW s i)), (4, .int (nI (i)))]) dX7_inchesOfRight_67 rfl (by decide) rfl ?_
        refine v_iload_n C dX7_inchesOfRight_68 rfl 4 rfl ?_
        refine v_iload_n C dX7_inchesOfRight_69 rfl 0 rfl ?_
        refine v_isub C dX7_inchesOfRight_70 rfl ?_
        refine v_istore_n C (lv1 := [(2, .int ((lfW s i) - 0)), (3, .int (0)), (5, .ref (a 13 i)), (0, .ref (a 2 0)), (1, .int (nI (j_x))), (4, .int (nI (i)))]) dX7_inchesOfRight_71 rfl (by decide) rfl ?_
        refine v_iincN C (lv1 := [(4, .int (nI (i + 1))), (2, .int ((lfW s i) - 0)), (3, .int (0)), (5, .ref (a 13 i)), (0, .ref (a 2 0)), (1, .int (nI (j_x)))]) i rfl dX7_inchesOfRight_72 rfl 5 rfl (by decide) rfl ?_
        refine v_goto C (q := 10) dX7_inchesOfRight_75 rfl ?_
        refine xx_lv [4, 5, 1, 2, 0] (lv' := [(0, .ref (a 2 0)), (1, .int (nI (j_x))), (2, .int ((lfW s i) - 0)), (3, .int (0)), (4, .int (nI (i + 1)))]) rfl ?_
        refine xx_wc (w2 := wl a (E G.2.2.1 a s t) L) (lv' := [(0, .ref (a 2 0)), (1, .int (nI (j_x))), (2, .int (lfW s (i + 1))), (3, .int (gvW s (i + 1))), (4, .int (nI (i + 1)))]) (by rfl) (by first | rfl | (simp [h1, Nat.not_lt.mpr h1, h3, Nat.not_le.mpr h3, eq_true h6, gvW, lfW, Nat.add_assoc])) ?_
        exact ih_i (by omega)

abbrev r_X7_inchesOfMiner : Room := { frames := 5, cells := 0, slots := 0, locals := 110 }
set_option maxRecDepth 4000 in
theorem c_X7_inchesOfMiner {l : Launch} {G : GG} {a : AD} {s t s0 : SS} {L : List (Nat × Nat)} {nm : Nat} {nr : Nat} (hst : l.stackTraces = false) (hG : GOK G) (hL : Live L s0) (x : Int32) (hlm : LsOK a s s0 0 nm) (hm12 : nm ≤ 12) (hv_nm : ∀ i, i < nm → i < tn (s0 12 0)) (hlr : LsOK a s s0 2 nr) (hr20 : nr ≤ 20) (hv_nr : ∀ i, i < nr → i < tn (s0 33 0)) (hro : ∀ i, i < nr → vp_in (s 34 i) nm) : Mth l yX7_inchesOfMiner cX7_inchesOfMiner 4 (Option.some Jvm.ClassFile.FieldType.int) r_X7_inchesOfMiner G (wl a (E G.2.2.1 a s t) L) [.ref (a 2 0), .int x] (RI (.int (inW s x nr)) (wl a (E G.2.2.1 a s t) L) (True)) nX := by
  refine mth_of rfl (Nat.le_of_ble_eq_true rfl) hst hG (fun X hX C0 => ?_)
  subst hX
  have C : Cx X G cX7_inchesOfMiner 4 RX7 (Option.some Jvm.ClassFile.FieldType.int) r_X7_inchesOfMiner "inchesOfMiner" [] := C0
  clear C0
  show V X G 4 _ 0 0 _ 0 [(0, .ref (a 2 0)), (1, .int (x))] []
  refine v_iconst C (v := 0) dX7_inchesOfMiner_0 rfl rfl ?_
  refine v_istore_n C (lv1 := [(2, .int (0)), (0, .ref (a 2 0)), (1, .int (x))]) dX7_inchesOfMiner_1 rfl (by decide) rfl ?_
  refine v_iconst C (v := 0) dX7_inchesOfMiner_2 rfl rfl ?_
  refine v_istore_n C (lv1 := [(3, .int (0)), (2, .int (0)), (0, .ref (a 2 0)), (1, .int (x))]) dX7_inchesOfMiner_3 rfl (by decide) rfl ?_
  refine xx_lv [2, 3, 1, 0] (lv' := [(0, .ref (a 2 0)), (1, .int (x)), (2, .int (0)), (3, .int (0))]) rfl ?_
  refine xx_wc (w2 := wl a (E G.2.2.1 a s t) L) (lv' := [(0, .ref (a 2 0)), (1, .int (x)), (2, .int (inW s x 0)), (3, .int (nI (0)))]) (by rfl) (by first | rfl | (simp [bI, inW, sumN]; done)) ?_
  refine xx_loop (nr) 0 (fun i => wl a (E G.2.2.1 a s t) L) (fun i => [(0, .ref (a 2 0)), (1, .int (x)), (2, .int (inW s x i)), (3, .int (nI (i)))]) (by omega) ?_
  intro i hi0 hiN ih_i
  refine v_iload_n C dX7_inchesOfMiner_4 rfl 3 rfl ?_
  refine v_aload_n C dX7_inchesOfMiner_5 rfl 0 rfl ?_
  refine v_get C (v := .ref (a 6 2)) g_X7_40 (m2 (s := s) (t := t) (g := G.2.2.1) hL) (rg (by decide) rfl) dX7_inchesOfMiner_6 rfl ?_
  refine w_invVr C [] 0 0 L_X7_86 (c_Jx4a65c_size_8abf5 (s := s) (t := t)  hst hG hL 2 (by decide)) (m6 (s := s) (t := t) (g := G.2.2.1) hL 2 (by decide)) rfl rfl rfl rfl dX7_inchesOfMiner_9 rfl kx_no (fun h1 => ?_)
  refine xx_top (y := s 33 0) rfl ?_
  refine xx_top (y := nI nr) hlr.p2 ?_
  refine v_icN_ge C (t := 47) i nr rfl rfl (by omega) (by omega) dX7_inchesOfMiner_12 rfl rfl (fun h2 => ?_) (fun h2 => ?_)
  · skip
    refine v_iload_n C dX7_inchesOfMiner_47 rfl 2 rfl ?_
    exact v_iret C (by decide) (by decide) dX7_inchesOfMiner_48 ⟨congrArg (fun z => some (Value.int z)) (by (have : i = nr := by omega); subst this; rfl), by rfl, by trivial⟩
  · skip
    refine v_aload_n C dX7_inchesOfMiner_15 rfl 0 rfl ?_
    refine v_get C (v := .ref (a 6 2)) g_X7_40 (m2 (s := s) (t := t) (g := G.2.2.1) hL) (rg (by decide) rfl) dX7_inchesOfMiner_16 rfl ?_
    refine v_iload_n C dX7_inchesOfMiner_19 rfl 3 rfl ?_
    refine w_invVr C [.int (nI (i))] 0 0 L_X7_314 (c_Jx4a65c_get_915e3 (s := s) (t := t) (n := nr) hst hG hL 2 (nI (i)) i rfl (by omega) (by decide) hlr (by omega)) (m6 (s := s) (t := t) (g := G.2.2.1) hL 2 (by decide)) rfl rfl rfl rfl dX7_inchesOfMiner_20 rfl kx_no (fun h3 => ?_)
    refine xx_topR (y := a 13 i) rfl ?_
    refine v_cast C K_X7_128 rfl (m13 (s := s) (t := t) (g := G.2.2.1) hL i (hv_nr _ (by omega))) dX7_inchesOfMiner_23 rfl ?_
    refine v_get C (v := .int (s 34 i)) g_X7_348 (m13 (s := s) (t := t) (g := G.2.2.1) hL i (hv_nr _ (by omega))) rfl dX7_inchesOfMiner_26 rfl ?_
    refine v_iload_n C dX7_inchesOfMiner_29 rfl 1 rfl ?_
    refine v_icmp_ne C (t := 41) dX7_inchesOfMiner_30 rfl rfl (fun h4 => ?_) (fun h4 => ?_)
    · skip
      refine v_iincN C (lv1 := [(3, .int (nI (i + 1))), (0, .ref (a 2 0)), (1, .int (x)), (2, .int (inW s x i))]) i rfl dX7_inchesOfMiner_41 rfl 3 rfl (by decide) rfl ?_
      refine v_goto C (q := 4) dX7_inchesOfMiner_44 rfl ?_
      refine xx_lv [1, 2, 3, 0] (lv' := [(0, .ref (a 2 0)), (1, .int (x)), (2, .int (inW s x i)), (3, .int (nI (i + 1)))]) rfl ?_
      refine xx_wc (w2 := wl a (E G.2.2.1 a s t) L) (lv' := [(0, .ref (a 2 0)), (1, .int (x)), (2, .int (inW s x (i + 1))), (3, .int (nI (i + 1)))]) (by rfl) (by first | rfl | (simp [h2, Nat.not_le.mpr h2, h4, inW, sumN, Nat.add_assoc])) ?_
      exact ih_i (by omega)
    · skip
      refine v_iload_n C dX7_inchesOfMiner_33 rfl 2 rfl ?_
      refine v_aload_n C dX7_inchesOfMiner_34 rfl 0 rfl ?_
      refine v_iload_n C dX7_inchesOfMiner_35 rfl 3 rfl ?_
      refine w_invVr C [.int (nI (i))] 0 0 L_X7_276 (c_X7_inchesOfRight (s := s) (t := t) (nm := nm) (nr := nr) hst hG hL (nI (i)) i rfl (by omega) hlm hm12 hv_nm hlr hr20 hv_nr hro (by omega)) (m2 (s := s) (t := t) (g := G.2.2.1) hL) rfl rfl rfl rfl dX7_inchesOfMiner_36 rfl kx_no (fun h5 => ?_)
      refine v_iadd C dX7_inchesOfMiner_39 rfl ?_
      refine v_istore_n C (lv1 := [(2, .int ((inW s x i) + (gvW s (i + 1)))), (0, .ref (a 2 0)), (1, .int (x)), (3, .int (nI (i)))]) dX7_inchesOfMiner_40 rfl (by decide) rfl ?_
      refine v_iincN C (lv1 := [(3, .int (nI (i + 1))), (2, .int ((inW s x i) + (gvW s (i + 1)))), (0, .ref (a 2 0)), (1, .int (x))]) i rfl dX7_inchesOfMiner_41 rfl 3 rfl (by decide) rfl ?_
      refine v_goto C (q := 4) dX7_inchesOfMiner_44 rfl ?_
      refine xx_lv [2, 3, 1, 0] (lv' := [(0, .ref (a 2 0)), (1, .int (x)), (2, .int ((inW s x i) + (gvW s (i + 1)))), (3, .int (nI (i + 1)))]) rfl ?_
      refine xx_wc (w2 := wl a (E G.2.2.1 a s t) L) (lv' := [(0, .ref (a 2 0)), (1, .int (x)), (2, .int (inW s x (i + 1))), (3, .int (nI (i + 1)))]) (by rfl) (by first | rfl | (simp [h2, Nat.not_le.mpr h2, eq_true h4, inW, sumN, Nat.add_assoc])) ?_
      exact ih_i (by omega)

abbrev r_X7_lapseIfDue : Room := { frames := 4, cells := 0, slots := 0, locals := 85 }
set_option maxRecDepth 4000 in
theorem c_X7_lapseIfDue {l : Launch} {G : GG} {a : AD} {s t s0 : SS} {L : List (Nat × Nat)} {nm : Nat} (hst : l.stackTraces = false) (hG : GOK G) (hL : Live L s0) (i_c : Nat) (hlm : LsOK a s s0 0 nm) (hm12 : nm ≤ 12) (hv_nm : ∀ i, i < nm → i < tn (s0 12 0)) (hvc : i_c < tn (s0 21 0)) (how : vp_in (s 22 i_c) nm) : Mth l yX7_lapseIfDue cX7_lapseIfDue 2 (Option.none : Option Jvm.ClassFile.FieldType) r_X7_lapseIfDue G (wl a (E G.2.2.1 a s t) L) [.ref (a 2 0), .ref (a 12 i_c)] (RV (wl a (E G.2.2.1 a (lpF s i_c) t) L) (True)) nX := by
  refine mth_of rfl (Nat.le_of_ble_eq_true rfl) hst hG (fun X hX C0 => ?_)
  subst hX
  have C : Cx X G cX7_lapseIfDue 2 RX7 (Option.none : Option Jvm.ClassFile.FieldType) r_X7_lapseIfDue "lapseIfDue" [] := C0
  clear C0
  show V X G 2 _ 0 0 _ 0 [(0, .ref (a 2 0)), (1, .ref (a 12 i_c))] []
  refine v_aload_n C dX7_lapseIfDue_0 rfl 0 rfl ?_
  refine v_aload_n C dX7_lapseIfDue_1 rfl 1 rfl ?_
  refine v_get C (v := .int (s 22 i_c)) g_X7_223 (m12 (s := s) (t := t) (g := G.2.2.1) hL i_c hvc) (rg (by decide) rfl) dX7_lapseIfDue_2 rfl ?_
  refine w_invVr C [.int (s 22 i_c)] 0 0 L_X7_339 (c_X7_isDead (s := s) (t := t) (nm := nm) hst hG hL (s 22 i_c) _ (in_nI (N := nm) how (by omega)) (in_lt (N := nm) how) hlm hm12 hv_nm) (m2 (s := s) (t := t) (g := G.2.2.1) hL) rfl rfl rfl rfl dX7_lapseIfDue_5 rfl kx_no (fun h1 => ?_)
  refine v_ifB_ne C (t := 27) dX7_lapseIfDue_8 rfl rfl (fun h2 => ?_) (fun h2 => ?_)
  · skip
    refine v_aload_n C dX7_lapseIfDue_27 rfl 1 rfl ?_
    refine v_iconst C (v := 0) dX7_lapseIfDue_28 rfl rfl ?_
    refine v_put C f_X7_226 (put_k (s := s) (t := t) (g := G.2.2.1) hL 5 (by decide) i_c hvc 0) rfl rfl (rg_len (by decide)) dX7_lapseIfDue_29 rfl ?_
    refine xx_w (w' := wl a (E G.2.2.1 a (su s 25 i_c 0) t) L) rfl ?_
    exact v_vret C (by decide) (by decide) dX7_lapseIfDue_32 ⟨rfl, by first | rfl | (simp only [eq_true h2, lpF, bI, pM, pU, n10, n20, n30, n0, if_true, if_false, ite_true, ite_false, not_true_eq_false, not_false_eq_true, and_true, true_and, and_false, false_and, or_true, true_or, or_false, false_or, reduceIte, and_self, or_self, ne_eq, eq_self_iff_true]; first | done | rfl) | (simp [bI, eq_true h2, lpF]; done) | (simp only [lpF, bI, ← Int32.not_le] at *; simp [eq_true h2]; done) | (simp_all [bI, eq_true h2, lpF]; done) | (simp_all [bI, eq_true h2, lpF]; rfl) | (exfalso; omega), by trivial⟩
  · skip
    refine v_aload_n C dX7_lapseIfDue_11 rfl 0 rfl ?_
    refine v_get C (v := .int (s 0 0)) g_X7_43 (m2 (s := s) (t := t) (g := G.2.2.1) hL) (rg (by decide) rfl) dX7_lapseIfDue_12 rfl ?_
    refine v_aload_n C dX7_lapseIfDue_15 rfl 1 rfl ?_
    refine v_get C (v := .int (s 26 i_c)) g_X7_161 (m12 (s := s) (t := t) (g := G.2.2.1) hL i_c hvc) (rg (by decide) rfl) dX7_lapseIfDue_16 rfl ?_
    refine v_isub C dX7_lapseIfDue_19 rfl ?_
    refine v_aload_n C dX7_lapseIfDue_20 rfl 1 rfl ?_
    refine v_get C (v := .int (s 27 i_c)) g_X7_270 (m12 (s := s) (t := t) (g := G.2.2.1) hL i_c hvc) (rg (by decide) rfl) dX7_lapseIfDue_21 rfl ?_
    refine v_icmp_le C (t := 32) dX7_lapseIfDue_24 rfl rfl (fun h3 => ?_) (fun h3 => ?_)
    · skip
      exact v_vret C (by decide) (by decide) dX7_lapseIfDue_32 ⟨rfl, by first | rfl | (simp only [h2, h3, Int32.not_lt.mpr h3, lpF, bI, pM, pU, n10, n20, n30, n0, if_true, if_false, ite_true, ite_false, not_true_eq_false, not_false_eq_true, and_true, true_and, and_false, false_and, or_true, true_or, or_false, false_or, reduceIte, and_self, or_self, ne_eq, eq_self_iff_true]; first | done | rfl) | (simp [bI, h2, h3, Int32.not_lt.mpr h3, lpF]; done) | (simp only [lpF, bI, ← Int32.not_le] at *; simp [h2, h3, Int32.not_lt.mpr h3]; done) | (simp_all [bI, h2, h3, Int32.not_lt.mpr h3, lpF]; done) | (simp_all [bI, h2, h3, Int32.not_lt.mpr h3, lpF]; rfl) | (exfalso; omega), by trivial⟩
    · skip
      refine v_aload_n C dX7_lapseIfDue_27 rfl 1 rfl ?_
      refine v_iconst C (v := 0) dX7_lapseIfDue_28 rfl rfl ?_
      refine v_put C f_X7_226 (put_k (s := s) (t := t) (g := G.2.2.1) hL 5 (by decide) i_c hvc 0) rfl rfl (rg_len (by decide)) dX7_lapseIfDue_29 rfl ?_
      refine xx_w (w' := wl a (E G.2.2.1 a (su s 25 i_c 0) t) L) rfl ?_
      exact v_vret C (by decide) (by decide) dX7_lapseIfDue_32 ⟨rfl, by first | rfl | (simp only [h2, h3, Int32.not_le.mp h3, lpF, bI, pM, pU, n10, n20, n30, n0, if_true, if_false, ite_true, ite_false, not_true_eq_false, not_false_eq_true, and_true, true_and, and_false, false_and, or_true, true_or, or_false, false_or, reduceIte, and_self, or_self, ne_eq, eq_self_iff_true]; first | done | rfl) | (simp [bI, h2, h3, Int32.not_le.mp h3, lpF]; done) | (simp only [lpF, bI, ← Int32.not_le] at *; simp [h2, h3, Int32.not_le.mp h3]; done) | (simp_all [bI, h2, h3, Int32.not_le.mp h3, lpF]; done) | (simp_all [bI, h2, h3, Int32.not_le.mp h3, lpF]; rfl) | (exfalso; omega), by trivial⟩

abbrev r_X7_passOneDay : Room := { frames := 5, cells := 0, slots := 0, locals := 106 }
set_option maxRecDepth 4000 in
theorem c_X7_passOneDay {l : Launch} {G : GG} {a : AD} {s t s0 : SS} {L : List (Nat × Nat)} {nm : Nat} {nc : Nat} (hst : l.stackTraces = false) (hG : GOK G) (hL : Live L s0)  (hlm : LsOK a s s0 0 nm) (hm12 : nm ≤ 12) (hv_nm : ∀ i, i < nm → i < tn (s0 12 0)) (hlc : LsOK a s s0 1 nc) (hv_nc : ∀ i, i < nc → i < tn (s0 21 0)) (hco : ∀ i, i < nc → vp_in (s 22 i) nm) : Mth l yX7_passOneDay cX7_passOneDay 2 (Option.none : Option Jvm.ClassFile.FieldType) r_X7_passOneDay G (wl a (E G.2.2.1 a s t) L) [.ref (a 2 0)] (RV (wl a (E G.2.2.1 a (dayC s nm nc) t) L) (True)) nX := by
  refine mth_of rfl (Nat.le_of_ble_eq_true rfl) hst hG (fun X hX C0 => ?_)
  subst hX
  have C : Cx X G cX7_passOneDay 2 RX7 (Option.none : Option Jvm.ClassFile.FieldType) r_X7_passOneDay "passOneDay" [] := C0
  clear C0
  show V X G 2 _ 0 0 _ 0 [(0, .ref (a 2 0))] []
  have hc30 := hlc.2.1
  refine v_aload_n C dX7_passOneDay_0 rfl 0 rfl ?_
  refine v_dup C dX7_passOneDay_1 rfl rfl ?_
  refine v_get C (v := .int (s 0 0)) g_X7_43 (m2 (s := s) (t := t) (g := G.2.2.1) hL) (rg (by decide) rfl) dX7_passOneDay_2 rfl ?_
  refine v_iconst C (v := 1) dX7_passOneDay_5 rfl rfl ?_
  refine v_iadd C dX7_passOneDay_6 rfl ?_
  refine v_put C f_X7_43 (put_c (s := s) (t := t) (g := G.2.2.1) hL 6 (by decide) (by decide) ((s 0 0) + 1)) rfl rfl (rg_len (by decide)) dX7_passOneDay_7 rfl ?_
  refine xx_w (w' := wl a (E G.2.2.1 a (su s 0 0 ((s 0 0) + 1)) t) L) rfl ?_
  refine v_iconst C (v := 0) dX7_passOneDay_10 rfl rfl ?_
  refine v_istore_n C (lv1 := [(1, .int (0)), (0, .ref (a 2 0))]) dX7_passOneDay_11 rfl (by decide) rfl ?_
  refine xx_lv [1, 0] (lv' := [(0, .ref (a 2 0)), (1, .int (0))]) rfl ?_
  refine xx_wc (w2 := wl a (E G.2.2.1 a (laW (su s 0 0 ((s 0 0) + 1)) 0) t) L) (lv' := [(0, .ref (a 2 0)), (1, .int (nI (0)))]) (by rfl) (by first | rfl | (simp [bI, ]; done)) ?_
  refine xx_loop (nm) 0 (fun i => wl a (E G.2.2.1 a (laW (su s 0 0 ((s 0 0) + 1)) i) t) L) (fun i => [(0, .ref (a 2 0)), (1, .int (nI (i)))]) (by omega) ?_
  intro i hi0 hiN ih_i
  refine v_iload_n C dX7_passOneDay_12 rfl 1 rfl ?_
  refine v_aload_n C dX7_passOneDay_13 rfl 0 rfl ?_
  refine v_get C (v := .ref (a 6 0)) g_X7_33 (m2 (s := ((laW (su s 0 0 ((s 0 0) + 1)) i))) (t := t) (g := G.2.2.1) hL) (rg (by decide) rfl) dX7_passOneDay_14 rfl ?_
  refine w_invVr C [] 0 0 L_X7_86 (c_Jx4a65c_size_8abf5 (s := ((laW (su s 0 0 ((s 0 0) + 1)) i))) (t := t)  hst hG hL 0 (by decide)) (m6 (s := ((laW (su s 0 0 ((s 0 0) + 1)) i))) (t := t) (g := G.2.2.1) hL 0 (by decide)) rfl rfl rfl rfl dX7_passOneDay_17 rfl kx_no (fun h1 => ?_)
  refine xx_top (y := (laW (su s 0 0 ((s 0 0) + 1)) i) 12 0) rfl ?_
  refine xx_top (y := s 12 0) (congrFun (laW_o (k := 12) (by decide) (by decide) _) _) ?_
  refine xx_top (y := nI nm) hlm.p0 ?_
  refine v_icN_ge C (t := 43) i nm rfl rfl (by omega) (by omega) dX7_passOneDay_20 rfl rfl (fun h2 => ?_) (fun h2 => ?_)
  · skip
    refine v_aload_n C dX7_passOneDay_43 rfl 0 rfl ?_
    refine v_get C (v := .ref (a 4 0)) g_X7_19 (m2 (s := ((laW (su s 0 0 ((s 0 0) + 1)) i))) (t := t) (g := G.2.2.1) hL) (rg (by decide) rfl) dX7_passOneDay_44 rfl ?_
    refine v_aload_n C dX7_passOneDay_47 rfl 0 rfl ?_
    refine v_get C (v := .int ((laW (su s 0 0 ((s 0 0) + 1)) i) 0 0)) g_X7_43 (m2 (s := ((laW (su s 0 0 ((s 0 0) + 1)) i))) (t := t) (g := G.2.2.1) hL) (rg (by decide) rfl) dX7_passOneDay_48 rfl ?_
    refine xx_top (y := (s 0 0) + 1) (congrFun (laW_o (k := 0) (by decide) (by decide) _) _) ?_
    refine w_invVv C [.int ((s 0 0) + 1)] 0 0 L_X7_329 (c_X6_unload (s := ((laW (su s 0 0 ((s 0 0) + 1)) i))) (t := t)  hst hG hL ((s 0 0) + 1)) (m4 (s := ((laW (su s 0 0 ((s 0 0) + 1)) i))) (t := t) (g := G.2.2.1) hL) rfl rfl rfl rfl dX7_passOneDay_51 rfl kx_no (fun h3 => ?_)
    refine v_aload_n C dX7_passOneDay_54 rfl 0 rfl ?_
    refine v_get C (v := .ref (a 5 0)) g_X7_26 (m2 (s := ((ulW ((laW (su s 0 0 ((s 0 0) + 1)) i)) (((s 0 0) + 1)) 20))) (t := t) (g := G.2.2.1) hL) (rg (by decide) rfl) dX7_passOneDay_55 rfl ?_
    refine w_invVv C [] 0 0 L_X7_332 (c_X5_fade (s := ((ulW ((laW (su s 0 0 ((s 0 0) + 1)) i)) (((s 0 0) + 1)) 20))) (t := t)  hst hG hL ) (m5 (s := ((ulW ((laW (su s 0 0 ((s 0 0) + 1)) i)) (((s 0 0) + 1)) 20))) (t := t) (g := G.2.2.1) hL) rfl rfl rfl rfl dX7_passOneDay_58 rfl kx_no (fun h4 => ?_)
    refine v_iconst C (v := 0) dX7_passOneDay_61 rfl rfl ?_
    refine v_istore_n C (lv1 := [(1, .int (0)), (0, .ref (a 2 0))]) dX7_passOneDay_62 rfl (by decide) rfl ?_
    refine xx_lv [1, 0] (lv' := [(0, .ref (a 2 0)), (1, .int (0))]) rfl ?_
    refine xx_wc (w2 := wl a (E G.2.2.1 a (lpW (fdV ((ulW ((laW (su s 0 0 ((s 0 0) + 1)) i)) (((s 0 0) + 1)) 20)) 40) 0) t) L) (lv' := [(0, .ref (a 2 0)), (1, .int (nI (0)))]) (by rfl) (by first | rfl | (simp [bI, h2, Nat.not_lt.mpr h2]; done)) ?_
    refine xx_loop (nc) 0 (fun i3 => wl a (E G.2.2.1 a (lpW (fdV ((ulW ((laW (su s 0 0 ((s 0 0) + 1)) i)) (((s 0 0) + 1)) 20)) 40) i3) t) L) (fun i3 => [(0, .ref (a 2 0)), (1, .int (nI (i3)))]) (by omega) ?_
    intro i3 hi0 hiN ih_i3
    refine v_iload_n C dX7_passOneDay_63 rfl 1 rfl ?_
    refine v_aload_n C dX7_passOneDay_64 rfl 0 rfl ?_
    refine v_get C (v := .ref (a 6 1)) g_X7_37 (m2 (s := ((lpW (fdV ((ulW ((laW (su s 0 0 ((s 0 0) + 1)) i)) (((s 0 0) + 1)) 20)) 40) i3))) (t := t) (g := G.2.2.1) hL) (rg (by decide) rfl) dX7_passOneDay_65 rfl ?_
    refine w_invVr C [] 0 0 L_X7_86 (c_Jx4a65c_size_8abf5 (s := ((lpW (fdV ((ulW ((laW (su s 0 0 ((s 0 0) + 1)) i)) (((s 0 0) + 1)) 20)) 40) i3))) (t := t)  hst hG hL 1 (by decide)) (m6 (s := ((lpW (fdV ((ulW ((laW (su s 0 0 ((s 0 0) + 1)) i)) (((s 0 0) + 1)) 20)) 40) i3))) (t := t) (g := G.2.2.1) hL 1 (by decide)) rfl rfl rfl rfl dX7_passOneDay_68 rfl kx_no (fun h5 => ?_)
    refine xx_top (y := (lpW (fdV ((ulW ((laW (su s 0 0 ((s 0 0) + 1)) i)) (((s 0 0) + 1)) 20)) 40) i3) 21 0) rfl ?_
    refine xx_top (y := (fdV ((ulW ((laW (su s 0 0 ((s 0 0) + 1)) i)) (((s 0 0) + 1)) 20)) 40) 21 0) (congrFun (lpW_o (k := 21) (by decide) _) _) ?_
    refine xx_top (y := (ulW ((laW (su s 0 0 ((s 0 0) + 1)) i)) (((s 0 0) + 1)) 20) 21 0) (congrFun (fdV_o (k := 21) (by decide) _) _) ?_
    refine xx_top (y := (laW (su s 0 0 ((s 0 0) + 1)) i) 21 0) (congrFun (ulW_o (k := 21) (by decide) (by decide) _) _) ?_
    refine xx_top (y := s 21 0) (congrFun (laW_o (k := 21) (by decide) (by decide) _) _) ?_
    refine xx_top (y := nI nc) hlc.p1 ?_
    refine v_icN_ge C (t := 95) i3 nc rfl rfl (by omega) (by omega) dX7_passOneDay_71 rfl rfl (fun h6 => ?_) (fun h6 => ?_)
    · skip
      exact v_vret C (by decide) (by decide) dX7_passOneDay_95 ⟨rfl, by (have e1 : i = nm := by omega); (have e3 : i3 = nc := by omega); subst e1 e3; rfl, by trivial⟩
    · skip
      refine v_aload_n C dX7_passOneDay_74 rfl 0 rfl ?_
      refine v_aload_n C dX7_passOneDay_75 rfl 0 rfl ?_
      refine v_get C (v := .ref (a 6 1)) g_X7_37 (m2 (s := ((lpW (fdV ((ulW ((laW (su s 0 0 ((s 0 0) + 1)) i)) (((s 0 0) + 1)) 20)) 40) i3))) (t := t) (g := G.2.2.1) hL) (rg (by decide) rfl) dX7_passOneDay_76 rfl ?_
      refine v_iload_n C dX7_passOneDay_79 rfl 1 rfl ?_
      refine w_invVr C [.int (nI (i3))] 0 0 L_X7_314 (c_Jx4a65c_get_915e3 (s := ((lpW (fdV ((ulW ((laW (su s 0 0 ((s 0 0) + 1)) i)) (((s 0 0) + 1)) 20)) 40) i3))) (t := t) (n := nc) hst hG hL 1 (nI (i3)) i3 rfl (by omega) (by decide) (LsOK.c (congrFun (Eq.trans (lpW_o (k := 21) (by decide) _) (Eq.trans (fdV_o (k := 21) (by decide) _) (Eq.trans (ulW_o (k := 21) (by decide) (by decide) _) (laW_o (k := 21) (by decide) (by decide) _)))) 0) hlc) (by omega)) (m6 (s := ((lpW (fdV ((ulW ((laW (su s 0 0 ((s 0 0) + 1)) i)) (((s 0 0) + 1)) 20)) 40) i3))) (t := t) (g := G.2.2.1) hL 1 (by decide)) rfl rfl rfl rfl dX7_passOneDay_80 rfl kx_no (fun h7 => ?_)
      refine xx_topR (y := a 12 i3) rfl ?_
      refine v_cast C K_X7_123 rfl (m12 (s := ((lpW (fdV ((ulW ((laW (su s 0 0 ((s 0 0) + 1)) i)) (((s 0 0) + 1)) 20)) 40) i3))) (t := t) (g := G.2.2.1) hL i3 (hv_nc _ (by omega))) dX7_passOneDay_83 rfl ?_
      refine w_invVv C [.ref (a 12 i3)] 0 0 L_X7_335 (c_X7_lapseIfDue (s := ((lpW (fdV ((ulW ((laW (su s 0 0 ((s 0 0) + 1)) i)) (((s 0 0) + 1)) 20)) 40) i3))) (t := t) (nm := nm) hst hG hL i3 (LsOK.c (congrFun (Eq.trans (lpW_o (k := 12) (by decide) _) (Eq.trans (fdV_o (k := 12) (by decide) _) (Eq.trans (ulW_o (k := 12) (by decide) (by decide) _) (laW_o (k := 12) (by decide) (by decide) _)))) 0) hlm) hm12 hv_nm (hv_nc _ (by omega)) (Eq.mpr (congrArg (fun z => vp_in z nm) (congrFun (Eq.trans (lpW_o (k := 22) (by decide) _) (Eq.trans (fdV_o (k := 22) (by decide) _) (Eq.trans (ulW_o (k := 22) (by decide) (by decide) _) (laW_o (k := 22) (by decide) (by decide) _)))) _)) (hco _ (by omega)))) (m2 (s := ((lpW (fdV ((ulW ((laW (su s 0 0 ((s 0 0) + 1)) i)) (((s 0 0) + 1)) 20)) 40) i3))) (t := t) (g := G.2.2.1) hL) rfl rfl rfl rfl dX7_passOneDay_86 rfl kx_no (fun h8 => ?_)
      refine v_iincN C (lv1 := [(1, .int (nI (i3 + 1))), (0, .ref (a 2 0))]) i3 rfl dX7_passOneDay_89 rfl 1 rfl (by decide) rfl ?_
      refine v_goto C (q := 63) dX7_passOneDay_92 rfl ?_
      refine xx_lv [1, 0] (lv' := [(0, .ref (a 2 0)), (1, .int (nI (i3 + 1)))]) rfl ?_
      refine xx_wc (w2 := wl a (E G.2.2.1 a (lpW (fdV ((ulW ((laW (su s 0 0 ((s 0 0) + 1)) i)) (((s 0 0) + 1)) 20)) 40) (i3 + 1)) t) L) (lv' := [(0, .ref (a 2 0)), (1, .int (nI (i3 + 1)))]) (by rfl) (by first | rfl | (simp [h2, Nat.not_lt.mpr h2, h6, Nat.not_le.mpr h6, Nat.add_assoc])) ?_
      exact ih_i3 (by omega)
  · skip
    refine v_aload_n C dX7_passOneDay_23 rfl 0 rfl ?_
    refine v_get C (v := .ref (a 6 0)) g_X7_33 (m2 (s := ((laW (su s 0 0 ((s 0 0) + 1)) i))) (t := t) (g := G.2.2.1) hL) (rg (by decide) rfl) dX7_passOneDay_24 rfl ?_
    refine v_iload_n C dX7_passOneDay_27 rfl 1 rfl ?_
    refine w_invVr C [.int (nI (i))] 0 0 L_X7_314 (c_Jx4a65c_get_915e3 (s := ((laW (su s 0 0 ((s 0 0) + 1)) i))) (t := t) (n := nm) hst hG hL 0 (nI (i)) i rfl (by omega) (by decide) (LsOK.c (congrFun (laW_o (k := 12) (by decide) (by decide) _) 0) hlm) (by omega)) (m6 (s := ((laW (su s 0 0 ((s 0 0) + 1)) i))) (t := t) (g := G.2.2.1) hL 0 (by decide)) rfl rfl rfl rfl dX7_passOneDay_28 rfl kx_no (fun h9 => ?_)
    refine xx_topR (y := a 9 i) rfl ?_
    refine v_cast C K_X7_90 rfl (m9 (s := ((laW (su s 0 0 ((s 0 0) + 1)) i))) (t := t) (g := G.2.2.1) hL i (hv_nm _ (by omega))) dX7_passOneDay_31 rfl ?_
    refine w_invVv C [] 0 0 L_X7_326 (c_X3_liveOneDay (s := ((laW (su s 0 0 ((s 0 0) + 1)) i))) (t := t)  hst hG hL i (hv_nm _ (by omega))) (m9 (s := ((laW (su s 0 0 ((s 0 0) + 1)) i))) (t := t) (g := G.2.2.1) hL i (hv_nm _ (by omega))) rfl rfl rfl rfl dX7_passOneDay_34 rfl kx_no (fun h10 => ?_)
    refine v_iincN C (lv1 := [(1, .int (nI (i + 1))), (0, .ref (a 2 0))]) i rfl dX7_passOneDay_37 rfl 1 rfl (by decide) rfl ?_
    refine v_goto C (q := 12) dX7_passOneDay_40 rfl ?_
    refine xx_lv [1, 0] (lv' := [(0, .ref (a 2 0)), (1, .int (nI (i + 1)))]) rfl ?_
    refine xx_wc (w2 := wl a (E G.2.2.1 a (laW (su s 0 0 ((s 0 0) + 1)) (i + 1)) t) L) (lv' := [(0, .ref (a 2 0)), (1, .int (nI (i + 1)))]) (by rfl) (by first | rfl | (simp [h2, Nat.not_le.mpr h2, Nat.add_assoc])) ?_
    exact ih_i (by omega)

