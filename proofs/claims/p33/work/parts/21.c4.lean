def pE (L : List (String × Int32)) (e : Int32) (E : String) : Prop := ∃ v : Int32, (E, v) ∈ L ∧ e = v
abbrev L3 : List (String × Int32) := [(xI, 1), (xA, 2), (xS, 3)]
abbrev LA : List (String × Int32) := [(xA, 1)]
abbrev LAS : List (String × Int32) := [(xA, 1), (xS, 2)]
abbrev LI1 : List (String × Int32) := [(xI, 1)]
abbrev LIS : List (String × Int32) := [(xI, 1), (xS, 2)]
abbrev LIA : List (String × Int32) := [(xI, 1), (xA, 2)]
theorem day0 {z : SS} {d : Nat} (h : z 0 0 = nI d) (hd : d ≤ 5000) : (0 < z 0 0) = ¬ z 0 0 = 0 := by
  rw [h, show (0 : Int32) = nI 0 from rfl, nI_ltI (by omega) (by omega), nI_eq (by omega) (by omega)]
  exact propext ⟨fun h => by omega, fun h => by omega⟩
theorem dropF_o {z : SS} {x v : Int32} {k : Nat} (h9 : k ≠ 9) (h6 : k ≠ 6) : dropF z x v k = z k := by
  unfold dropF
  split
  · exact su_o h9
  · exact su_o h6
theorem digC_o {z : SS} {x v : Int32} {k : Nat} (h9 : k ≠ 9) (h6 : k ≠ 6) : digC z x v k = z k := by
  unfold digC
  rw [dropF_o h9 h6, dropF_o h9 h6]
theorem mi_vp {x z : Int32} {n : Nat} (h : vp_in x n) (hz : z = nI n) (hn : n < 1000) : (0 : Int32) ≤ x ∧ x ≤ z - 1 := by
  obtain ⟨j, hj, rfl⟩ := vp_in_of h (by omega)
  subst hz
  rw [ltc hn]
  exact ⟨nI_pos' (by omega), nI_lt hj (by omega)⟩
theorem slC_c {z z' : SS} {i c : Nat} {d : Int32} (h : z' 52 = z 52) : ∀ n, slC z' i c d n = slC z i c d n
  | 0 => rfl
  | n + 1 => by unfold slC; rw [h, slC_c h n]
theorem slC_01 {z : SS} {i c : Nat} {d : Int32} : ∀ n, slC z i c d n = 0 ∨ slC z i c d n = 1
  | 0 => Or.inl rfl
  | n + 1 => by
    unfold slC
    split
    · split
      · exact Or.inr rfl
      · exact Or.inl rfl
    · exact Or.inr rfl
def psC (z : SS) (nm nc : Nat) : Nat → SS
  | 0 => z
  | i + 1 => dayC (psC z nm nc i) nm nc
theorem psC_o {z : SS} {nm nc k : Nat} (h0 : k ≠ 0) (h5 : k ≠ 5) (h11 : k ≠ 11) (h15 : k ≠ 15) (h17 : k ≠ 17) (h25 : k ≠ 25) (h50 : k ≠ 50) : ∀ n, psC z nm nc n k = z k
  | 0 => rfl
  | n + 1 => by
    unfold psC
    rw [dayC_o h0 h5 h11 h15 h17 h25 h50, psC_o h0 h5 h11 h15 h17 h25 h50 n]
theorem dayC_0 {z : SS} {nm nc : Nat} : dayC z nm nc 0 0 = z 0 0 + 1 := by
  unfold dayC
  rw [lpW_o (by decide), fdV_o (by decide), ulW_o (by decide) (by decide), laW_o (by decide) (by decide)]
  exact su_a
theorem psC_0 {z : SS} {nm nc : Nat} : ∀ n, psC z nm nc n 0 0 = z 0 0 + nI n
  | 0 => by show z 0 0 = z 0 0 + 0; rw [Int32.add_zero]
  | n + 1 => by
    show dayC _ _ _ 0 0 = _
    rw [dayC_0, psC_0 n, nI_succ, Int32.add_assoc]
def campRC (z : SS) (nm : Nat) (w_ : Int32) : Int32 := if w_ = 0 then z 2 0 else if w_ = 1 then z 3 0 else if w_ = 2 then z 5 0 else if w_ = 3 then priceF (z 5 0) else if w_ = 4 then nI (frN z 20) else livN z nm
def ofMinerRC (z : SS) (nm nr : Nat) (x w_ : Int32) : Int32 := if w_ = 0 then z 13 (tn x) else if w_ = 1 then z 14 (tn x) else if w_ = 2 then z 15 (tn x) else if w_ = 3 then z 16 (tn x) else if w_ = 4 then z 17 (tn x) else if w_ = 5 then inW z x nr else if w_ = 6 then z 18 (tn x) else sumN (fun b => z 20 (12 * tn x + b)) 12
def freightEC (z : SS) (m d : Int32) : Int32 := if ¬ (1 ≤ m ∧ m ≤ 1000) then 1 else if ¬ (z 0 0 + 1 ≤ d ∧ d ≤ 5000) then 1 else if ¬ frN z 20 < 20 then 2 else 0
def backEC (z : SS) (x y p m : Int32) : Int32 := if ¬ (((0 : Int32) ≤ x ∧ x ≤ z 12 0 - 1) ∧ ((0 : Int32) ≤ y ∧ y ≤ z 12 0 - 1)) then 1 else if ¬ ((1 ≤ p ∧ p ≤ 100) ∧ (0 ≤ m ∧ m ≤ 100000) ∧ ¬ x = y) then 2 else if z 17 (tn x) = 0 ∨ z 17 (tn y) = 0 ∨ ¬ z 20 (12 * tn y + tn x) = 0 ∨ z 16 (tn x) < m ∨ 100 < sumN (fun b => z 20 (12 * tn y + b)) 12 + p then 3 else 0
def backUC (z : SS) (x y p m : Int32) : SS := su (su (su z 16 (tn x) (z 16 (tn x) - m)) 16 (tn y) ((su z 16 (tn x) (z 16 (tn x) - m)) 16 (tn y) + m)) 20 (12 * tn y + tn x) p
def sellUC (z : SS) (x d : Int32) : SS := if z 13 (tn x) + z 14 (tn x) < z 14 (tn x) * 20 then su z 18 (tn x) (z 18 (tn x) + 1) else su (su (su (su z 14 (tn x) (z 14 (tn x) - brC z (tn x) d)) 13 (tn x) (z 13 (tn x) - (d - brC z (tn x) d))) 16 (tn x) (z 16 (tn x) + d * z 4 0 / 10)) 7 0 (z 7 0 + (d - brC z (tn x) d))
def sellRC (z : SS) (x d : Int32) : Int32 := if z 13 (tn x) + z 14 (tn x) < z 14 (tn x) * 20 then -1 else d * z 4 0 / 10

abbrev r_X7_ground : Room := { frames := 8, cells := 4, slots := 24, locals := 124 }
set_option maxRecDepth 4000 in
theorem c_X7_ground {l : Launch} {G : GG} {a : AD} {s t s0 : SS} {L : List (Nat × Nat)} {dd : Nat} (hst : l.stackTraces = false) (hG : GOK G) (hL : Live L s0) (c : Int32) (m : Int32) (g : Int32) (hday : s 0 0 = nI dd) (hdd : dd ≤ 5000) : Mth l yX7_ground cX7_ground 5 (Option.some Jvm.ClassFile.FieldType.int) r_X7_ground G (wl a (E G.2.2.1 a s t) L) [.ref (a 2 0), .int c, .int m, .int g] (RI (.int (groundR s c m g)) (wl a (E G.2.2.1 a (groundU s c m g) t) L) (groundE s c m g = 0)) (XW (fun E => pE L3 (groundE s c m g) E) (wl a (E G.2.2.1 a s t) L)) := by
  refine mth_of rfl (Nat.le_of_ble_eq_true rfl) hst hG (fun X hX C0 => ?_)
  subst hX
  have C : Cx X G cX7_ground 5 RX7 (Option.some Jvm.ClassFile.FieldType.int) r_X7_ground "ground" [] := C0
  clear C0
  show V X G 5 _ 0 0 _ 0 [(0, .ref (a 2 0)), (1, .int (c)), (2, .int (m)), (3, .int (g))] []
  refine v_iload_n C dX7_ground_0 rfl 1 rfl ?_
  refine w_invSv C [.int (c)] 1 6 L_X7_62 (c_X7_checkCell (s := s) (t := t)  hst hG hL c) rfl rfl rfl dX7_ground_1 rfl (kx_out C (by decide) (fun E w1 hE => by obtain ⟨⟨rfl, h1⟩, rfl⟩ := hE; exact ⟨⟨1, List.Mem.head _, by first | rfl | (simp only [h1, groundE, groundR, groundU, grF, layF, day0 hday hdd, bI, pM, pU, n10, n20, n30, n0, if_true, if_false, ite_true, ite_false, not_true_eq_false, not_false_eq_true, and_true, true_and, and_false, false_and, or_true, true_or, or_false, false_or, reduceIte, and_self, or_self, ne_eq, eq_self_iff_true]; first | done | rfl) | (simp [bI, h1, groundE, groundR, groundU, grF, layF, day0 hday hdd]; done) | (simp only [groundE, groundR, groundU, grF, layF, day0 hday hdd, bI, ← Int32.not_le] at *; simp [h1]; done) | (simp_all [bI, h1, groundE, groundR, groundU, grF, layF, day0 hday hdd]; done) | (simp_all [bI, h1, groundE, groundR, groundU, grF, layF, day0 hday hdd]; rfl) | (exfalso; omega)⟩, rfl⟩)) (fun h2 => ?_)
  refine v_iload_n C dX7_ground_4 rfl 2 rfl ?_
  refine v_iconst C (v := 0) dX7_ground_5 rfl rfl ?_
  refine v_ldc C (v := 100000) dX7_ground_6 rfl N_X7_66 ?_
  refine w_invSv C [.int (m), .int (0), .int (100000)] 2 12 L_X7_67 (c_X7_checkRange (s := s) (t := t)  hst hG hL m 0 100000) rfl rfl rfl dX7_ground_8 rfl (kx_out C (by decide) (fun E w1 hE => by obtain ⟨⟨rfl, h3⟩, rfl⟩ := hE; exact ⟨⟨2, List.Mem.tail _ (List.Mem.head _), by first | rfl | (simp only [h2, h3, groundE, groundR, groundU, grF, layF, day0 hday hdd, bI, pM, pU, n10, n20, n30, n0, if_true, if_false, ite_true, ite_false, not_true_eq_false, not_false_eq_true, and_true, true_and, and_false, false_and, or_true, true_or, or_false, false_or, reduceIte, and_self, or_self, ne_eq, eq_self_iff_true]; first | done | rfl) | (simp [bI, h2, h3, groundE, groundR, groundU, grF, layF, day0 hday hdd]; done) | (simp only [groundE, groundR, groundU, grF, layF, day0 hday hdd, bI, ← Int32.not_le] at *; simp [h2, h3]; done) | (simp_all [bI, h2, h3, groundE, groundR, groundU, grF, layF, day0 hday hdd]; done) | (simp_all [bI, h2, h3, groundE, groundR, groundU, grF, layF, day0 hday hdd]; rfl) | (exfalso; omega)⟩, rfl⟩)) (fun h4 => ?_)
  refine v_iload_n C dX7_ground_11 rfl 3 rfl ?_
  refine v_iconst C (v := 0) dX7_ground_12 rfl rfl ?_
  refine v_bipush C (v := 9) dX7_ground_13 rfl rfl ?_
  refine w_invSv C [.int (g), .int (0), .int (9)] 3 18 L_X7_67 (c_X7_checkRange (s := s) (t := t)  hst hG hL g 0 9) rfl rfl rfl dX7_ground_15 rfl (kx_out C (by decide) (fun E w1 hE => by obtain ⟨⟨rfl, h5⟩, rfl⟩ := hE; exact ⟨⟨2, List.Mem.tail _ (List.Mem.head _), by first | rfl | (simp only [h2, h4, h5, groundE, groundR, groundU, grF, layF, day0 hday hdd, bI, pM, pU, n10, n20, n30, n0, if_true, if_false, ite_true, ite_false, not_true_eq_false, not_false_eq_true, and_true, true_and, and_false, false_and, or_true, true_or, or_false, false_or, reduceIte, and_self, or_self, ne_eq, eq_self_iff_true]; first | done | rfl) | (simp [bI, h2, h4, h5, groundE, groundR, groundU, grF, layF, day0 hday hdd]; done) | (simp only [groundE, groundR, groundU, grF, layF, day0 hday hdd, bI, ← Int32.not_le] at *; simp [h2, h4, h5]; done) | (simp_all [bI, h2, h4, h5, groundE, groundR, groundU, grF, layF, day0 hday hdd]; done) | (simp_all [bI, h2, h4, h5, groundE, groundR, groundU, grF, layF, day0 hday hdd]; rfl) | (exfalso; omega)⟩, rfl⟩)) (fun h6 => ?_)
  refine v_aload_n C dX7_ground_18 rfl 0 rfl ?_
  refine v_get C (v := .int (s 0 0)) g_X7_43 (m2 (s := s) (t := t) (g := G.2.2.1) hL) (rg (by decide) rfl) dX7_ground_19 rfl ?_
  refine v_if_ne C (t := 39) dX7_ground_22 rfl rfl (fun h7 => ?_) (fun h7 => ?_)
  · skip
    refine v_iconst C (v := 0) dX7_ground_39 rfl rfl ?_
    refine w_invSv C [.int (0)] 4 24 L_X7_75 (c_X7_checkState (s := s) (t := t)  hst hG hL 0) rfl rfl rfl dX7_ground_40 rfl (kx_out C (by decide) (fun E w1 hE => by obtain ⟨⟨rfl, h8⟩, rfl⟩ := hE; exact ⟨⟨3, List.Mem.tail _ (List.Mem.tail _ (List.Mem.head _)), by first | rfl | (simp only [h2, h4, h6, h7, h8, groundE, groundR, groundU, grF, layF, day0 hday hdd, bI, pM, pU, n10, n20, n30, n0, if_true, if_false, ite_true, ite_false, not_true_eq_false, not_false_eq_true, and_true, true_and, and_false, false_and, or_true, true_or, or_false, false_or, reduceIte, and_self, or_self, ne_eq, eq_self_iff_true]; first | done | rfl) | (simp [bI, h2, h4, h6, h7, h8, groundE, groundR, groundU, grF, layF, day0 hday hdd]; done) | (simp only [groundE, groundR, groundU, grF, layF, day0 hday hdd, bI, ← Int32.not_le] at *; simp [h2, h4, h6, h7, h8]; done) | (simp_all [bI, h2, h4, h6, h7, h8, groundE, groundR, groundU, grF, layF, day0 hday hdd]; done) | (simp_all [bI, h2, h4, h6, h7, h8, groundE, groundR, groundU, grF, layF, day0 hday hdd]; rfl) | (exfalso; omega)⟩, rfl⟩)) (fun h9 => ?_)
    exact absurd rfl h9
  · skip
    refine v_aload_n C dX7_ground_25 rfl 0 rfl ?_
    refine v_get C (v := .ref (a 3 0)) g_X7_10 (m2 (s := s) (t := t) (g := G.2.2.1) hL) (rg (by decide) rfl) dX7_ground_26 rfl ?_
    refine v_get C (v := .int (s 8 0)) g_X7_71 (m3 (s := s) (t := t) (g := G.2.2.1) hL) rfl dX7_ground_29 rfl ?_
    refine v_if_ne C (t := 39) dX7_ground_32 rfl rfl (fun h10 => ?_) (fun h10 => ?_)
    · skip
      refine v_iconst C (v := 0) dX7_ground_39 rfl rfl ?_
      refine w_invSv C [.int (0)] 4 24 L_X7_75 (c_X7_checkState (s := s) (t := t)  hst hG hL 0) rfl rfl rfl dX7_ground_40 rfl (kx_out C (by decide) (fun E w1 hE => by obtain ⟨⟨rfl, h11⟩, rfl⟩ := hE; exact ⟨⟨3, List.Mem.tail _ (List.Mem.tail _ (List.Mem.head _)), by first | rfl | (simp only [h2, h4, h6, eq_true h7, h10, h11, groundE, groundR, groundU, grF, layF, day0 hday hdd, bI, pM, pU, n10, n20, n30, n0, if_true, if_false, ite_true, ite_false, not_true_eq_false, not_false_eq_true, and_true, true_and, and_false, false_and, or_true, true_or, or_false, false_or, reduceIte, and_self, or_self, ne_eq, eq_self_iff_true]; first | done | rfl) | (simp [bI, h2, h4, h6, eq_true h7, h10, h11, groundE, groundR, groundU, grF, layF, day0 hday hdd]; done) | (simp only [groundE, groundR, groundU, grF, layF, day0 hday hdd, bI, ← Int32.not_le] at *; simp [h2, h4, h6, eq_true h7, h10, h11]; done) | (simp_all [bI, h2, h4, h6, eq_true h7, h10, h11, groundE, groundR, groundU, grF, layF, day0 hday hdd]; done) | (simp_all [bI, h2, h4, h6, eq_true h7, h10, h11, groundE, groundR, groundU, grF, layF, day0 hday hdd]; rfl) | (exfalso; omega)⟩, rfl⟩)) (fun h12 => ?_)
      exact absurd rfl h12
    · skip
      refine v_iconst C (v := 1) dX7_ground_35 rfl rfl ?_
      refine v_goto C (q := 40) dX7_ground_36 rfl ?_
      refine w_invSv C [.int (1)] 4 24 L_X7_75 (c_X7_checkState (s := s) (t := t)  hst hG hL 1) rfl rfl rfl dX7_ground_40 rfl (fun E w1 hE => absurd hE.1.2 (by decide)) (fun h13 => ?_)
      refine v_aload_n C dX7_ground_43 rfl 0 rfl ?_
      refine v_get C (v := .ref (a 3 0)) g_X7_10 (m2 (s := s) (t := t) (g := G.2.2.1) hL) (rg (by decide) rfl) dX7_ground_44 rfl ?_
      refine v_iload_n C dX7_ground_47 rfl 1 rfl ?_
      refine w_invVr C [.int (c)] 4 24 L_X7_79 (c_X1_grainsAt (s := s) (t := t)  hst hG hL c) (m3 (s := s) (t := t) (g := G.2.2.1) hL) rfl rfl rfl rfl dX7_ground_48 rfl kx_no (fun h14 => ?_)
      refine v_istore C (lv1 := [(4, .int (grF s c)), (0, .ref (a 2 0)), (1, .int (c)), (2, .int (m)), (3, .int (g))]) dX7_ground_51 rfl (by decide) rfl ?_
      refine v_aload_n C dX7_ground_53 rfl 1 rfl ?_
      refine v_get C (v := .ref (a 3 0)) g_X7_10 (m2 (s := s) (t := t) (g := G.2.2.1) hL) (rg (by decide) rfl) dX7_ground_54 rfl ?_
      refine v_iload_n C dX7_ground_57 rfl 2 rfl ?_
      refine v_iload_n C dX7_ground_58 rfl 3 rfl ?_
      refine v_iload_n C dX7_ground_59 rfl 4 rfl ?_
      refine w_invVv C [.int (c), .int (m), .int (g)] 4 24 L_X7_83 (c_X1_lay (s := s) (t := t)  hst hG hL c m g) (m3 (s := s) (t := t) (g := G.2.2.1) hL) rfl rfl rfl rfl dX7_ground_60 rfl kx_no (fun h15 => ?_)
      refine v_iload C dX7_ground_63 rfl 0 rfl ?_
      exact v_iret C (by decide) (by decide) dX7_ground_65 ⟨congrArg (fun z => some (Value.int z)) (by first | rfl | (simp only [h2, h4, h6, eq_true h7, eq_true h10, groundE, groundR, groundU, grF, layF, day0 hday hdd, bI, pM, pU, n10, n20, n30, n0, if_true, if_false, ite_true, ite_false, not_true_eq_false, not_false_eq_true, and_true, true_and, and_false, false_and, or_true, true_or, or_false, false_or, reduceIte, and_self, or_self, ne_eq, eq_self_iff_true]; first | done | rfl) | (simp [bI, h2, h4, h6, eq_true h7, eq_true h10, groundE, groundR, groundU, grF, layF, day0 hday hdd]; done) | (simp only [groundE, groundR, groundU, grF, layF, day0 hday hdd, bI, ← Int32.not_le] at *; simp [h2, h4, h6, eq_true h7, eq_true h10]; done) | (simp_all [bI, h2, h4, h6, eq_true h7, eq_true h10, groundE, groundR, groundU, grF, layF, day0 hday hdd]; done) | (simp_all [bI, h2, h4, h6, eq_true h7, eq_true h10, groundE, groundR, groundU, grF, layF, day0 hday hdd]; rfl) | (exfalso; omega)), by first | rfl | (simp only [h2, h4, h6, eq_true h7, eq_true h10, groundE, groundR, groundU, grF, layF, day0 hday hdd, bI, pM, pU, n10, n20, n30, n0, if_true, if_false, ite_true, ite_false, not_true_eq_false, not_false_eq_true, and_true, true_and, and_false, false_and, or_true, true_or, or_false, false_or, reduceIte, and_self, or_self, ne_eq, eq_self_iff_true]; first | done | rfl) | (simp [bI, h2, h4, h6, eq_true h7, eq_true h10, groundE, groundR, groundU, grF, layF, day0 hday hdd]; done) | (simp only [groundE, groundR, groundU, grF, layF, day0 hday hdd, bI, ← Int32.not_le] at *; simp [h2, h4, h6, eq_true h7, eq_true h10]; done) | (simp_all [bI, h2, h4, h6, eq_true h7, eq_true h10, groundE, groundR, groundU, grF, layF, day0 hday hdd]; done) | (simp_all [bI, h2, h4, h6, eq_true h7, eq_true h10, groundE, groundR, groundU, grF, layF, day0 hday hdd]; rfl) | (exfalso; omega), by first | assumption | first | rfl | (simp only [h2, h4, h6, eq_true h7, eq_true h10, groundE, groundR, groundU, grF, layF, day0 hday hdd, bI, pM, pU, n10, n20, n30, n0, if_true, if_false, ite_true, ite_false, not_true_eq_false, not_false_eq_true, and_true, true_and, and_false, false_and, or_true, true_or, or_false, false_or, reduceIte, and_self, or_self, ne_eq, eq_self_iff_true]; first | done | rfl) | (simp [bI, h2, h4, h6, eq_true h7, eq_true h10, groundE, groundR, groundU, grF, layF, day0 hday hdd]; done) | (simp only [groundE, groundR, groundU, grF, layF, day0 hday hdd, bI, ← Int32.not_le] at *; simp [h2, h4, h6, eq_true h7, eq_true h10]; done) | (simp_all [bI, h2, h4, h6, eq_true h7, eq_true h10, groundE, groundR, groundU, grF, layF, day0 hday hdd]; done) | (simp_all [bI, h2, h4, h6, eq_true h7, eq_true h10, groundE, groundR, groundU, grF, layF, day0 hday hdd]; rfl) | (exfalso; omega)⟩

abbrev r_X7_flow : Room := { frames := 8, cells := 1, slots := 6, locals := 124 }
set_option maxRecDepth 4000 in
theorem c_X7_flow {l : Launch} {G : GG} {a : AD} {s t s0 : SS} {L : List (Nat × Nat)}  (hst : l.stackTraces = false) (hG : GOK G) (hL : Live L s0) (x : Int32)  : Mth l yX7_flow cX7_flow 3 (Option.some Jvm.ClassFile.FieldType.int) r_X7_flow G (wl a (E G.2.2.1 a s t) L) [.ref (a 2 0), .int x] (RI (.int (flowR s x)) (wl a (E G.2.2.1 a (flowU s x) t) L) (flowE s x = 0)) (XW (fun E => pE LA (flowE s x) E) (wl a (E G.2.2.1 a s t) L)) := by
  refine mth_of rfl (Nat.le_of_ble_eq_true rfl) hst hG (fun X hX C0 => ?_)
  subst hX
  have C : Cx X G cX7_flow 3 RX7 (Option.some Jvm.ClassFile.FieldType.int) r_X7_flow "flow" [] := C0
  clear C0
  show V X G 3 _ 0 0 _ 0 [(0, .ref (a 2 0)), (1, .int (x))] []
  refine v_iload_n C dX7_flow_0 rfl 1 rfl ?_
  refine v_iconst C (v := 0) dX7_flow_1 rfl rfl ?_
  refine v_sipush C (v := 1000) dX7_flow_2 rfl rfl ?_
  refine w_invSv C [.int (x), .int (0), .int (1000)] 1 6 L_X7_67 (c_X7_checkRange (s := s) (t := t)  hst hG hL x 0 1000) rfl rfl rfl dX7_flow_5 rfl (kx_out C (by decide) (fun E w1 hE => by obtain ⟨⟨rfl, h1⟩, rfl⟩ := hE; exact ⟨⟨1, List.Mem.head _, by first | rfl | (simp only [h1, flowE, flowR, flowU, bI, pM, pU, n10, n20, n30, n0, if_true, if_false, ite_true, ite_false, not_true_eq_false, not_false_eq_true, and_true, true_and, and_false, false_and, or_true, true_or, or_false, false_or, reduceIte, and_self, or_self, ne_eq, eq_self_iff_true]; first | done | rfl) | (simp [bI, h1, flowE, flowR, flowU]; done) | (simp only [flowE, flowR, flowU, bI, ← Int32.not_le] at *; simp [h1]; done) | (simp_all [bI, h1, flowE, flowR, flowU]; done) | (simp_all [bI, h1, flowE, flowR, flowU]; rfl) | (exfalso; omega)⟩, rfl⟩)) (fun h2 => ?_)
  refine v_aload_n C dX7_flow_8 rfl 0 rfl ?_
  refine v_get C (v := .int (s 1 0)) g_X7_47 (m2 (s := s) (t := t) (g := G.2.2.1) hL) (rg (by decide) rfl) dX7_flow_9 rfl ?_
  refine v_istore_n C (lv1 := [(2, .int (s 1 0)), (0, .ref (a 2 0)), (1, .int (x))]) dX7_flow_12 rfl (by decide) rfl ?_
  refine v_aload_n C dX7_flow_13 rfl 1 rfl ?_
  refine v_iload_n C dX7_flow_14 rfl 2 rfl ?_
  refine v_put C f_X7_47 (put_c (s := s) (t := t) (g := G.2.2.1) hL 7 (by decide) (by decide) x) rfl rfl (rg_len (by decide)) dX7_flow_15 rfl ?_
  refine xx_w (w' := wl a (E G.2.2.1 a (su s 1 0 x) t) L) rfl ?_
  refine v_iload_n C dX7_flow_18 rfl 0 rfl ?_
  exact v_iret C (by decide) (by decide) dX7_flow_19 ⟨congrArg (fun z => some (Value.int z)) (by first | rfl | (simp only [h2, flowE, flowR, flowU, bI, pM, pU, n10, n20, n30, n0, if_true, if_false, ite_true, ite_false, not_true_eq_false, not_false_eq_true, and_true, true_and, and_false, false_and, or_true, true_or, or_false, false_or, reduceIte, and_self, or_self, ne_eq, eq_self_iff_true]; first | done | rfl) | (simp [bI, h2, flowE, flowR, flowU]; done) | (simp only [flowE, flowR, flowU, bI, ← Int32.not_le] at *; simp [h2]; done) | (simp_all [bI, h2, flowE, flowR, flowU]; done) | (simp_all [bI, h2, flowE, flowR, flowU]; rfl) | (exfalso; omega)), by first | rfl | (simp only [h2, flowE, flowR, flowU, bI, pM, pU, n10, n20, n30, n0, if_true, if_false, ite_true, ite_false, not_true_eq_false, not_false_eq_true, and_true, true_and, and_false, false_and, or_true, true_or, or_false, false_or, reduceIte, and_self, or_self, ne_eq, eq_self_iff_true]; first | done | rfl) | (simp [bI, h2, flowE, flowR, flowU]; done) | (simp only [flowE, flowR, flowU, bI, ← Int32.not_le] at *; simp [h2]; done) | (simp_all [bI, h2, flowE, flowR, flowU]; done) | (simp_all [bI, h2, flowE, flowR, flowU]; rfl) | (exfalso; omega), by first | assumption | first | rfl | (simp only [h2, flowE, flowR, flowU, bI, pM, pU, n10, n20, n30, n0, if_true, if_false, ite_true, ite_false, not_true_eq_false, not_false_eq_true, and_true, true_and, and_false, false_and, or_true, true_or, or_false, false_or, reduceIte, and_self, or_self, ne_eq, eq_self_iff_true]; first | done | rfl) | (simp [bI, h2, flowE, flowR, flowU]; done) | (simp only [flowE, flowR, flowU, bI, ← Int32.not_le] at *; simp [h2]; done) | (simp_all [bI, h2, flowE, flowR, flowU]; done) | (simp_all [bI, h2, flowE, flowR, flowU]; rfl) | (exfalso; omega)⟩

abbrev r_X7_rate : Room := { frames := 8, cells := 1, slots := 6, locals := 124 }
set_option maxRecDepth 4000 in
theorem c_X7_rate {l : Launch} {G : GG} {a : AD} {s t s0 : SS} {L : List (Nat × Nat)}  (hst : l.stackTraces = false) (hG : GOK G) (hL : Live L s0) (x : Int32)  : Mth l yX7_rate cX7_rate 3 (Option.some Jvm.ClassFile.FieldType.int) r_X7_rate G (wl a (E G.2.2.1 a s t) L) [.ref (a 2 0), .int x] (RI (.int (rateR s x)) (wl a (E G.2.2.1 a (rateU s x) t) L) (rateE s x = 0)) (XW (fun E => pE LA (rateE s x) E) (wl a (E G.2.2.1 a s t) L)) := by
  refine mth_of rfl (Nat.le_of_ble_eq_true rfl) hst hG (fun X hX C0 => ?_)
  subst hX
  have C : Cx X G cX7_rate 3 RX7 (Option.some Jvm.ClassFile.FieldType.int) r_X7_rate "rate" [] := C0
  clear C0
  show V X G 3 _ 0 0 _ 0 [(0, .ref (a 2 0)), (1, .int (x))] []
  refine v_iload_n C dX7_rate_0 rfl 1 rfl ?_
  refine v_iconst C (v := 1) dX7_rate_1 rfl rfl ?_
  refine v_bipush C (v := 100) dX7_rate_2 rfl rfl ?_
  refine w_invSv C [.int (x), .int (1), .int (100)] 1 6 L_X7_67 (c_X7_checkRange (s := s) (t := t)  hst hG hL x 1 100) rfl rfl rfl dX7_rate_4 rfl (kx_out C (by decide) (fun E w1 hE => by obtain ⟨⟨rfl, h1⟩, rfl⟩ := hE; exact ⟨⟨1, List.Mem.head _, by first | rfl | (simp only [h1, rateE, rateR, rateU, bI, pM, pU, n10, n20, n30, n0, if_true, if_false, ite_true, ite_false, not_true_eq_false, not_false_eq_true, and_true, true_and, and_false, false_and, or_true, true_or, or_false, false_or, reduceIte, and_self, or_self, ne_eq, eq_self_iff_true]; first | done | rfl) | (simp [bI, h1, rateE, rateR, rateU]; done) | (simp only [rateE, rateR, rateU, bI, ← Int32.not_le] at *; simp [h1]; done) | (simp_all [bI, h1, rateE, rateR, rateU]; done) | (simp_all [bI, h1, rateE, rateR, rateU]; rfl) | (exfalso; omega)⟩, rfl⟩)) (fun h2 => ?_)
  refine v_aload_n C dX7_rate_7 rfl 0 rfl ?_
  refine v_get C (v := .int (s 4 0)) g_X7_56 (m2 (s := s) (t := t) (g := G.2.2.1) hL) (rg (by decide) rfl) dX7_rate_8 rfl ?_
  refine v_istore_n C (lv1 := [(2, .int (s 4 0)), (0, .ref (a 2 0)), (1, .int (x))]) dX7_rate_11 rfl (by decide) rfl ?_
  refine v_aload_n C dX7_rate_12 rfl 1 rfl ?_
  refine v_iload_n C dX7_rate_13 rfl 2 rfl ?_
  refine v_put C f_X7_56 (put_c (s := s) (t := t) (g := G.2.2.1) hL 10 (by decide) (by decide) x) rfl rfl (rg_len (by decide)) dX7_rate_14 rfl ?_
  refine xx_w (w' := wl a (E G.2.2.1 a (su s 4 0 x) t) L) rfl ?_
  refine v_iload_n C dX7_rate_17 rfl 0 rfl ?_
  exact v_iret C (by decide) (by decide) dX7_rate_18 ⟨congrArg (fun z => some (Value.int z)) (by first | rfl | (simp only [h2, rateE, rateR, rateU, bI, pM, pU, n10, n20, n30, n0, if_true, if_false, ite_true, ite_false, not_true_eq_false, not_false_eq_true, and_true, true_and, and_false, false_and, or_true, true_or, or_false, false_or, reduceIte, and_self, or_self, ne_eq, eq_self_iff_true]; first | done | rfl) | (simp [bI, h2, rateE, rateR, rateU]; done) | (simp only [rateE, rateR, rateU, bI, ← Int32.not_le] at *; simp [h2]; done) | (simp_all [bI, h2, rateE, rateR, rateU]; done) | (simp_all [bI, h2, rateE, rateR, rateU]; rfl) | (exfalso; omega)), by first | rfl | (simp only [h2, rateE, rateR, rateU, bI, pM, pU, n10, n20, n30, n0, if_true, if_false, ite_true, ite_false, not_true_eq_false, not_false_eq_true, and_true, true_and, and_false, false_and, or_true, true_or, or_false, false_or, reduceIte, and_self, or_self, ne_eq, eq_self_iff_true]; first | done | rfl) | (simp [bI, h2, rateE, rateR, rateU]; done) | (simp only [rateE, rateR, rateU, bI, ← Int32.not_le] at *; simp [h2]; done) | (simp_all [bI, h2, rateE, rateR, rateU]; done) | (simp_all [bI, h2, rateE, rateR, rateU]; rfl) | (exfalso; omega), by first | assumption | first | rfl | (simp only [h2, rateE, rateR, rateU, bI, pM, pU, n10, n20, n30, n0, if_true, if_false, ite_true, ite_false, not_true_eq_false, not_false_eq_true, and_true, true_and, and_false, false_and, or_true, true_or, or_false, false_or, reduceIte, and_self, or_self, ne_eq, eq_self_iff_true]; first | done | rfl) | (simp [bI, h2, rateE, rateR, rateU]; done) | (simp only [rateE, rateR, rateU, bI, ← Int32.not_le] at *; simp [h2]; done) | (simp_all [bI, h2, rateE, rateR, rateU]; done) | (simp_all [bI, h2, rateE, rateR, rateU]; rfl) | (exfalso; omega)⟩

abbrev r_X7_sample : Room := { frames := 8, cells := 1, slots := 6, locals := 122 }
set_option maxRecDepth 4000 in
theorem c_X7_sample {l : Launch} {G : GG} {a : AD} {s t s0 : SS} {L : List (Nat × Nat)}  (hst : l.stackTraces = false) (hG : GOK G) (hL : Live L s0) (c : Int32)  : Mth l yX7_sample cX7_sample 2 (Option.some Jvm.ClassFile.FieldType.int) r_X7_sample G (wl a (E G.2.2.1 a s t) L) [.ref (a 2 0), .int c] (RI (.int (sampleR s c)) (wl a (E G.2.2.1 a s t) L) (sampleE s c = 0)) (XW (fun E => pE LI1 (sampleE s c) E) (wl a (E G.2.2.1 a s t) L)) := by
  refine mth_of rfl (Nat.le_of_ble_eq_true rfl) hst hG (fun X hX C0 => ?_)
  subst hX
  have C : Cx X G cX7_sample 2 RX7 (Option.some Jvm.ClassFile.FieldType.int) r_X7_sample "sample" [] := C0
  clear C0
  show V X G 2 _ 0 0 _ 0 [(0, .ref (a 2 0)), (1, .int (c))] []
  refine v_iload_n C dX7_sample_0 rfl 1 rfl ?_
  refine w_invSv C [.int (c)] 1 6 L_X7_62 (c_X7_checkCell (s := s) (t := t)  hst hG hL c) rfl rfl rfl dX7_sample_1 rfl (kx_out C (by decide) (fun E w1 hE => by obtain ⟨⟨rfl, h1⟩, rfl⟩ := hE; exact ⟨⟨1, List.Mem.head _, by first | rfl | (simp only [h1, sampleE, sampleR, grF, bI, pM, pU, n10, n20, n30, n0, if_true, if_false, ite_true, ite_false, not_true_eq_false, not_false_eq_true, and_true, true_and, and_false, false_and, or_true, true_or, or_false, false_or, reduceIte, and_self, or_self, ne_eq, eq_self_iff_true]; first | done | rfl) | (simp [bI, h1, sampleE, sampleR, grF]; done) | (simp only [sampleE, sampleR, grF, bI, ← Int32.not_le] at *; simp [h1]; done) | (simp_all [bI, h1, sampleE, sampleR, grF]; done) | (simp_all [bI, h1, sampleE, sampleR, grF]; rfl) | (exfalso; omega)⟩, rfl⟩)) (fun h2 => ?_)
  refine v_aload_n C dX7_sample_4 rfl 0 rfl ?_
  refine v_get C (v := .ref (a 3 0)) g_X7_10 (m2 (s := s) (t := t) (g := G.2.2.1) hL) (rg (by decide) rfl) dX7_sample_5 rfl ?_
  refine v_iload_n C dX7_sample_8 rfl 1 rfl ?_
  refine w_invVr C [.int (c)] 1 6 L_X7_79 (c_X1_grainsAt (s := s) (t := t)  hst hG hL c) (m3 (s := s) (t := t) (g := G.2.2.1) hL) rfl rfl rfl rfl dX7_sample_9 rfl kx_no (fun h3 => ?_)
  refine v_bipush C (v := 100) dX7_sample_12 rfl rfl ?_
  refine v_idiv C dX7_sample_14 rfl (by decide) ?_
  exact v_iret C (by decide) (by decide) dX7_sample_15 ⟨congrArg (fun z => some (Value.int z)) (by first | rfl | (simp only [h2, sampleE, sampleR, grF, bI, pM, pU, n10, n20, n30, n0, if_true, if_false, ite_true, ite_false, not_true_eq_false, not_false_eq_true, and_true, true_and, and_false, false_and, or_true, true_or, or_false, false_or, reduceIte, and_self, or_self, ne_eq, eq_self_iff_true]; first | done | rfl) | (simp [bI, h2, sampleE, sampleR, grF]; done) | (simp only [sampleE, sampleR, grF, bI, ← Int32.not_le] at *; simp [h2]; done) | (simp_all [bI, h2, sampleE, sampleR, grF]; done) | (simp_all [bI, h2, sampleE, sampleR, grF]; rfl) | (exfalso; omega)), by rfl, by first | assumption | first | rfl | (simp only [h2, sampleE, sampleR, grF, bI, pM, pU, n10, n20, n30, n0, if_true, if_false, ite_true, ite_false, not_true_eq_false, not_false_eq_true, and_true, true_and, and_false, false_and, or_true, true_or, or_false, false_or, reduceIte, and_self, or_self, ne_eq, eq_self_iff_true]; first | done | rfl) | (simp [bI, h2, sampleE, sampleR, grF]; done) | (simp only [sampleE, sampleR, grF, bI, ← Int32.not_le] at *; simp [h2]; done) | (simp_all [bI, h2, sampleE, sampleR, grF]; done) | (simp_all [bI, h2, sampleE, sampleR, grF]; rfl) | (exfalso; omega)⟩

abbrev r_X7_belief : Room := { frames := 8, cells := 1, slots := 6, locals := 122 }
set_option maxRecDepth 4000 in
theorem c_X7_belief {l : Launch} {G : GG} {a : AD} {s t s0 : SS} {L : List (Nat × Nat)}  (hst : l.stackTraces = false) (hG : GOK G) (hL : Live L s0) (c : Int32)  : Mth l yX7_belief cX7_belief 2 (Option.some Jvm.ClassFile.FieldType.int) r_X7_belief G (wl a (E G.2.2.1 a s t) L) [.ref (a 2 0), .int c] (RI (.int (beliefR s c)) (wl a (E G.2.2.1 a s t) L) (beliefE s c = 0)) (XW (fun E => pE LI1 (beliefE s c) E) (wl a (E G.2.2.1 a s t) L)) := by
  refine mth_of rfl (Nat.le_of_ble_eq_true rfl) hst hG (fun X hX C0 => ?_)
  subst hX
  have C : Cx X G cX7_belief 2 RX7 (Option.some Jvm.ClassFile.FieldType.int) r_X7_belief "belief" [] := C0
  clear C0
  show V X G 2 _ 0 0 _ 0 [(0, .ref (a 2 0)), (1, .int (c))] []
  refine v_iload_n C dX7_belief_0 rfl 1 rfl ?_
  refine w_invSv C [.int (c)] 1 6 L_X7_62 (c_X7_checkCell (s := s) (t := t)  hst hG hL c) rfl rfl rfl dX7_belief_1 rfl (kx_out C (by decide) (fun E w1 hE => by obtain ⟨⟨rfl, h1⟩, rfl⟩ := hE; exact ⟨⟨1, List.Mem.head _, by first | rfl | (simp only [h1, beliefE, beliefR, belF, bI, pM, pU, n10, n20, n30, n0, if_true, if_false, ite_true, ite_false, not_true_eq_false, not_false_eq_true, and_true, true_and, and_false, false_and, or_true, true_or, or_false, false_or, reduceIte, and_self, or_self, ne_eq, eq_self_iff_true]; first | done | rfl) | (simp [bI, h1, beliefE, beliefR, belF]; done) | (simp only [beliefE, beliefR, belF, bI, ← Int32.not_le] at *; simp [h1]; done) | (simp_all [bI, h1, beliefE, beliefR, belF]; done) | (simp_all [bI, h1, beliefE, beliefR, belF]; rfl) | (exfalso; omega)⟩, rfl⟩)) (fun h2 => ?_)
  refine v_aload_n C dX7_belief_4 rfl 0 rfl ?_
  refine v_get C (v := .ref (a 5 0)) g_X7_26 (m2 (s := s) (t := t) (g := G.2.2.1) hL) (rg (by decide) rfl) dX7_belief_5 rfl ?_
  refine v_iload_n C dX7_belief_8 rfl 1 rfl ?_
  refine w_invVr C [.int (c)] 1 6 L_X7_264 (c_X5_beliefOf (s := s) (t := t)  hst hG hL c) (m5 (s := s) (t := t) (g := G.2.2.1) hL) rfl rfl rfl rfl dX7_belief_9 rfl kx_no (fun h3 => ?_)
  exact v_iret C (by decide) (by decide) dX7_belief_12 ⟨congrArg (fun z => some (Value.int z)) (by first | rfl | (simp only [h2, beliefE, beliefR, belF, bI, pM, pU, n10, n20, n30, n0, if_true, if_false, ite_true, ite_false, not_true_eq_false, not_false_eq_true, and_true, true_and, and_false, false_and, or_true, true_or, or_false, false_or, reduceIte, and_self, or_self, ne_eq, eq_self_iff_true]; first | done | rfl) | (simp [bI, h2, beliefE, beliefR, belF]; done) | (simp only [beliefE, beliefR, belF, bI, ← Int32.not_le] at *; simp [h2]; done) | (simp_all [bI, h2, beliefE, beliefR, belF]; done) | (simp_all [bI, h2, beliefE, beliefR, belF]; rfl) | (exfalso; omega)), by rfl, by first | assumption | first | rfl | (simp only [h2, beliefE, beliefR, belF, bI, pM, pU, n10, n20, n30, n0, if_true, if_false, ite_true, ite_false, not_true_eq_false, not_false_eq_true, and_true, true_and, and_false, false_and, or_true, true_or, or_false, false_or, reduceIte, and_self, or_self, ne_eq, eq_self_iff_true]; first | done | rfl) | (simp [bI, h2, beliefE, beliefR, belF]; done) | (simp only [beliefE, beliefR, belF, bI, ← Int32.not_le] at *; simp [h2]; done) | (simp_all [bI, h2, beliefE, beliefR, belF]; done) | (simp_all [bI, h2, beliefE, beliefR, belF]; rfl) | (exfalso; omega)⟩

abbrev r_X7_rumour : Room := { frames := 8, cells := 2, slots := 12, locals := 124 }
set_option maxRecDepth 4000 in
theorem c_X7_rumour {l : Launch} {G : GG} {a : AD} {s t s0 : SS} {L : List (Nat × Nat)}  (hst : l.stackTraces = false) (hG : GOK G) (hL : Live L s0) (c : Int32) (b : Int32)  : Mth l yX7_rumour cX7_rumour 4 (Option.some Jvm.ClassFile.FieldType.int) r_X7_rumour G (wl a (E G.2.2.1 a s t) L) [.ref (a 2 0), .int c, .int b] (RI (.int (rumourR s c b)) (wl a (E G.2.2.1 a (rumourU s c b) t) L) (rumourE s c b = 0)) (XW (fun E => pE LIA (rumourE s c b) E) (wl a (E G.2.2.1 a s t) L)) := by
  refine mth_of rfl (Nat.le_of_ble_eq_true rfl) hst hG (fun X hX C0 => ?_)
  subst hX
  have C : Cx X G cX7_rumour 4 RX7 (Option.some Jvm.ClassFile.FieldType.int) r_X7_rumour "rumour" [] := C0
  clear C0
  show V X G 4 _ 0 0 _ 0 [(0, .ref (a 2 0)), (1, .int (c)), (2, .int (b))] []
  refine v_iload_n C dX7_rumour_0 rfl 1 rfl ?_
  refine w_invSv C [.int (c)] 1 6 L_X7_62 (c_X7_checkCell (s := s) (t := t)  hst hG hL c) rfl rfl rfl dX7_rumour_1 rfl (kx_out C (by decide) (fun E w1 hE => by obtain ⟨⟨rfl, h1⟩, rfl⟩ := hE; exact ⟨⟨1, List.Mem.head _, by first | rfl | (simp only [h1, rumourE, rumourR, rumourU, belF, tellF, bI, pM, pU, n10, n20, n30, n0, if_true, if_false, ite_true, ite_false, not_true_eq_false, not_false_eq_true, and_true, true_and, and_false, false_and, or_true, true_or, or_false, false_or, reduceIte, and_self, or_self, ne_eq, eq_self_iff_true]; first | done | rfl) | (simp [bI, h1, rumourE, rumourR, rumourU, belF, tellF]; done) | (simp only [rumourE, rumourR, rumourU, belF, tellF, bI, ← Int32.not_le] at *; simp [h1]; done) | (simp_all [bI, h1, rumourE, rumourR, rumourU, belF, tellF]; done) | (simp_all [bI, h1, rumourE, rumourR, rumourU, belF, tellF]; rfl) | (exfalso; omega)⟩, rfl⟩)) (fun h2 => ?_)
  refine v_iload_n C dX7_rumour_4 rfl 2 rfl ?_
  refine v_iconst C (v := 0) dX7_rumour_5 rfl rfl ?_
  refine v_bipush C (v := 100) dX7_rumour_6 rfl rfl ?_
  refine w_invSv C [.int (b), .int (0), .int (100)] 2 12 L_X7_67 (c_X7_checkRange (s := s) (t := t)  hst hG hL b 0 100) rfl rfl rfl dX7_rumour_8 rfl (kx_out C (by decide) (fun E w1 hE => by obtain ⟨⟨rfl, h3⟩, rfl⟩ := hE; exact ⟨⟨2, List.Mem.tail _ (List.Mem.head _), by first | rfl | (simp only [h2, h3, rumourE, rumourR, rumourU, belF, tellF, bI, pM, pU, n10, n20, n30, n0, if_true, if_false, ite_true, ite_false, not_true_eq_false, not_false_eq_true, and_true, true_and, and_false, false_and, or_true, true_or, or_false, false_or, reduceIte, and_self, or_self, ne_eq, eq_self_iff_true]; first | done | rfl) | (simp [bI, h2, h3, rumourE, rumourR, rumourU, belF, tellF]; done) | (simp only [rumourE, rumourR, rumourU, belF, tellF, bI, ← Int32.not_le] at *; simp [h2, h3]; done) | (simp_all [bI, h2, h3, rumourE, rumourR, rumourU, belF, tellF]; done) | (simp_all [bI, h2, h3, rumourE, rumourR, rumourU, belF, tellF]; rfl) | (exfalso; omega)⟩, rfl⟩)) (fun h4 => ?_)
  refine v_aload_n C dX7_rumour_11 rfl 0 rfl ?_
  refine v_get C (v := .ref (a 5 0)) g_X7_26 (m2 (s := s) (t := t) (g := G.2.2.1) hL) (rg (by decide) rfl) dX7_rumour_12 rfl ?_
  refine v_iload_n C dX7_rumour_15 rfl 1 rfl ?_
  refine w_invVr C [.int (c)] 2 12 L_X7_264 (c_X5_beliefOf (s := s) (t := t)  hst hG hL c) (m5 (s := s) (t := t) (g := G.2.2.1) hL) rfl rfl rfl rfl dX7_rumour_16 rfl kx_no (fun h5 => ?_)
  refine v_istore_n C (lv1 := [(3, .int (belF s c)), (0, .ref (a 2 0)), (1, .int (c)), (2, .int (b))]) dX7_rumour_19 rfl (by decide) rfl ?_
  refine v_aload_n C dX7_rumour_20 rfl 1 rfl ?_
  refine v_get C (v := .ref (a 5 0)) g_X7_26 (m2 (s := s) (t := t) (g := G.2.2.1) hL) (rg (by decide) rfl) dX7_rumour_21 rfl ?_
  refine v_iload_n C dX7_rumour_24 rfl 2 rfl ?_
  refine v_iload_n C dX7_rumour_25 rfl 3 rfl ?_
  refine w_invVv C [.int (c), .int (b)] 2 12 L_X7_267 (c_X5_tell (s := s) (t := t)  hst hG hL c b) (m5 (s := s) (t := t) (g := G.2.2.1) hL) rfl rfl rfl rfl dX7_rumour_26 rfl kx_no (fun h6 => ?_)
  refine v_iload_n C dX7_rumour_29 rfl 0 rfl ?_
  exact v_iret C (by decide) (by decide) dX7_rumour_30 ⟨congrArg (fun z => some (Value.int z)) (by first | rfl | (simp only [h2, h4, rumourE, rumourR, rumourU, belF, tellF, bI, pM, pU, n10, n20, n30, n0, if_true, if_false, ite_true, ite_false, not_true_eq_false, not_false_eq_true, and_true, true_and, and_false, false_and, or_true, true_or, or_false, false_or, reduceIte, and_self, or_self, ne_eq, eq_self_iff_true]; first | done | rfl) | (simp [bI, h2, h4, rumourE, rumourR, rumourU, belF, tellF]; done) | (simp only [rumourE, rumourR, rumourU, belF, tellF, bI, ← Int32.not_le] at *; simp [h2, h4]; done) | (simp_all [bI, h2, h4, rumourE, rumourR, rumourU, belF, tellF]; done) | (simp_all [bI, h2, h4, rumourE, rumourR, rumourU, belF, tellF]; rfl) | (exfalso; omega)), by first | rfl | (simp only [h2, h4, rumourE, rumourR, rumourU, belF, tellF, bI, pM, pU, n10, n20, n30, n0, if_true, if_false, ite_true, ite_false, not_true_eq_false, not_false_eq_true, and_true, true_and, and_false, false_and, or_true, true_or, or_false, false_or, reduceIte, and_self, or_self, ne_eq, eq_self_iff_true]; first | done | rfl) | (simp [bI, h2, h4, rumourE, rumourR, rumourU, belF, tellF]; done) | (simp only [rumourE, rumourR, rumourU, belF, tellF, bI, ← Int32.not_le] at *; simp [h2, h4]; done) | (simp_all [bI, h2, h4, rumourE, rumourR, rumourU, belF, tellF]; done) | (simp_all [bI, h2, h4, rumourE, rumourR, rumourU, belF, tellF]; rfl) | (exfalso; omega), by first | assumption | first | rfl | (simp only [h2, h4, rumourE, rumourR, rumourU, belF, tellF, bI, pM, pU, n10, n20, n30, n0, if_true, if_false, ite_true, ite_false, not_true_eq_false, not_false_eq_true, and_true, true_and, and_false, false_and, or_true, true_or, or_false, false_or, reduceIte, and_self, or_self, ne_eq, eq_self_iff_true]; first | done | rfl) | (simp [bI, h2, h4, rumourE, rumourR, rumourU, belF, tellF]; done) | (simp only [rumourE, rumourR, rumourU, belF, tellF, bI, ← Int32.not_le] at *; simp [h2, h4]; done) | (simp_all [bI, h2, h4, rumourE, rumourR, rumourU, belF, tellF]; done) | (simp_all [bI, h2, h4, rumourE, rumourR, rumourU, belF, tellF]; rfl) | (exfalso; omega)⟩

abbrev r_X7_brass : Room := { frames := 8, cells := 3, slots := 18, locals := 124 }
set_option maxRecDepth 4000 in
theorem c_X7_brass {l : Launch} {G : GG} {a : AD} {s t s0 : SS} {L : List (Nat × Nat)} {nm : Nat} (hst : l.stackTraces = false) (hG : GOK G) (hL : Live L s0) (x : Int32) (m : Int32) (hlm : LsOK a s s0 0 nm) (hm12 : nm ≤ 12) (hv_nm : ∀ i, i < nm → i < tn (s0 12 0)) : Mth l yX7_brass cX7_brass 4 (Option.some Jvm.ClassFile.FieldType.int) r_X7_brass G (wl a (E G.2.2.1 a s t) L) [.ref (a 2 0), .int x, .int m] (RI (.int (brassR s x m)) (wl a (E G.2.2.1 a (brassU s x m) t) L) (brassE s x m = 0)) (XW (fun E => pE L3 (brassE s x m) E) (wl a (E G.2.2.1 a s t) L)) := by
  refine mth_of rfl (Nat.le_of_ble_eq_true rfl) hst hG (fun X hX C0 => ?_)
  subst hX
  have C : Cx X G cX7_brass 4 RX7 (Option.some Jvm.ClassFile.FieldType.int) r_X7_brass "brass" [] := C0
  clear C0
  show V X G 4 _ 0 0 _ 0 [(0, .ref (a 2 0)), (1, .int (x)), (2, .int (m))] []
  refine v_aload_n C dX7_brass_0 rfl 0 rfl ?_
  refine v_iload_n C dX7_brass_1 rfl 1 rfl ?_
  refine w_invVr C [.int (x)] 1 6 L_X7_108 (c_X7_minerAt (s := s) (t := t) (nm := nm) hst hG hL x hlm hm12 hv_nm) (m2 (s := s) (t := t) (g := G.2.2.1) hL) rfl rfl rfl rfl dX7_brass_2 rfl (kx_out C (by decide) (fun E w1 hE => by obtain ⟨⟨rfl, h1⟩, rfl⟩ := hE; exact ⟨⟨1, List.Mem.head _, by first | rfl | (simp only [h1, brassE, brassR, brassU, bI, pM, pU, n10, n20, n30, n0, if_true, if_false, ite_true, ite_false, not_true_eq_false, not_false_eq_true, and_true, true_and, and_false, false_and, or_true, true_or, or_false, false_or, reduceIte, and_self, or_self, ne_eq, eq_self_iff_true]; first | done | rfl) | (simp [bI, h1, brassE, brassR, brassU]; done) | (simp only [brassE, brassR, brassU, bI, ← Int32.not_le] at *; simp [h1]; done) | (simp_all [bI, h1, brassE, brassR, brassU]; done) | (simp_all [bI, h1, brassE, brassR, brassU]; rfl) | (exfalso; omega)⟩, rfl⟩)) (fun h2 => ?_)
  have lh2 : tn x < nm := in_lt (vp_cnt h2 hlm.p0 (Nat.le_refl _) (by omega))
  refine v_astore_n C (lv1 := [(3, .ref (a 9 (tn x))), (0, .ref (a 2 0)), (1, .int (x)), (2, .int (m))]) dX7_brass_5 rfl (by decide) rfl ?_
  refine v_iload_n C dX7_brass_6 rfl 3 rfl ?_
  refine v_iconst C (v := 1) dX7_brass_7 rfl rfl ?_
  refine v_sipush C (v := 10000) dX7_brass_8 rfl rfl ?_
  refine w_invSv C [.int (m), .int (1), .int (10000)] 2 12 L_X7_67 (c_X7_checkRange (s := s) (t := t)  hst hG hL m 1 10000) rfl rfl rfl dX7_brass_11 rfl (kx_out C (by decide) (fun E w1 hE => by obtain ⟨⟨rfl, h3⟩, rfl⟩ := hE; exact ⟨⟨2, List.Mem.tail _ (List.Mem.head _), by first | rfl | (simp only [h2, h3, brassE, brassR, brassU, bI, pM, pU, n10, n20, n30, n0, if_true, if_false, ite_true, ite_false, not_true_eq_false, not_false_eq_true, and_true, true_and, and_false, false_and, or_true, true_or, or_false, false_or, reduceIte, and_self, or_self, ne_eq, eq_self_iff_true]; first | done | rfl) | (simp [bI, h2, h3, brassE, brassR, brassU]; done) | (simp only [brassE, brassR, brassU, bI, ← Int32.not_le] at *; simp [h2, h3]; done) | (simp_all [bI, h2, h3, brassE, brassR, brassU]; done) | (simp_all [bI, h2, h3, brassE, brassR, brassU]; rfl) | (exfalso; omega)⟩, rfl⟩)) (fun h4 => ?_)
  refine v_aload_n C dX7_brass_14 rfl 0 rfl ?_
  refine w_invVr C [] 2 12 L_X7_115 (c_X3_isDead (s := s) (t := t)  hst hG hL (tn x) (hv_nm _ (by omega))) (m9 (s := s) (t := t) (g := G.2.2.1) hL (tn x) (hv_nm _ (by omega))) rfl rfl rfl rfl dX7_brass_15 rfl kx_no (fun h5 => ?_)
  refine v_ifB_ne C (t := 36) dX7_brass_18 rfl rfl (fun h6 => ?_) (fun h6 => ?_)
  · skip
    refine v_iconst C (v := 0) dX7_brass_36 rfl rfl ?_
    refine w_invSv C [.int (0)] 3 18 L_X7_75 (c_X7_checkState (s := s) (t := t)  hst hG hL 0) rfl rfl rfl dX7_brass_37 rfl (kx_out C (by decide) (fun E w1 hE => by obtain ⟨⟨rfl, h7⟩, rfl⟩ := hE; exact ⟨⟨3, List.Mem.tail _ (List.Mem.tail _ (List.Mem.head _)), by first | rfl | (simp only [h2, h4, eq_true h6, h7, brassE, brassR, brassU, bI, pM, pU, n10, n20, n30, n0, if_true, if_false, ite_true, ite_false, not_true_eq_false, not_false_eq_true, and_true, true_and, and_false, false_and, or_true, true_or, or_false, false_or, reduceIte, and_self, or_self, ne_eq, eq_self_iff_true]; first | done | rfl) | (simp [bI, h2, h4, eq_true h6, h7, brassE, brassR, brassU]; done) | (simp only [brassE, brassR, brassU, bI, ← Int32.not_le] at *; simp [h2, h4, eq_true h6, h7]; done) | (simp_all [bI, h2, h4, eq_true h6, h7, brassE, brassR, brassU]; done) | (simp_all [bI, h2, h4, eq_true h6, h7, brassE, brassR, brassU]; rfl) | (exfalso; omega)⟩, rfl⟩)) (fun h8 => ?_)
    exact absurd rfl h8
  · skip
    refine v_aload_n C dX7_brass_21 rfl 0 rfl ?_
    refine v_get C (v := .int (s 14 (tn x))) g_X7_178 (m9 (s := s) (t := t) (g := G.2.2.1) hL (tn x) (hv_nm _ (by omega))) (rg (by decide) rfl) dX7_brass_22 rfl ?_
    refine v_iload_n C dX7_brass_25 rfl 3 rfl ?_
    refine v_iadd C dX7_brass_26 rfl ?_
    refine v_ldc C (v := 100000) dX7_brass_27 rfl N_X7_66 ?_
    refine v_icmp_gt C (t := 36) dX7_brass_29 rfl rfl (fun h9 => ?_) (fun h9 => ?_)
    · skip
      refine v_iconst C (v := 0) dX7_brass_36 rfl rfl ?_
      refine w_invSv C [.int (0)] 3 18 L_X7_75 (c_X7_checkState (s := s) (t := t)  hst hG hL 0) rfl rfl rfl dX7_brass_37 rfl (kx_out C (by decide) (fun E w1 hE => by obtain ⟨⟨rfl, h10⟩, rfl⟩ := hE; exact ⟨⟨3, List.Mem.tail _ (List.Mem.tail _ (List.Mem.head _)), by first | rfl | (simp only [h2, h4, h6, h9, Int32.not_le.mpr h9, h10, brassE, brassR, brassU, bI, pM, pU, n10, n20, n30, n0, if_true, if_false, ite_true, ite_false, not_true_eq_false, not_false_eq_true, and_true, true_and, and_false, false_and, or_true, true_or, or_false, false_or, reduceIte, and_self, or_self, ne_eq, eq_self_iff_true]; first | done | rfl) | (simp [bI, h2, h4, h6, h9, Int32.not_le.mpr h9, h10, brassE, brassR, brassU]; done) | (simp only [brassE, brassR, brassU, bI, ← Int32.not_le] at *; simp [h2, h4, h6, h9, Int32.not_le.mpr h9, h10]; done) | (simp_all [bI, h2, h4, h6, h9, Int32.not_le.mpr h9, h10, brassE, brassR, brassU]; done) | (simp_all [bI, h2, h4, h6, h9, Int32.not_le.mpr h9, h10, brassE, brassR, brassU]; rfl) | (exfalso; omega)⟩, rfl⟩)) (fun h11 => ?_)
      exact absurd rfl h11
    · skip
      refine v_iconst C (v := 1) dX7_brass_32 rfl rfl ?_
      refine v_goto C (q := 37) dX7_brass_33 rfl ?_
      refine w_invSv C [.int (1)] 3 18 L_X7_75 (c_X7_checkState (s := s) (t := t)  hst hG hL 1) rfl rfl rfl dX7_brass_37 rfl (fun E w1 hE => absurd hE.1.2 (by decide)) (fun h12 => ?_)
      refine v_aload_n C dX7_brass_40 rfl 0 rfl ?_
      refine v_dup C dX7_brass_41 rfl rfl ?_
      refine v_get C (v := .int (s 14 (tn x))) g_X7_178 (m9 (s := s) (t := t) (g := G.2.2.1) hL (tn x) (hv_nm _ (by omega))) (rg (by decide) rfl) dX7_brass_42 rfl ?_
      refine v_iload_n C dX7_brass_45 rfl 3 rfl ?_
      refine v_iadd C dX7_brass_46 rfl ?_
      refine v_put C f_X7_178 (put_n (s := s) (t := t) (g := G.2.2.1) hL 3 (by decide) (by decide) (tn x) (hv_nm _ (by omega)) ((s 14 (tn x)) + m)) rfl rfl (rg_len (by decide)) dX7_brass_47 rfl ?_
      refine xx_w (w' := wl a (E G.2.2.1 a (su s 14 (tn x) ((s 14 (tn x)) + m)) t) L) rfl ?_
      refine v_aload_n C dX7_brass_50 rfl 0 rfl ?_
      refine v_get C (v := .int ((su s 14 (tn x) ((s 14 (tn x)) + m)) 14 (tn x))) g_X7_178 (m9 (s := ((su s 14 (tn x) ((s 14 (tn x)) + m)))) (t := t) (g := G.2.2.1) hL (tn x) (hv_nm _ (by omega))) (rg (by decide) rfl) dX7_brass_51 rfl ?_
      refine xx_top (y := (s 14 (tn x)) + m) (su_a (s := s) (k := 14) (i := tn x) (v := (s 14 (tn x)) + m)) ?_
      exact v_iret C (by decide) (by decide) dX7_brass_54 ⟨congrArg (fun z => some (Value.int z)) (by first | rfl | (simp only [h2, h4, h6, h9, Int32.not_lt.mp h9, brassE, brassR, brassU, bI, pM, pU, n10, n20, n30, n0, if_true, if_false, ite_true, ite_false, not_true_eq_false, not_false_eq_true, and_true, true_and, and_false, false_and, or_true, true_or, or_false, false_or, reduceIte, and_self, or_self, ne_eq, eq_self_iff_true]; first | done | rfl) | (simp [bI, h2, h4, h6, h9, Int32.not_lt.mp h9, brassE, brassR, brassU]; done) | (simp only [brassE, brassR, brassU, bI, ← Int32.not_le] at *; simp [h2, h4, h6, h9, Int32.not_lt.mp h9]; done) | (simp_all [bI, h2, h4, h6, h9, Int32.not_lt.mp h9, brassE, brassR, brassU]; done) | (simp_all [bI, h2, h4, h6, h9, Int32.not_lt.mp h9, brassE, brassR, brassU]; rfl) | (exfalso; omega)), by first | rfl | (simp only [h2, h4, h6, h9, Int32.not_lt.mp h9, brassE, brassR, brassU, bI, pM, pU, n10, n20, n30, n0, if_true, if_false, ite_true, ite_false, not_true_eq_false, not_false_eq_true, and_true, true_and, and_false, false_and, or_true, true_or, or_false, false_or, reduceIte, and_self, or_self, ne_eq, eq_self_iff_true]; first | done | rfl) | (simp [bI, h2, h4, h6, h9, Int32.not_lt.mp h9, brassE, brassR, brassU]; done) | (simp only [brassE, brassR, brassU, bI, ← Int32.not_le] at *; simp [h2, h4, h6, h9, Int32.not_lt.mp h9]; done) | (simp_all [bI, h2, h4, h6, h9, Int32.not_lt.mp h9, brassE, brassR, brassU]; done) | (simp_all [bI, h2, h4, h6, h9, Int32.not_lt.mp h9, brassE, brassR, brassU]; rfl) | (exfalso; omega), by first | assumption | first | rfl | (simp only [h2, h4, h6, h9, Int32.not_lt.mp h9, brassE, brassR, brassU, bI, pM, pU, n10, n20, n30, n0, if_true, if_false, ite_true, ite_false, not_true_eq_false, not_false_eq_true, and_true, true_and, and_false, false_and, or_true, true_or, or_false, false_or, reduceIte, and_self, or_self, ne_eq, eq_self_iff_true]; first | done | rfl) | (simp [bI, h2, h4, h6, h9, Int32.not_lt.mp h9, brassE, brassR, brassU]; done) | (simp only [brassE, brassR, brassU, bI, ← Int32.not_le] at *; simp [h2, h4, h6, h9, Int32.not_lt.mp h9]; done) | (simp_all [bI, h2, h4, h6, h9, Int32.not_lt.mp h9, brassE, brassR, brassU]; done) | (simp_all [bI, h2, h4, h6, h9, Int32.not_lt.mp h9, brassE, brassR, brassU]; rfl) | (exfalso; omega)⟩

abbrev r_X7_meet : Room := { frames := 8, cells := 5, slots := 30, locals := 124 }
set_option maxRecDepth 4000 in
theorem c_X7_meet {l : Launch} {G : GG} {a : AD} {s t s0 : SS} {L : List (Nat × Nat)} {nm : Nat} (hst : l.stackTraces = false) (hG : GOK G) (hL : Live L s0) (m : Int32) (d : Int32) (y : Int32) (n_ : Int32) (hlm : LsOK a s s0 0 nm) (hm12 : nm ≤ 12) (hv_nm : ∀ i, i < nm → i < tn (s0 12 0)) : Mth l yX7_meet cX7_meet 6 (Option.some Jvm.ClassFile.FieldType.boolean) r_X7_meet G (wl a (E G.2.2.1 a s t) L) [.ref (a 2 0), .int m, .int d, .int y, .int n_] (RI (.int (meetR s nm m d y n_)) (wl a (E G.2.2.1 a (meetU s nm m d y n_) t) L) (meetE s nm m d y n_ = 0)) (XW (fun E => pE LA (meetE s nm m d y n_) E) (wl a (E G.2.2.1 a s t) L)) := by
  refine mth_of rfl (Nat.le_of_ble_eq_true rfl) hst hG (fun X hX C0 => ?_)
  subst hX
  have C : Cx X G cX7_meet 6 RX7 (Option.some Jvm.ClassFile.FieldType.boolean) r_X7_meet "meet" [] := C0
  clear C0
  show V X G 6 _ 0 0 _ 0 [(0, .ref (a 2 0)), (1, .int (m)), (2, .int (d)), (3, .int (y)), (4, .int (n_))] []
  refine v_iload_n C dX7_meet_0 rfl 1 rfl ?_
  refine v_iconst C (v := 1) dX7_meet_1 rfl rfl ?_
  refine v_bipush C (v := 10) dX7_meet_2 rfl rfl ?_
  refine w_invSv C [.int (m), .int (1), .int (10)] 1 6 L_X7_67 (c_X7_checkRange (s := s) (t := t)  hst hG hL m 1 10) rfl rfl rfl dX7_meet_4 rfl (kx_out C (by decide) (fun E w1 hE => by obtain ⟨⟨rfl, h1⟩, rfl⟩ := hE; exact ⟨⟨1, List.Mem.head _, by first | rfl | (simp only [h1, meetE, meetR, meetU, bI, pM, pU, n10, n20, n30, n0, if_true, if_false, ite_true, ite_false, not_true_eq_false, not_false_eq_true, and_true, true_and, and_false, false_and, or_true, true_or, or_false, false_or, reduceIte, and_self, or_self, ne_eq, eq_self_iff_true]; first | done | rfl) | (simp [bI, h1, meetE, meetR, meetU]; done) | (simp only [meetE, meetR, meetU, bI, ← Int32.not_le] at *; simp [h1]; done) | (simp_all [bI, h1, meetE, meetR, meetU]; done) | (simp_all [bI, h1, meetE, meetR, meetU]; rfl) | (exfalso; omega)⟩, rfl⟩)) (fun h2 => ?_)
  refine v_iload_n C dX7_meet_7 rfl 2 rfl ?_
  refine v_iconst C (v := 1) dX7_meet_8 rfl rfl ?_
  refine v_bipush C (v := 100) dX7_meet_9 rfl rfl ?_
  refine w_invSv C [.int (d), .int (1), .int (100)] 2 12 L_X7_67 (c_X7_checkRange (s := s) (t := t)  hst hG hL d 1 100) rfl rfl rfl dX7_meet_11 rfl (kx_out C (by decide) (fun E w1 hE => by obtain ⟨⟨rfl, h3⟩, rfl⟩ := hE; exact ⟨⟨1, List.Mem.head _, by first | rfl | (simp only [h2, h3, meetE, meetR, meetU, bI, pM, pU, n10, n20, n30, n0, if_true, if_false, ite_true, ite_false, not_true_eq_false, not_false_eq_true, and_true, true_and, and_false, false_and, or_true, true_or, or_false, false_or, reduceIte, and_self, or_self, ne_eq, eq_self_iff_true]; first | done | rfl) | (simp [bI, h2, h3, meetE, meetR, meetU]; done) | (simp only [meetE, meetR, meetU, bI, ← Int32.not_le] at *; simp [h2, h3]; done) | (simp_all [bI, h2, h3, meetE, meetR, meetU]; done) | (simp_all [bI, h2, h3, meetE, meetR, meetU]; rfl) | (exfalso; omega)⟩, rfl⟩)) (fun h4 => ?_)
  refine v_iload_n C dX7_meet_14 rfl 3 rfl ?_
  refine v_iconst C (v := 0) dX7_meet_15 rfl rfl ?_
  refine v_bipush C (v := 12) dX7_meet_16 rfl rfl ?_
  refine w_invSv C [.int (y), .int (0), .int (12)] 3 18 L_X7_67 (c_X7_checkRange (s := s) (t := t)  hst hG hL y 0 12) rfl rfl rfl dX7_meet_18 rfl (kx_out C (by decide) (fun E w1 hE => by obtain ⟨⟨rfl, h5⟩, rfl⟩ := hE; exact ⟨⟨1, List.Mem.head _, by first | rfl | (simp only [h2, h4, h5, meetE, meetR, meetU, bI, pM, pU, n10, n20, n30, n0, if_true, if_false, ite_true, ite_false, not_true_eq_false, not_false_eq_true, and_true, true_and, and_false, false_and, or_true, true_or, or_false, false_or, reduceIte, and_self, or_self, ne_eq, eq_self_iff_true]; first | done | rfl) | (simp [bI, h2, h4, h5, meetE, meetR, meetU]; done) | (simp only [meetE, meetR, meetU, bI, ← Int32.not_le] at *; simp [h2, h4, h5]; done) | (simp_all [bI, h2, h4, h5, meetE, meetR, meetU]; done) | (simp_all [bI, h2, h4, h5, meetE, meetR, meetU]; rfl) | (exfalso; omega)⟩, rfl⟩)) (fun h6 => ?_)
  refine v_iload C dX7_meet_21 rfl 4 rfl ?_
  refine v_iconst C (v := 0) dX7_meet_23 rfl rfl ?_
  refine v_bipush C (v := 12) dX7_meet_24 rfl rfl ?_
  refine w_invSv C [.int (n_), .int (0), .int (12)] 4 24 L_X7_67 (c_X7_checkRange (s := s) (t := t)  hst hG hL n_ 0 12) rfl rfl rfl dX7_meet_26 rfl (kx_out C (by decide) (fun E w1 hE => by obtain ⟨⟨rfl, h7⟩, rfl⟩ := hE; exact ⟨⟨1, List.Mem.head _, by first | rfl | (simp only [h2, h4, h6, h7, meetE, meetR, meetU, bI, pM, pU, n10, n20, n30, n0, if_true, if_false, ite_true, ite_false, not_true_eq_false, not_false_eq_true, and_true, true_and, and_false, false_and, or_true, true_or, or_false, false_or, reduceIte, and_self, or_self, ne_eq, eq_self_iff_true]; first | done | rfl) | (simp [bI, h2, h4, h6, h7, meetE, meetR, meetU]; done) | (simp only [meetE, meetR, meetU, bI, ← Int32.not_le] at *; simp [h2, h4, h6, h7]; done) | (simp_all [bI, h2, h4, h6, h7, meetE, meetR, meetU]; done) | (simp_all [bI, h2, h4, h6, h7, meetE, meetR, meetU]; rfl) | (exfalso; omega)⟩, rfl⟩)) (fun h8 => ?_)
  refine v_iload_n C dX7_meet_29 rfl 3 rfl ?_
  refine v_iload C dX7_meet_30 rfl 4 rfl ?_
  refine v_iadd C dX7_meet_32 rfl ?_
  refine v_aload_n C dX7_meet_33 rfl 0 rfl ?_
  refine w_invVr C [] 4 24 L_X7_102 (c_X7_livingMiners (s := s) (t := t) (nm := nm) hst hG hL hlm hm12 hv_nm) (m2 (s := s) (t := t) (g := G.2.2.1) hL) rfl rfl rfl rfl dX7_meet_34 rfl kx_no (fun h9 => ?_)
  refine v_icmp_gt C (t := 44) dX7_meet_37 rfl rfl (fun h10 => ?_) (fun h10 => ?_)
  · skip
    refine v_iconst C (v := 0) dX7_meet_44 rfl rfl ?_
    refine w_invSv C [.int (0)] 5 30 L_X7_105 (c_X7_checkArgument (s := s) (t := t)  hst hG hL 0) rfl rfl rfl dX7_meet_45 rfl (kx_out C (by decide) (fun E w1 hE => by obtain ⟨⟨rfl, h11⟩, rfl⟩ := hE; exact ⟨⟨1, List.Mem.head _, by first | rfl | (simp only [h2, h4, h6, h8, h10, Int32.not_le.mpr h10, h11, meetE, meetR, meetU, bI, pM, pU, n10, n20, n30, n0, if_true, if_false, ite_true, ite_false, not_true_eq_false, not_false_eq_true, and_true, true_and, and_false, false_and, or_true, true_or, or_false, false_or, reduceIte, and_self, or_self, ne_eq, eq_self_iff_true]; first | done | rfl) | (simp [bI, h2, h4, h6, h8, h10, Int32.not_le.mpr h10, h11, meetE, meetR, meetU]; done) | (simp only [meetE, meetR, meetU, bI, ← Int32.not_le] at *; simp [h2, h4, h6, h8, h10, Int32.not_le.mpr h10, h11]; done) | (simp_all [bI, h2, h4, h6, h8, h10, Int32.not_le.mpr h10, h11, meetE, meetR, meetU]; done) | (simp_all [bI, h2, h4, h6, h8, h10, Int32.not_le.mpr h10, h11, meetE, meetR, meetU]; rfl) | (exfalso; omega)⟩, rfl⟩)) (fun h12 => ?_)
    exact absurd rfl h12
  · skip
    refine v_iconst C (v := 1) dX7_meet_40 rfl rfl ?_
    refine v_goto C (q := 45) dX7_meet_41 rfl ?_
    refine w_invSv C [.int (1)] 5 30 L_X7_105 (c_X7_checkArgument (s := s) (t := t)  hst hG hL 1) rfl rfl rfl dX7_meet_45 rfl (fun E w1 hE => absurd hE.1.2 (by decide)) (fun h13 => ?_)
    refine v_iload_n C dX7_meet_48 rfl 3 rfl ?_
    refine v_iload C dX7_meet_49 rfl 4 rfl ?_
    refine v_icmp_le C (t := 58) dX7_meet_51 rfl rfl (fun h14 => ?_) (fun h14 => ?_)
    · skip
      refine v_iconst C (v := 0) dX7_meet_58 rfl rfl ?_
      refine v_istore C (lv1 := [(5, .int (0)), (0, .ref (a 2 0)), (1, .int (m)), (2, .int (d)), (3, .int (y)), (4, .int (n_))]) dX7_meet_59 rfl (by decide) rfl ?_
      refine v_iload C dX7_meet_61 rfl 0 rfl ?_
      refine v_if_eq C (t := 76) dX7_meet_63 rfl rfl (fun _ => ?_) (fun h => absurd h (by decide))
      refine v_iload C dX7_meet_76 rfl 0 rfl ?_
      exact v_zret C rfl (by decide) (by decide) dX7_meet_78 ⟨congrArg (fun z => some (Value.int z)) (by first | rfl | (simp only [h2, h4, h6, h8, h10, Int32.not_lt.mp h10, h14, Int32.not_lt.mpr h14, meetE, meetR, meetU, bI, pM, pU, n10, n20, n30, n0, if_true, if_false, ite_true, ite_false, not_true_eq_false, not_false_eq_true, and_true, true_and, and_false, false_and, or_true, true_or, or_false, false_or, reduceIte, and_self, or_self, ne_eq, eq_self_iff_true]; first | done | rfl) | (simp [bI, h2, h4, h6, h8, h10, Int32.not_lt.mp h10, h14, Int32.not_lt.mpr h14, meetE, meetR, meetU]; done) | (simp only [meetE, meetR, meetU, bI, ← Int32.not_le] at *; simp [h2, h4, h6, h8, h10, Int32.not_lt.mp h10, h14, Int32.not_lt.mpr h14]; done) | (simp_all [bI, h2, h4, h6, h8, h10, Int32.not_lt.mp h10, h14, Int32.not_lt.mpr h14, meetE, meetR, meetU]; done) | (simp_all [bI, h2, h4, h6, h8, h10, Int32.not_lt.mp h10, h14, Int32.not_lt.mpr h14, meetE, meetR, meetU]; rfl) | (exfalso; omega)), by first | rfl | (simp only [h2, h4, h6, h8, h10, Int32.not_lt.mp h10, h14, Int32.not_lt.mpr h14, meetE, meetR, meetU, bI, pM, pU, n10, n20, n30, n0, if_true, if_false, ite_true, ite_false, not_true_eq_false, not_false_eq_true, and_true, true_and, and_false, false_and, or_true, true_or, or_false, false_or, reduceIte, and_self, or_self, ne_eq, eq_self_iff_true]; first | done | rfl) | (simp [bI, h2, h4, h6, h8, h10, Int32.not_lt.mp h10, h14, Int32.not_lt.mpr h14, meetE, meetR, meetU]; done) | (simp only [meetE, meetR, meetU, bI, ← Int32.not_le] at *; simp [h2, h4, h6, h8, h10, Int32.not_lt.mp h10, h14, Int32.not_lt.mpr h14]; done) | (simp_all [bI, h2, h4, h6, h8, h10, Int32.not_lt.mp h10, h14, Int32.not_lt.mpr h14, meetE, meetR, meetU]; done) | (simp_all [bI, h2, h4, h6, h8, h10, Int32.not_lt.mp h10, h14, Int32.not_lt.mpr h14, meetE, meetR, meetU]; rfl) | (exfalso; omega), by first | assumption | first | rfl | (simp only [h2, h4, h6, h8, h10, Int32.not_lt.mp h10, h14, Int32.not_lt.mpr h14, meetE, meetR, meetU, bI, pM, pU, n10, n20, n30, n0, if_true, if_false, ite_true, ite_false, not_true_eq_false, not_false_eq_true, and_true, true_and, and_false, false_and, or_true, true_or, or_false, false_or, reduceIte, and_self, or_self, ne_eq, eq_self_iff_true]; first | done | rfl) | (simp [bI, h2, h4, h6, h8, h10, Int32.not_lt.mp h10, h14, Int32.not_lt.mpr h14, meetE, meetR, meetU]; done) | (simp only [meetE, meetR, meetU, bI, ← Int32.not_le] at *; simp [h2, h4, h6, h8, h10, Int32.not_lt.mp h10, h14, Int32.not_lt.mpr h14]; done) | (simp_all [bI, h2, h4, h6, h8, h10, Int32.not_lt.mp h10, h14, Int32.not_lt.mpr h14, meetE, meetR, meetU]; done) | (simp_all [bI, h2, h4, h6, h8, h10, Int32.not_lt.mp h10, h14, Int32.not_lt.mpr h14, meetE, meetR, meetU]; rfl) | (exfalso; omega)⟩
    · skip
      refine v_iconst C (v := 1) dX7_meet_54 rfl rfl ?_
      refine v_goto C (q := 59) dX7_meet_55 rfl ?_
      refine v_istore C (lv1 := [(5, .int (1)), (0, .ref (a 2 0)), (1, .int (m)), (2, .int (d)), (3, .int (y)), (4, .int (n_))]) dX7_meet_59 rfl (by decide) rfl ?_
      refine v_iload C dX7_meet_61 rfl 0 rfl ?_
      refine v_if_eq C (t := 76) dX7_meet_63 rfl rfl (fun h => absurd h (by decide)) (fun _ => ?_)
      refine v_aload_n C dX7_meet_66 rfl 1 rfl ?_
      refine v_iload_n C dX7_meet_67 rfl 2 rfl ?_
      refine v_put C f_X7_50 (put_c (s := s) (t := t) (g := G.2.2.1) hL 8 (by decide) (by decide) m) rfl rfl (rg_len (by decide)) dX7_meet_68 rfl ?_
      refine xx_w (w' := wl a (E G.2.2.1 a (su s 2 0 m) t) L) rfl ?_
      refine v_aload_n C dX7_meet_71 rfl 1 rfl ?_
      refine v_iload_n C dX7_meet_72 rfl 3 rfl ?_
      refine v_put C f_X7_53 (put_c (s := ((su s 2 0 m))) (t := t) (g := G.2.2.1) hL 9 (by decide) (by decide) d) rfl rfl (rg_len (by decide)) dX7_meet_73 rfl ?_
      refine xx_w (w' := wl a (E G.2.2.1 a (su (su s 2 0 m) 3 0 d) t) L) rfl ?_
      refine v_iload C dX7_meet_76 rfl 0 rfl ?_
      exact v_zret C rfl (by decide) (by decide) dX7_meet_78 ⟨congrArg (fun z => some (Value.int z)) (by first | rfl | (simp only [h2, h4, h6, h8, h10, Int32.not_lt.mp h10, h14, Int32.not_le.mp h14, meetE, meetR, meetU, bI, pM, pU, n10, n20, n30, n0, if_true, if_false, ite_true, ite_false, not_true_eq_false, not_false_eq_true, and_true, true_and, and_false, false_and, or_true, true_or, or_false, false_or, reduceIte, and_self, or_self, ne_eq, eq_self_iff_true]; first | done | rfl) | (simp [bI, h2, h4, h6, h8, h10, Int32.not_lt.mp h10, h14, Int32.not_le.mp h14, meetE, meetR, meetU]; done) | (simp only [meetE, meetR, meetU, bI, ← Int32.not_le] at *; simp [h2, h4, h6, h8, h10, Int32.not_lt.mp h10, h14, Int32.not_le.mp h14]; done) | (simp_all [bI, h2, h4, h6, h8, h10, Int32.not_lt.mp h10, h14, Int32.not_le.mp h14, meetE, meetR, meetU]; done) | (simp_all [bI, h2, h4, h6, h8, h10, Int32.not_lt.mp h10, h14, Int32.not_le.mp h14, meetE, meetR, meetU]; rfl) | (exfalso; omega)), by first | rfl | (simp only [h2, h4, h6, h8, h10, Int32.not_lt.mp h10, h14, Int32.not_le.mp h14, meetE, meetR, meetU, bI, pM, pU, n10, n20, n30, n0, if_true, if_false, ite_true, ite_false, not_true_eq_false, not_false_eq_true, and_true, true_and, and_false, false_and, or_true, true_or, or_false, false_or, reduceIte, and_self, or_self, ne_eq, eq_self_iff_true]; first | done | rfl) | (simp [bI, h2, h4, h6, h8, h10, Int32.not_lt.mp h10, h14, Int32.not_le.mp h14, meetE, meetR, meetU]; done) | (simp only [meetE, meetR, meetU, bI, ← Int32.not_le] at *; simp [h2, h4, h6, h8, h10, Int32.not_lt.mp h10, h14, Int32.not_le.mp h14]; done) | (simp_all [bI, h2, h4, h6, h8, h10, Int32.not_lt.mp h10, h14, Int32.not_le.mp h14, meetE, meetR, meetU]; done) | (simp_all [bI, h2, h4, h6, h8, h10, Int32.not_lt.mp h10, h14, Int32.not_le.mp h14, meetE, meetR, meetU]; rfl) | (exfalso; omega), by first | assumption | first | rfl | (simp only [h2, h4, h6, h8, h10, Int32.not_lt.mp h10, h14, Int32.not_le.mp h14, meetE, meetR, meetU, bI, pM, pU, n10, n20, n30, n0, if_true, if_false, ite_true, ite_false, not_true_eq_false, not_false_eq_true, and_true, true_and, and_false, false_and, or_true, true_or, or_false, false_or, reduceIte, and_self, or_self, ne_eq, eq_self_iff_true]; first | done | rfl) | (simp [bI, h2, h4, h6, h8, h10, Int32.not_lt.mp h10, h14, Int32.not_le.mp h14, meetE, meetR, meetU]; done) | (simp only [meetE, meetR, meetU, bI, ← Int32.not_le] at *; simp [h2, h4, h6, h8, h10, Int32.not_lt.mp h10, h14, Int32.not_le.mp h14]; done) | (simp_all [bI, h2, h4, h6, h8, h10, Int32.not_lt.mp h10, h14, Int32.not_le.mp h14, meetE, meetR, meetU]; done) | (simp_all [bI, h2, h4, h6, h8, h10, Int32.not_lt.mp h10, h14, Int32.not_le.mp h14, meetE, meetR, meetU]; rfl) | (exfalso; omega)⟩

abbrev r_X7_holds : Room := { frames := 8, cells := 1, slots := 6, locals := 122 }
set_option maxRecDepth 4000 in
theorem c_X7_holds {l : Launch} {G : GG} {a : AD} {s t s0 : SS} {L : List (Nat × Nat)} {nc : Nat} (hst : l.stackTraces = false) (hG : GOK G) (hL : Live L s0) (c : Int32) (hlc : LsOK a s s0 1 nc) (hv_nc : ∀ i, i < nc → i < tn (s0 21 0)) : Mth l yX7_holds cX7_holds 2 (Option.some Jvm.ClassFile.FieldType.int) r_X7_holds G (wl a (E G.2.2.1 a s t) L) [.ref (a 2 0), .int c] (RI (.int (heldC s c nc)) (wl a (E G.2.2.1 a s t) L) (holdsE s nc c = 0)) (XW (fun E => pE LI1 (holdsE s nc c) E) (wl a (E G.2.2.1 a s t) L)) := by
  refine mth_of rfl (Nat.le_of_ble_eq_true rfl) hst hG (fun X hX C0 => ?_)
  subst hX
  have C : Cx X G cX7_holds 2 RX7 (Option.some Jvm.ClassFile.FieldType.int) r_X7_holds "holds" [] := C0
  clear C0
  show V X G 2 _ 0 0 _ 0 [(0, .ref (a 2 0)), (1, .int (c))] []
  refine v_iload_n C dX7_holds_0 rfl 1 rfl ?_
  refine w_invSv C [.int (c)] 1 6 L_X7_62 (c_X7_checkCell (s := s) (t := t)  hst hG hL c) rfl rfl rfl dX7_holds_1 rfl (kx_out C (by decide) (fun E w1 hE => by obtain ⟨⟨rfl, h1⟩, rfl⟩ := hE; exact ⟨⟨1, List.Mem.head _, by first | rfl | (simp only [h1, holdsE, bI, pM, pU, n10, n20, n30, n0, if_true, if_false, ite_true, ite_false, not_true_eq_false, not_false_eq_true, and_true, true_and, and_false, false_and, or_true, true_or, or_false, false_or, reduceIte, and_self, or_self, ne_eq, eq_self_iff_true]; first | done | rfl) | (simp [bI, h1, holdsE]; done) | (simp only [holdsE, bI, ← Int32.not_le] at *; simp [h1]; done) | (simp_all [bI, h1, holdsE]; done) | (simp_all [bI, h1, holdsE]; rfl) | (exfalso; omega)⟩, rfl⟩)) (fun h2 => ?_)
  refine v_aload_n C dX7_holds_4 rfl 0 rfl ?_
  refine v_iload_n C dX7_holds_5 rfl 1 rfl ?_
  refine w_invVr C [.int (c)] 1 6 L_X7_135 (c_X7_claimHolding (s := s) (t := t) (nc := nc) hst hG hL c hlc hv_nc) (m2 (s := s) (t := t) (g := G.2.2.1) hL) rfl rfl rfl rfl dX7_holds_6 rfl kx_no (fun h3 => ?_)
  exact v_iret C (by decide) (by decide) dX7_holds_9 ⟨congrArg (fun z => some (Value.int z)) (by first | rfl | (simp only [h2, holdsE, bI, pM, pU, n10, n20, n30, n0, if_true, if_false, ite_true, ite_false, not_true_eq_false, not_false_eq_true, and_true, true_and, and_false, false_and, or_true, true_or, or_false, false_or, reduceIte, and_self, or_self, ne_eq, eq_self_iff_true]; first | done | rfl) | (simp [bI, h2, holdsE]; done) | (simp only [holdsE, bI, ← Int32.not_le] at *; simp [h2]; done) | (simp_all [bI, h2, holdsE]; done) | (simp_all [bI, h2, holdsE]; rfl) | (exfalso; omega)), by rfl, by first | assumption | first | rfl | (simp only [h2, holdsE, bI, pM, pU, n10, n20, n30, n0, if_true, if_false, ite_true, ite_false, not_true_eq_false, not_false_eq_true, and_true, true_and, and_false, false_and, or_true, true_or, or_false, false_or, reduceIte, and_self, or_self, ne_eq, eq_self_iff_true]; first | done | rfl) | (simp [bI, h2, holdsE]; done) | (simp only [holdsE, bI, ← Int32.not_le] at *; simp [h2]; done) | (simp_all [bI, h2, holdsE]; done) | (simp_all [bI, h2, holdsE]; rfl) | (exfalso; omega)⟩

abbrev r_X7_gold : Room := { frames := 8, cells := 1, slots := 6, locals := 124 }
set_option maxRecDepth 4000 in
theorem c_X7_gold {l : Launch} {G : GG} {a : AD} {s t s0 : SS} {L : List (Nat × Nat)} {nm : Nat} (hst : l.stackTraces = false) (hG : GOK G) (hL : Live L s0) (w_ : Int32) (hlm : LsOK a s s0 0 nm) (hm12 : nm ≤ 12) (hv_nm : ∀ i, i < nm → i < tn (s0 12 0)) : Mth l yX7_gold cX7_gold 2 (Option.some Jvm.ClassFile.FieldType.int) r_X7_gold G (wl a (E G.2.2.1 a s t) L) [.ref (a 2 0), .int w_] (RI (.int (goldR s nm w_)) (wl a (E G.2.2.1 a s t) L) (goldE s nm w_ = 0)) (XW (fun E => pE LA (goldE s nm w_) E) (wl a (E G.2.2.1 a s t) L)) := by
  refine mth_of rfl (Nat.le_of_ble_eq_true rfl) hst hG (fun X hX C0 => ?_)
  subst hX
  have C : Cx X G cX7_gold 2 RX7 (Option.some Jvm.ClassFile.FieldType.int) r_X7_gold "gold" [] := C0
  clear C0
  show V X G 2 _ 0 0 _ 0 [(0, .ref (a 2 0)), (1, .int (w_))] []
  refine v_iload_n C dX7_gold_0 rfl 1 rfl ?_
  refine v_iconst C (v := 0) dX7_gold_1 rfl rfl ?_
  refine v_iconst C (v := 4) dX7_gold_2 rfl rfl ?_
  refine w_invSv C [.int (w_), .int (0), .int (4)] 1 6 L_X7_67 (c_X7_checkRange (s := s) (t := t)  hst hG hL w_ 0 4) rfl rfl rfl dX7_gold_3 rfl (kx_out C (by decide) (fun E w1 hE => by obtain ⟨⟨rfl, h1⟩, rfl⟩ := hE; exact ⟨⟨1, List.Mem.head _, by first | rfl | (simp only [h1, goldE, goldR, bI, pM, pU, n10, n20, n30, n0, if_true, if_false, ite_true, ite_false, not_true_eq_false, not_false_eq_true, and_true, true_and, and_false, false_and, or_true, true_or, or_false, false_or, reduceIte, and_self, or_self, ne_eq, eq_self_iff_true]; first | done | rfl) | (simp [bI, h1, goldE, goldR]; done) | (simp only [goldE, goldR, bI, ← Int32.not_le] at *; simp [h1]; done) | (simp_all [bI, h1, goldE, goldR]; done) | (simp_all [bI, h1, goldE, goldR]; rfl) | (exfalso; omega)⟩, rfl⟩)) (fun h2 => ?_)
  refine v_iload_n C dX7_gold_6 rfl 1 rfl ?_
  by_cases h3 : w_ = 0
  · skip
    refine v_tabIn C (off := 29) (q := 36) dX7_gold_7 (by rw [h3]; decide) (by rw [h3]; decide) (by rw [h3]; rfl) rfl ?_
    refine v_aload_n C dX7_gold_36 rfl 0 rfl ?_
    refine v_get C (v := .ref (a 3 0)) g_X7_10 (m2 (s := s) (t := t) (g := G.2.2.1) hL) (rg (by decide) rfl) dX7_gold_37 rfl ?_
    refine w_invVr C [] 1 6 L_X7_279 (c_X1_goldInGround (s := s) (t := t)  hst hG hL ) (m3 (s := s) (t := t) (g := G.2.2.1) hL) rfl rfl rfl rfl dX7_gold_40 rfl kx_no (fun h4 => ?_)
    exact v_iret C (by decide) (by decide) dX7_gold_43 ⟨congrArg (fun z => some (Value.int z)) (by first | rfl | (simp only [h2, eq_true h3, goldE, goldR, bI, pM, pU, n10, n20, n30, n0, if_true, if_false, ite_true, ite_false, not_true_eq_false, not_false_eq_true, and_true, true_and, and_false, false_and, or_true, true_or, or_false, false_or, reduceIte, and_self, or_self, ne_eq, eq_self_iff_true]; first | done | rfl) | (simp [bI, h2, eq_true h3, goldE, goldR]; done) | (simp only [goldE, goldR, bI, ← Int32.not_le] at *; simp [h2, eq_true h3]; done) | (simp_all [bI, h2, eq_true h3, goldE, goldR]; done) | (simp_all [bI, h2, eq_true h3, goldE, goldR]; rfl) | (exfalso; omega)), by rfl, by first | assumption | first | rfl | (simp only [h2, eq_true h3, goldE, goldR, bI, pM, pU, n10, n20, n30, n0, if_true, if_false, ite_true, ite_false, not_true_eq_false, not_false_eq_true, and_true, true_and, and_false, false_and, or_true, true_or, or_false, false_or, reduceIte, and_self, or_self, ne_eq, eq_self_iff_true]; first | done | rfl) | (simp [bI, h2, eq_true h3, goldE, goldR]; done) | (simp only [goldE, goldR, bI, ← Int32.not_le] at *; simp [h2, eq_true h3]; done) | (simp_all [bI, h2, eq_true h3, goldE, goldR]; done) | (simp_all [bI, h2, eq_true h3, goldE, goldR]; rfl) | (exfalso; omega)⟩
  by_cases h5 : w_ = 1
  · skip
    refine v_tabIn C (off := 37) (q := 44) dX7_gold_7 (by rw [h5]; decide) (by rw [h5]; decide) (by rw [h5]; rfl) rfl ?_
    refine v_aload_n C dX7_gold_44 rfl 0 rfl ?_
    refine v_get C (v := .ref (a 3 0)) g_X7_10 (m2 (s := s) (t := t) (g := G.2.2.1) hL) (rg (by decide) rfl) dX7_gold_45 rfl ?_
    refine v_get C (v := .int (s 6 0)) g_X7_282 (m3 (s := s) (t := t) (g := G.2.2.1) hL) rfl dX7_gold_48 rfl ?_
    exact v_iret C (by decide) (by decide) dX7_gold_51 ⟨congrArg (fun z => some (Value.int z)) (by first | rfl | (simp only [h2, h3, eq_true h5, goldE, goldR, bI, pM, pU, n10, n20, n30, n0, if_true, if_false, ite_true, ite_false, not_true_eq_false, not_false_eq_true, and_true, true_and, and_false, false_and, or_true, true_or, or_false, false_or, reduceIte, and_self, or_self, ne_eq, eq_self_iff_true]; first | done | rfl) | (simp [bI, h2, h3, eq_true h5, goldE, goldR]; done) | (simp only [goldE, goldR, bI, ← Int32.not_le] at *; simp [h2, h3, eq_true h5]; done) | (simp_all [bI, h2, h3, eq_true h5, goldE, goldR]; done) | (simp_all [bI, h2, h3, eq_true h5, goldE, goldR]; rfl) | (exfalso; omega)), by rfl, by first | assumption | first | rfl | (simp only [h2, h3, eq_true h5, goldE, goldR, bI, pM, pU, n10, n20, n30, n0, if_true, if_false, ite_true, ite_false, not_true_eq_false, not_false_eq_true, and_true, true_and, and_false, false_and, or_true, true_or, or_false, false_or, reduceIte, and_self, or_self, ne_eq, eq_self_iff_true]; first | done | rfl) | (simp [bI, h2, h3, eq_true h5, goldE, goldR]; done) | (simp only [goldE, goldR, bI, ← Int32.not_le] at *; simp [h2, h3, eq_true h5]; done) | (simp_all [bI, h2, h3, eq_true h5, goldE, goldR]; done) | (simp_all [bI, h2, h3, eq_true h5, goldE, goldR]; rfl) | (exfalso; omega)⟩
  by_cases h6 : w_ = 2
  · skip
    refine v_tabIn C (off := 45) (q := 52) dX7_gold_7 (by rw [h6]; decide) (by rw [h6]; decide) (by rw [h6]; rfl) rfl ?_
    refine v_aload_n C dX7_gold_52 rfl 0 rfl ?_
    refine w_invVr C [] 1 6 L_X7_285 (c_X7_goldOfMiners (s := s) (t := t) (nm := nm) hst hG hL hlm hm12 hv_nm) (m2 (s := s) (t := t) (g := G.2.2.1) hL) rfl rfl rfl rfl dX7_gold_53 rfl kx_no (fun h7 => ?_)
    exact v_iret C (by decide) (by decide) dX7_gold_56 ⟨congrArg (fun z => some (Value.int z)) (by first | rfl | (simp only [h2, h3, h5, eq_true h6, goldE, goldR, bI, pM, pU, n10, n20, n30, n0, if_true, if_false, ite_true, ite_false, not_true_eq_false, not_false_eq_true, and_true, true_and, and_false, false_and, or_true, true_or, or_false, false_or, reduceIte, and_self, or_self, ne_eq, eq_self_iff_true]; first | done | rfl) | (simp [bI, h2, h3, h5, eq_true h6, goldE, goldR]; done) | (simp only [goldE, goldR, bI, ← Int32.not_le] at *; simp [h2, h3, h5, eq_true h6]; done) | (simp_all [bI, h2, h3, h5, eq_true h6, goldE, goldR]; done) | (simp_all [bI, h2, h3, h5, eq_true h6, goldE, goldR]; rfl) | (exfalso; omega)), by rfl, by first | assumption | first | rfl | (simp only [h2, h3, h5, eq_true h6, goldE, goldR, bI, pM, pU, n10, n20, n30, n0, if_true, if_false, ite_true, ite_false, not_true_eq_false, not_false_eq_true, and_true, true_and, and_false, false_and, or_true, true_or, or_false, false_or, reduceIte, and_self, or_self, ne_eq, eq_self_iff_true]; first | done | rfl) | (simp [bI, h2, h3, h5, eq_true h6, goldE, goldR]; done) | (simp only [goldE, goldR, bI, ← Int32.not_le] at *; simp [h2, h3, h5, eq_true h6]; done) | (simp_all [bI, h2, h3, h5, eq_true h6, goldE, goldR]; done) | (simp_all [bI, h2, h3, h5, eq_true h6, goldE, goldR]; rfl) | (exfalso; omega)⟩
  by_cases h8 : w_ = 3
  · skip
    refine v_tabIn C (off := 50) (q := 57) dX7_gold_7 (by rw [h8]; decide) (by rw [h8]; decide) (by rw [h8]; rfl) rfl ?_
    refine v_aload_n C dX7_gold_57 rfl 0 rfl ?_
    refine v_get C (v := .int (s 7 0)) g_X7_59 (m2 (s := s) (t := t) (g := G.2.2.1) hL) (rg (by decide) rfl) dX7_gold_58 rfl ?_
    exact v_iret C (by decide) (by decide) dX7_gold_61 ⟨congrArg (fun z => some (Value.int z)) (by first | rfl | (simp only [h2, h3, h5, h6, eq_true h8, goldE, goldR, bI, pM, pU, n10, n20, n30, n0, if_true, if_false, ite_true, ite_false, not_true_eq_false, not_false_eq_true, and_true, true_and, and_false, false_and, or_true, true_or, or_false, false_or, reduceIte, and_self, or_self, ne_eq, eq_self_iff_true]; first | done | rfl) | (simp [bI, h2, h3, h5, h6, eq_true h8, goldE, goldR]; done) | (simp only [goldE, goldR, bI, ← Int32.not_le] at *; simp [h2, h3, h5, h6, eq_true h8]; done) | (simp_all [bI, h2, h3, h5, h6, eq_true h8, goldE, goldR]; done) | (simp_all [bI, h2, h3, h5, h6, eq_true h8, goldE, goldR]; rfl) | (exfalso; omega)), by rfl, by first | assumption | first | rfl | (simp only [h2, h3, h5, h6, eq_true h8, goldE, goldR, bI, pM, pU, n10, n20, n30, n0, if_true, if_false, ite_true, ite_false, not_true_eq_false, not_false_eq_true, and_true, true_and, and_false, false_and, or_true, true_or, or_false, false_or, reduceIte, and_self, or_self, ne_eq, eq_self_iff_true]; first | done | rfl) | (simp [bI, h2, h3, h5, h6, eq_true h8, goldE, goldR]; done) | (simp only [goldE, goldR, bI, ← Int32.not_le] at *; simp [h2, h3, h5, h6, eq_true h8]; done) | (simp_all [bI, h2, h3, h5, h6, eq_true h8, goldE, goldR]; done) | (simp_all [bI, h2, h3, h5, h6, eq_true h8, goldE, goldR]; rfl) | (exfalso; omega)⟩
  have fh3 : (w_).toInt ≠ 0 := fun h => h3 (Int32.toInt_inj.mp (h.trans (by decide)))
  have fh5 : (w_).toInt ≠ 1 := fun h => h5 (Int32.toInt_inj.mp (h.trans (by decide)))
  have fh6 : (w_).toInt ≠ 2 := fun h => h6 (Int32.toInt_inj.mp (h.trans (by decide)))
  have fh8 : (w_).toInt ≠ 3 := fun h => h8 (Int32.toInt_inj.mp (h.trans (by decide)))
  refine v_tabOut C (q := 62) dX7_gold_7 (by omega) rfl ?_
  refine v_aload_n C dX7_gold_62 rfl 0 rfl ?_
  refine v_get C (v := .ref (a 3 0)) g_X7_10 (m2 (s := s) (t := t) (g := G.2.2.1) hL) (rg (by decide) rfl) dX7_gold_63 rfl ?_
  refine w_invVr C [] 1 6 L_X7_279 (c_X1_goldInGround (s := s) (t := t)  hst hG hL ) (m3 (s := s) (t := t) (g := G.2.2.1) hL) rfl rfl rfl rfl dX7_gold_66 rfl kx_no (fun h9 => ?_)
  refine v_aload_n C dX7_gold_69 rfl 0 rfl ?_
  refine v_get C (v := .ref (a 3 0)) g_X7_10 (m2 (s := s) (t := t) (g := G.2.2.1) hL) (rg (by decide) rfl) dX7_gold_70 rfl ?_
  refine v_get C (v := .int (s 6 0)) g_X7_282 (m3 (s := s) (t := t) (g := G.2.2.1) hL) rfl dX7_gold_73 rfl ?_
  refine v_iadd C dX7_gold_76 rfl ?_
  refine v_aload_n C dX7_gold_77 rfl 0 rfl ?_
  refine w_invVr C [] 1 6 L_X7_285 (c_X7_goldOfMiners (s := s) (t := t) (nm := nm) hst hG hL hlm hm12 hv_nm) (m2 (s := s) (t := t) (g := G.2.2.1) hL) rfl rfl rfl rfl dX7_gold_78 rfl kx_no (fun h10 => ?_)
  refine v_iadd C dX7_gold_81 rfl ?_
  refine v_aload_n C dX7_gold_82 rfl 0 rfl ?_
  refine v_get C (v := .int (s 7 0)) g_X7_59 (m2 (s := s) (t := t) (g := G.2.2.1) hL) (rg (by decide) rfl) dX7_gold_83 rfl ?_
  refine v_iadd C dX7_gold_86 rfl ?_
  exact v_iret C (by decide) (by decide) dX7_gold_87 ⟨congrArg (fun z => some (Value.int z)) (by first | rfl | (simp only [h2, h3, h5, h6, h8, goldE, goldR, bI, pM, pU, n10, n20, n30, n0, if_true, if_false, ite_true, ite_false, not_true_eq_false, not_false_eq_true, and_true, true_and, and_false, false_and, or_true, true_or, or_false, false_or, reduceIte, and_self, or_self, ne_eq, eq_self_iff_true]; first | done | rfl) | (simp [bI, h2, h3, h5, h6, h8, goldE, goldR]; done) | (simp only [goldE, goldR, bI, ← Int32.not_le] at *; simp [h2, h3, h5, h6, h8]; done) | (simp_all [bI, h2, h3, h5, h6, h8, goldE, goldR]; done) | (simp_all [bI, h2, h3, h5, h6, h8, goldE, goldR]; rfl) | (exfalso; omega)), by rfl, by first | assumption | first | rfl | (simp only [h2, h3, h5, h6, h8, goldE, goldR, bI, pM, pU, n10, n20, n30, n0, if_true, if_false, ite_true, ite_false, not_true_eq_false, not_false_eq_true, and_true, true_and, and_false, false_and, or_true, true_or, or_false, false_or, reduceIte, and_self, or_self, ne_eq, eq_self_iff_true]; first | done | rfl) | (simp [bI, h2, h3, h5, h6, h8, goldE, goldR]; done) | (simp only [goldE, goldR, bI, ← Int32.not_le] at *; simp [h2, h3, h5, h6, h8]; done) | (simp_all [bI, h2, h3, h5, h6, h8, goldE, goldR]; done) | (simp_all [bI, h2, h3, h5, h6, h8, goldE, goldR]; rfl) | (exfalso; omega)⟩

abbrev r_X7_camp : Room := { frames := 8, cells := 1, slots := 6, locals := 124 }
set_option maxRecDepth 4000 in
theorem c_X7_camp {l : Launch} {G : GG} {a : AD} {s t s0 : SS} {L : List (Nat × Nat)} {nm : Nat} (hst : l.stackTraces = false) (hG : GOK G) (hL : Live L s0) (w_ : Int32) (hlm : LsOK a s s0 0 nm) (hm12 : nm ≤ 12) (hv_nm : ∀ i, i < nm → i < tn (s0 12 0)) : Mth l yX7_camp cX7_camp 2 (Option.some Jvm.ClassFile.FieldType.int) r_X7_camp G (wl a (E G.2.2.1 a s t) L) [.ref (a 2 0), .int w_] (RI (.int (campRC s nm w_)) (wl a (E G.2.2.1 a s t) L) (campE s nm w_ = 0)) (XW (fun E => pE LA (campE s nm w_) E) (wl a (E G.2.2.1 a s t) L)) := by
  refine mth_of rfl (Nat.le_of_ble_eq_true rfl) hst hG (fun X hX C0 => ?_)
  subst hX
  have C : Cx X G cX7_camp 2 RX7 (Option.some Jvm.ClassFile.FieldType.int) r_X7_camp "camp" [] := C0
  clear C0
  show V X G 2 _ 0 0 _ 0 [(0, .ref (a 2 0)), (1, .int (w_))] []
  refine v_iload_n C dX7_camp_0 rfl 1 rfl ?_
  refine v_iconst C (v := 0) dX7_camp_1 rfl rfl ?_
  refine v_iconst C (v := 5) dX7_camp_2 rfl rfl ?_
  refine w_invSv C [.int (w_), .int (0), .int (5)] 1 6 L_X7_67 (c_X7_checkRange (s := s) (t := t)  hst hG hL w_ 0 5) rfl rfl rfl dX7_camp_3 rfl (kx_out C (by decide) (fun E w1 hE => by obtain ⟨⟨rfl, h1⟩, rfl⟩ := hE; exact ⟨⟨1, List.Mem.head _, by first | rfl | (simp only [h1, campE, campRC, bI, pM, pU, n10, n20, n30, n0, if_true, if_false, ite_true, ite_false, not_true_eq_false, not_false_eq_true, and_true, true_and, and_false, false_and, or_true, true_or, or_false, false_or, reduceIte, and_self, or_self, ne_eq, eq_self_iff_true]; first | done | rfl) | (simp [bI, h1, campE, campRC]; done) | (simp only [campE, campRC, bI, ← Int32.not_le] at *; simp [h1]; done) | (simp_all [bI, h1, campE, campRC]; done) | (simp_all [bI, h1, campE, campRC]; rfl) | (exfalso; omega)⟩, rfl⟩)) (fun h2 => ?_)
  refine v_iload_n C dX7_camp_6 rfl 1 rfl ?_
  by_cases h3 : w_ = 0
  · skip
    refine v_tabIn C (off := 33) (q := 40) dX7_camp_7 (by rw [h3]; decide) (by rw [h3]; decide) (by rw [h3]; rfl) rfl ?_
    refine v_aload_n C dX7_camp_40 rfl 0 rfl ?_
    refine v_get C (v := .int (s 2 0)) g_X7_50 (m2 (s := s) (t := t) (g := G.2.2.1) hL) (rg (by decide) rfl) dX7_camp_41 rfl ?_
    exact v_iret C (by decide) (by decide) dX7_camp_44 ⟨congrArg (fun z => some (Value.int z)) (by first | rfl | (simp only [h2, eq_true h3, campE, campRC, bI, pM, pU, n10, n20, n30, n0, if_true, if_false, ite_true, ite_false, not_true_eq_false, not_false_eq_true, and_true, true_and, and_false, false_and, or_true, true_or, or_false, false_or, reduceIte, and_self, or_self, ne_eq, eq_self_iff_true]; first | done | rfl) | (simp [bI, h2, eq_true h3, campE, campRC]; done) | (simp only [campE, campRC, bI, ← Int32.not_le] at *; simp [h2, eq_true h3]; done) | (simp_all [bI, h2, eq_true h3, campE, campRC]; done) | (simp_all [bI, h2, eq_true h3, campE, campRC]; rfl) | (exfalso; omega)), by rfl, by first | assumption | first | rfl | (simp only [h2, eq_true h3, campE, campRC, bI, pM, pU, n10, n20, n30, n0, if_true, if_false, ite_true, ite_false, not_true_eq_false, not_false_eq_true, and_true, true_and, and_false, false_and, or_true, true_or, or_false, false_or, reduceIte, and_self, or_self, ne_eq, eq_self_iff_true]; first | done | rfl) | (simp [bI, h2, eq_true h3, campE, campRC]; done) | (simp only [campE, campRC, bI, ← Int32.not_le] at *; simp [h2, eq_true h3]; done) | (simp_all [bI, h2, eq_true h3, campE, campRC]; done) | (simp_all [bI, h2, eq_true h3, campE, campRC]; rfl) | (exfalso; omega)⟩
  by_cases h4 : w_ = 1
  · skip
    refine v_tabIn C (off := 38) (q := 45) dX7_camp_7 (by rw [h4]; decide) (by rw [h4]; decide) (by rw [h4]; rfl) rfl ?_
    refine v_aload_n C dX7_camp_45 rfl 0 rfl ?_
    refine v_get C (v := .int (s 3 0)) g_X7_53 (m2 (s := s) (t := t) (g := G.2.2.1) hL) (rg (by decide) rfl) dX7_camp_46 rfl ?_
    exact v_iret C (by decide) (by decide) dX7_camp_49 ⟨congrArg (fun z => some (Value.int z)) (by first | rfl | (simp only [h2, h3, eq_true h4, campE, campRC, bI, pM, pU, n10, n20, n30, n0, if_true, if_false, ite_true, ite_false, not_true_eq_false, not_false_eq_true, and_true, true_and, and_false, false_and, or_true, true_or, or_false, false_or, reduceIte, and_self, or_self, ne_eq, eq_self_iff_true]; first | done | rfl) | (simp [bI, h2, h3, eq_true h4, campE, campRC]; done) | (simp only [campE, campRC, bI, ← Int32.not_le] at *; simp [h2, h3, eq_true h4]; done) | (simp_all [bI, h2, h3, eq_true h4, campE, campRC]; done) | (simp_all [bI, h2, h3, eq_true h4, campE, campRC]; rfl) | (exfalso; omega)), by rfl, by first | assumption | first | rfl | (simp only [h2, h3, eq_true h4, campE, campRC, bI, pM, pU, n10, n20, n30, n0, if_true, if_false, ite_true, ite_false, not_true_eq_false, not_false_eq_true, and_true, true_and, and_false, false_and, or_true, true_or, or_false, false_or, reduceIte, and_self, or_self, ne_eq, eq_self_iff_true]; first | done | rfl) | (simp [bI, h2, h3, eq_true h4, campE, campRC]; done) | (simp only [campE, campRC, bI, ← Int32.not_le] at *; simp [h2, h3, eq_true h4]; done) | (simp_all [bI, h2, h3, eq_true h4, campE, campRC]; done) | (simp_all [bI, h2, h3, eq_true h4, campE, campRC]; rfl) | (exfalso; omega)⟩
  by_cases h5 : w_ = 2
  · skip
    refine v_tabIn C (off := 43) (q := 50) dX7_camp_7 (by rw [h5]; decide) (by rw [h5]; decide) (by rw [h5]; rfl) rfl ?_
    refine v_aload_n C dX7_camp_50 rfl 0 rfl ?_
    refine v_get C (v := .ref (a 4 0)) g_X7_19 (m2 (s := s) (t := t) (g := G.2.2.1) hL) (rg (by decide) rfl) dX7_camp_51 rfl ?_
    refine v_get C (v := .int (s 5 0)) g_X7_206 (m4 (s := s) (t := t) (g := G.2.2.1) hL) rfl dX7_camp_54 rfl ?_
    exact v_iret C (by decide) (by decide) dX7_camp_57 ⟨congrArg (fun z => some (Value.int z)) (by first | rfl | (simp only [h2, h3, h4, eq_true h5, campE, campRC, bI, pM, pU, n10, n20, n30, n0, if_true, if_false, ite_true, ite_false, not_true_eq_false, not_false_eq_true, and_true, true_and, and_false, false_and, or_true, true_or, or_false, false_or, reduceIte, and_self, or_self, ne_eq, eq_self_iff_true]; first | done | rfl) | (simp [bI, h2, h3, h4, eq_true h5, campE, campRC]; done) | (simp only [campE, campRC, bI, ← Int32.not_le] at *; simp [h2, h3, h4, eq_true h5]; done) | (simp_all [bI, h2, h3, h4, eq_true h5, campE, campRC]; done) | (simp_all [bI, h2, h3, h4, eq_true h5, campE, campRC]; rfl) | (exfalso; omega)), by rfl, by first | assumption | first | rfl | (simp only [h2, h3, h4, eq_true h5, campE, campRC, bI, pM, pU, n10, n20, n30, n0, if_true, if_false, ite_true, ite_false, not_true_eq_false, not_false_eq_true, and_true, true_and, and_false, false_and, or_true, true_or, or_false, false_or, reduceIte, and_self, or_self, ne_eq, eq_self_iff_true]; first | done | rfl) | (simp [bI, h2, h3, h4, eq_true h5, campE, campRC]; done) | (simp only [campE, campRC, bI, ← Int32.not_le] at *; simp [h2, h3, h4, eq_true h5]; done) | (simp_all [bI, h2, h3, h4, eq_true h5, campE, campRC]; done) | (simp_all [bI, h2, h3, h4, eq_true h5, campE, campRC]; rfl) | (exfalso; omega)⟩
  by_cases h6 : w_ = 3
  · skip
    refine v_tabIn C (off := 51) (q := 58) dX7_camp_7 (by rw [h6]; decide) (by rw [h6]; decide) (by rw [h6]; rfl) rfl ?_
    refine v_aload_n C dX7_camp_58 rfl 0 rfl ?_
    refine v_get C (v := .ref (a 4 0)) g_X7_19 (m2 (s := s) (t := t) (g := G.2.2.1) hL) (rg (by decide) rfl) dX7_camp_59 rfl ?_
    refine w_invVr C [] 1 6 L_X7_203 (c_X6_price (s := s) (t := t)  hst hG hL ) (m4 (s := s) (t := t) (g := G.2.2.1) hL) rfl rfl rfl rfl dX7_camp_62 rfl kx_no (fun h7 => ?_)
    exact v_iret C (by decide) (by decide) dX7_camp_65 ⟨congrArg (fun z => some (Value.int z)) (by first | rfl | (simp only [h2, h3, h4, h5, eq_true h6, campE, campRC, bI, pM, pU, n10, n20, n30, n0, if_true, if_false, ite_true, ite_false, not_true_eq_false, not_false_eq_true, and_true, true_and, and_false, false_and, or_true, true_or, or_false, false_or, reduceIte, and_self, or_self, ne_eq, eq_self_iff_true]; first | done | rfl) | (simp [bI, h2, h3, h4, h5, eq_true h6, campE, campRC]; done) | (simp only [campE, campRC, bI, ← Int32.not_le] at *; simp [h2, h3, h4, h5, eq_true h6]; done) | (simp_all [bI, h2, h3, h4, h5, eq_true h6, campE, campRC]; done) | (simp_all [bI, h2, h3, h4, h5, eq_true h6, campE, campRC]; rfl) | (exfalso; omega)), by rfl, by first | assumption | first | rfl | (simp only [h2, h3, h4, h5, eq_true h6, campE, campRC, bI, pM, pU, n10, n20, n30, n0, if_true, if_false, ite_true, ite_false, not_true_eq_false, not_false_eq_true, and_true, true_and, and_false, false_and, or_true, true_or, or_false, false_or, reduceIte, and_self, or_self, ne_eq, eq_self_iff_true]; first | done | rfl) | (simp [bI, h2, h3, h4, h5, eq_true h6, campE, campRC]; done) | (simp only [campE, campRC, bI, ← Int32.not_le] at *; simp [h2, h3, h4, h5, eq_true h6]; done) | (simp_all [bI, h2, h3, h4, h5, eq_true h6, campE, campRC]; done) | (simp_all [bI, h2, h3, h4, h5, eq_true h6, campE, campRC]; rfl) | (exfalso; omega)⟩
  by_cases h8 : w_ = 4
  · skip
    refine v_tabIn C (off := 59) (q := 66) dX7_camp_7 (by rw [h8]; decide) (by rw [h8]; decide) (by rw [h8]; rfl) rfl ?_
    refine v_aload_n C dX7_camp_66 rfl 0 rfl ?_
    refine v_get C (v := .ref (a 4 0)) g_X7_19 (m2 (s := s) (t := t) (g := G.2.2.1) hL) (rg (by decide) rfl) dX7_camp_67 rfl ?_
    refine w_invVr C [] 1 6 L_X7_197 (c_X6_freightsUnderWay (s := s) (t := t)  hst hG hL ) (m4 (s := s) (t := t) (g := G.2.2.1) hL) rfl rfl rfl rfl dX7_camp_70 rfl kx_no (fun h9 => ?_)
    exact v_iret C (by decide) (by decide) dX7_camp_73 ⟨congrArg (fun z => some (Value.int z)) (by first | rfl | (simp only [h2, h3, h4, h5, h6, eq_true h8, campE, campRC, bI, pM, pU, n10, n20, n30, n0, if_true, if_false, ite_true, ite_false, not_true_eq_false, not_false_eq_true, and_true, true_and, and_false, false_and, or_true, true_or, or_false, false_or, reduceIte, and_self, or_self, ne_eq, eq_self_iff_true]; first | done | rfl) | (simp [bI, h2, h3, h4, h5, h6, eq_true h8, campE, campRC]; done) | (simp only [campE, campRC, bI, ← Int32.not_le] at *; simp [h2, h3, h4, h5, h6, eq_true h8]; done) | (simp_all [bI, h2, h3, h4, h5, h6, eq_true h8, campE, campRC]; done) | (simp_all [bI, h2, h3, h4, h5, h6, eq_true h8, campE, campRC]; rfl) | (exfalso; omega)), by rfl, by first | assumption | first | rfl | (simp only [h2, h3, h4, h5, h6, eq_true h8, campE, campRC, bI, pM, pU, n10, n20, n30, n0, if_true, if_false, ite_true, ite_false, not_true_eq_false, not_false_eq_true, and_true, true_and, and_false, false_and, or_true, true_or, or_false, false_or, reduceIte, and_self, or_self, ne_eq, eq_self_iff_true]; first | done | rfl) | (simp [bI, h2, h3, h4, h5, h6, eq_true h8, campE, campRC]; done) | (simp only [campE, campRC, bI, ← Int32.not_le] at *; simp [h2, h3, h4, h5, h6, eq_true h8]; done) | (simp_all [bI, h2, h3, h4, h5, h6, eq_true h8, campE, campRC]; done) | (simp_all [bI, h2, h3, h4, h5, h6, eq_true h8, campE, campRC]; rfl) | (exfalso; omega)⟩
  have fh3 : (w_).toInt ≠ 0 := fun h => h3 (Int32.toInt_inj.mp (h.trans (by decide)))
  have fh4 : (w_).toInt ≠ 1 := fun h => h4 (Int32.toInt_inj.mp (h.trans (by decide)))
  have fh5 : (w_).toInt ≠ 2 := fun h => h5 (Int32.toInt_inj.mp (h.trans (by decide)))
  have fh6 : (w_).toInt ≠ 3 := fun h => h6 (Int32.toInt_inj.mp (h.trans (by decide)))
  have fh8 : (w_).toInt ≠ 4 := fun h => h8 (Int32.toInt_inj.mp (h.trans (by decide)))
  refine v_tabOut C (q := 74) dX7_camp_7 (by omega) rfl ?_
  refine v_aload_n C dX7_camp_74 rfl 0 rfl ?_
  refine w_invVr C [] 1 6 L_X7_102 (c_X7_livingMiners (s := s) (t := t) (nm := nm) hst hG hL hlm hm12 hv_nm) (m2 (s := s) (t := t) (g := G.2.2.1) hL) rfl rfl rfl rfl dX7_camp_75 rfl kx_no (fun h10 => ?_)
  exact v_iret C (by decide) (by decide) dX7_camp_78 ⟨congrArg (fun z => some (Value.int z)) (by first | rfl | (simp only [h2, h3, h4, h5, h6, h8, campE, campRC, bI, pM, pU, n10, n20, n30, n0, if_true, if_false, ite_true, ite_false, not_true_eq_false, not_false_eq_true, and_true, true_and, and_false, false_and, or_true, true_or, or_false, false_or, reduceIte, and_self, or_self, ne_eq, eq_self_iff_true]; first | done | rfl) | (simp [bI, h2, h3, h4, h5, h6, h8, campE, campRC]; done) | (simp only [campE, campRC, bI, ← Int32.not_le] at *; simp [h2, h3, h4, h5, h6, h8]; done) | (simp_all [bI, h2, h3, h4, h5, h6, h8, campE, campRC]; done) | (simp_all [bI, h2, h3, h4, h5, h6, h8, campE, campRC]; rfl) | (exfalso; omega)), by rfl, by first | assumption | first | rfl | (simp only [h2, h3, h4, h5, h6, h8, campE, campRC, bI, pM, pU, n10, n20, n30, n0, if_true, if_false, ite_true, ite_false, not_true_eq_false, not_false_eq_true, and_true, true_and, and_false, false_and, or_true, true_or, or_false, false_or, reduceIte, and_self, or_self, ne_eq, eq_self_iff_true]; first | done | rfl) | (simp [bI, h2, h3, h4, h5, h6, h8, campE, campRC]; done) | (simp only [campE, campRC, bI, ← Int32.not_le] at *; simp [h2, h3, h4, h5, h6, h8]; done) | (simp_all [bI, h2, h3, h4, h5, h6, h8, campE, campRC]; done) | (simp_all [bI, h2, h3, h4, h5, h6, h8, campE, campRC]; rfl) | (exfalso; omega)⟩

abbrev r_X7_ofClaim : Room := { frames := 8, cells := 2, slots := 12, locals := 124 }
set_option maxRecDepth 4000 in
theorem c_X7_ofClaim {l : Launch} {G : GG} {a : AD} {s t s0 : SS} {L : List (Nat × Nat)} {nc : Nat} (hst : l.stackTraces = false) (hG : GOK G) (hL : Live L s0) (x : Int32) (w_ : Int32) (hlc : LsOK a s s0 1 nc) (hv_nc : ∀ i, i < nc → i < tn (s0 21 0)) : Mth l yX7_ofClaim cX7_ofClaim 4 (Option.some Jvm.ClassFile.FieldType.int) r_X7_ofClaim G (wl a (E G.2.2.1 a s t) L) [.ref (a 2 0), .int x, .int w_] (RI (.int (ofClaimR s x w_)) (wl a (E G.2.2.1 a s t) L) (ofClaimE s x w_ = 0)) (XW (fun E => pE LIA (ofClaimE s x w_) E) (wl a (E G.2.2.1 a s t) L)) := by
  refine mth_of rfl (Nat.le_of_ble_eq_true rfl) hst hG (fun X hX C0 => ?_)
  subst hX
  have C : Cx X G cX7_ofClaim 4 RX7 (Option.some Jvm.ClassFile.FieldType.int) r_X7_ofClaim "ofClaim" [] := C0
  clear C0
  show V X G 4 _ 0 0 _ 0 [(0, .ref (a 2 0)), (1, .int (x)), (2, .int (w_))] []
  have hc30 := hlc.2.1
  refine v_aload_n C dX7_ofClaim_0 rfl 0 rfl ?_
  refine v_iload_n C dX7_ofClaim_1 rfl 1 rfl ?_
  refine w_invVr C [.int (x)] 1 6 L_X7_157 (c_X7_claimAt (s := s) (t := t) (nc := nc) hst hG hL x hlc hv_nc) (m2 (s := s) (t := t) (g := G.2.2.1) hL) rfl rfl rfl rfl dX7_ofClaim_2 rfl (kx_out C (by decide) (fun E w1 hE => by obtain ⟨⟨rfl, h1⟩, rfl⟩ := hE; exact ⟨⟨1, List.Mem.head _, by first | rfl | (simp only [h1, ofClaimE, ofClaimR, bI, pM, pU, n10, n20, n30, n0, if_true, if_false, ite_true, ite_false, not_true_eq_false, not_false_eq_true, and_true, true_and, and_false, false_and, or_true, true_or, or_false, false_or, reduceIte, and_self, or_self, ne_eq, eq_self_iff_true]; first | done | rfl) | (simp [bI, h1, ofClaimE, ofClaimR]; done) | (simp only [ofClaimE, ofClaimR, bI, ← Int32.not_le] at *; simp [h1]; done) | (simp_all [bI, h1, ofClaimE, ofClaimR]; done) | (simp_all [bI, h1, ofClaimE, ofClaimR]; rfl) | (exfalso; omega)⟩, rfl⟩)) (fun h2 => ?_)
  have lh2 : tn x < nc := in_lt (vp_cnt h2 hlc.p1 (Nat.le_refl _) (by omega))
  refine v_astore_n C (lv1 := [(3, .ref (a 12 (tn x))), (0, .ref (a 2 0)), (1, .int (x)), (2, .int (w_))]) dX7_ofClaim_5 rfl (by decide) rfl ?_
  refine v_iload_n C dX7_ofClaim_6 rfl 3 rfl ?_
  refine v_iconst C (v := 0) dX7_ofClaim_7 rfl rfl ?_
  refine v_iconst C (v := 5) dX7_ofClaim_8 rfl rfl ?_
  refine w_invSv C [.int (w_), .int (0), .int (5)] 2 12 L_X7_67 (c_X7_checkRange (s := s) (t := t)  hst hG hL w_ 0 5) rfl rfl rfl dX7_ofClaim_9 rfl (kx_out C (by decide) (fun E w1 hE => by obtain ⟨⟨rfl, h3⟩, rfl⟩ := hE; exact ⟨⟨2, List.Mem.tail _ (List.Mem.head _), by first | rfl | (simp only [h2, h3, ofClaimE, ofClaimR, bI, pM, pU, n10, n20, n30, n0, if_true, if_false, ite_true, ite_false, not_true_eq_false, not_false_eq_true, and_true, true_and, and_false, false_and, or_true, true_or, or_false, false_or, reduceIte, and_self, or_self, ne_eq, eq_self_iff_true]; first | done | rfl) | (simp [bI, h2, h3, ofClaimE, ofClaimR]; done) | (simp only [ofClaimE, ofClaimR, bI, ← Int32.not_le] at *; simp [h2, h3]; done) | (simp_all [bI, h2, h3, ofClaimE, ofClaimR]; done) | (simp_all [bI, h2, h3, ofClaimE, ofClaimR]; rfl) | (exfalso; omega)⟩, rfl⟩)) (fun h4 => ?_)
  refine v_iload_n C dX7_ofClaim_12 rfl 3 rfl ?_
  by_cases h5 : w_ = 0
  · skip
    refine v_tabIn C (off := 35) (q := 48) dX7_ofClaim_13 (by rw [h5]; decide) (by rw [h5]; decide) (by rw [h5]; rfl) rfl ?_
    refine v_aload_n C dX7_ofClaim_48 rfl 0 rfl ?_
    refine v_get C (v := .int (s 22 (tn x))) g_X7_223 (m12 (s := s) (t := t) (g := G.2.2.1) hL (tn x) (hv_nc _ (by omega))) (rg (by decide) rfl) dX7_ofClaim_49 rfl ?_
    exact v_iret C (by decide) (by decide) dX7_ofClaim_52 ⟨congrArg (fun z => some (Value.int z)) (by first | rfl | (simp only [h2, h4, eq_true h5, ofClaimE, ofClaimR, bI, pM, pU, n10, n20, n30, n0, if_true, if_false, ite_true, ite_false, not_true_eq_false, not_false_eq_true, and_true, true_and, and_false, false_and, or_true, true_or, or_false, false_or, reduceIte, and_self, or_self, ne_eq, eq_self_iff_true]; first | done | rfl) | (simp [bI, h2, h4, eq_true h5, ofClaimE, ofClaimR]; done) | (simp only [ofClaimE, ofClaimR, bI, ← Int32.not_le] at *; simp [h2, h4, eq_true h5]; done) | (simp_all [bI, h2, h4, eq_true h5, ofClaimE, ofClaimR]; done) | (simp_all [bI, h2, h4, eq_true h5, ofClaimE, ofClaimR]; rfl) | (exfalso; omega)), by rfl, by first | assumption | first | rfl | (simp only [h2, h4, eq_true h5, ofClaimE, ofClaimR, bI, pM, pU, n10, n20, n30, n0, if_true, if_false, ite_true, ite_false, not_true_eq_false, not_false_eq_true, and_true, true_and, and_false, false_and, or_true, true_or, or_false, false_or, reduceIte, and_self, or_self, ne_eq, eq_self_iff_true]; first | done | rfl) | (simp [bI, h2, h4, eq_true h5, ofClaimE, ofClaimR]; done) | (simp only [ofClaimE, ofClaimR, bI, ← Int32.not_le] at *; simp [h2, h4, eq_true h5]; done) | (simp_all [bI, h2, h4, eq_true h5, ofClaimE, ofClaimR]; done) | (simp_all [bI, h2, h4, eq_true h5, ofClaimE, ofClaimR]; rfl) | (exfalso; omega)⟩
  by_cases h6 : w_ = 1
  · skip
    refine v_tabIn C (off := 40) (q := 53) dX7_ofClaim_13 (by rw [h6]; decide) (by rw [h6]; decide) (by rw [h6]; rfl) rfl ?_
    refine v_aload_n C dX7_ofClaim_53 rfl 0 rfl ?_
    refine v_get C (v := .int (s 23 (tn x))) g_X7_229 (m12 (s := s) (t := t) (g := G.2.2.1) hL (tn x) (hv_nc _ (by omega))) (rg (by decide) rfl) dX7_ofClaim_54 rfl ?_
    exact v_iret C (by decide) (by decide) dX7_ofClaim_57 ⟨congrArg (fun z => some (Value.int z)) (by first | rfl | (simp only [h2, h4, h5, eq_true h6, ofClaimE, ofClaimR, bI, pM, pU, n10, n20, n30, n0, if_true, if_false, ite_true, ite_false, not_true_eq_false, not_false_eq_true, and_true, true_and, and_false, false_and, or_true, true_or, or_false, false_or, reduceIte, and_self, or_self, ne_eq, eq_self_iff_true]; first | done | rfl) | (simp [bI, h2, h4, h5, eq_true h6, ofClaimE, ofClaimR]; done) | (simp only [ofClaimE, ofClaimR, bI, ← Int32.not_le] at *; simp [h2, h4, h5, eq_true h6]; done) | (simp_all [bI, h2, h4, h5, eq_true h6, ofClaimE, ofClaimR]; done) | (simp_all [bI, h2, h4, h5, eq_true h6, ofClaimE, ofClaimR]; rfl) | (exfalso; omega)), by rfl, by first | assumption | first | rfl | (simp only [h2, h4, h5, eq_true h6, ofClaimE, ofClaimR, bI, pM, pU, n10, n20, n30, n0, if_true, if_false, ite_true, ite_false, not_true_eq_false, not_false_eq_true, and_true, true_and, and_false, false_and, or_true, true_or, or_false, false_or, reduceIte, and_self, or_self, ne_eq, eq_self_iff_true]; first | done | rfl) | (simp [bI, h2, h4, h5, eq_true h6, ofClaimE, ofClaimR]; done) | (simp only [ofClaimE, ofClaimR, bI, ← Int32.not_le] at *; simp [h2, h4, h5, eq_true h6]; done) | (simp_all [bI, h2, h4, h5, eq_true h6, ofClaimE, ofClaimR]; done) | (simp_all [bI, h2, h4, h5, eq_true h6, ofClaimE, ofClaimR]; rfl) | (exfalso; omega)⟩
  by_cases h7 : w_ = 2
  · skip
    refine v_tabIn C (off := 45) (q := 58) dX7_ofClaim_13 (by rw [h7]; decide) (by rw [h7]; decide) (by rw [h7]; rfl) rfl ?_
    refine v_aload_n C dX7_ofClaim_58 rfl 0 rfl ?_
    refine v_get C (v := .int (s 24 (tn x))) g_X7_232 (m12 (s := s) (t := t) (g := G.2.2.1) hL (tn x) (hv_nc _ (by omega))) (rg (by decide) rfl) dX7_ofClaim_59 rfl ?_
    exact v_iret C (by decide) (by decide) dX7_ofClaim_62 ⟨congrArg (fun z => some (Value.int z)) (by first | rfl | (simp only [h2, h4, h5, h6, eq_true h7, ofClaimE, ofClaimR, bI, pM, pU, n10, n20, n30, n0, if_true, if_false, ite_true, ite_false, not_true_eq_false, not_false_eq_true, and_true, true_and, and_false, false_and, or_true, true_or, or_false, false_or, reduceIte, and_self, or_self, ne_eq, eq_self_iff_true]; first | done | rfl) | (simp [bI, h2, h4, h5, h6, eq_true h7, ofClaimE, ofClaimR]; done) | (simp only [ofClaimE, ofClaimR, bI, ← Int32.not_le] at *; simp [h2, h4, h5, h6, eq_true h7]; done) | (simp_all [bI, h2, h4, h5, h6, eq_true h7, ofClaimE, ofClaimR]; done) | (simp_all [bI, h2, h4, h5, h6, eq_true h7, ofClaimE, ofClaimR]; rfl) | (exfalso; omega)), by rfl, by first | assumption | first | rfl | (simp only [h2, h4, h5, h6, eq_true h7, ofClaimE, ofClaimR, bI, pM, pU, n10, n20, n30, n0, if_true, if_false, ite_true, ite_false, not_true_eq_false, not_false_eq_true, and_true, true_and, and_false, false_and, or_true, true_or, or_false, false_or, reduceIte, and_self, or_self, ne_eq, eq_self_iff_true]; first | done | rfl) | (simp [bI, h2, h4, h5, h6, eq_true h7, ofClaimE, ofClaimR]; done) | (simp only [ofClaimE, ofClaimR, bI, ← Int32.not_le] at *; simp [h2, h4, h5, h6, eq_true h7]; done) | (simp_all [bI, h2, h4, h5, h6, eq_true h7, ofClaimE, ofClaimR]; done) | (simp_all [bI, h2, h4, h5, h6, eq_true h7, ofClaimE, ofClaimR]; rfl) | (exfalso; omega)⟩
  by_cases h8 : w_ = 3
  · skip
    refine v_tabIn C (off := 50) (q := 63) dX7_ofClaim_13 (by rw [h8]; decide) (by rw [h8]; decide) (by rw [h8]; rfl) rfl ?_
    refine v_aload_n C dX7_ofClaim_63 rfl 0 rfl ?_
    refine v_get C (v := .int (s 25 (tn x))) g_X7_226 (m12 (s := s) (t := t) (g := G.2.2.1) hL (tn x) (hv_nc _ (by omega))) (rg (by decide) rfl) dX7_ofClaim_64 rfl ?_
    refine v_if_eq C (t := 74) dX7_ofClaim_67 rfl rfl (fun h9 => ?_) (fun h9 => ?_)
    · skip
      refine v_iconst C (v := 0) dX7_ofClaim_74 rfl rfl ?_
      exact v_iret C (by decide) (by decide) dX7_ofClaim_75 ⟨congrArg (fun z => some (Value.int z)) (by first | rfl | (simp only [h2, h4, h5, h6, h7, eq_true h8, eq_true h9, ofClaimE, ofClaimR, bI, pM, pU, n10, n20, n30, n0, if_true, if_false, ite_true, ite_false, not_true_eq_false, not_false_eq_true, and_true, true_and, and_false, false_and, or_true, true_or, or_false, false_or, reduceIte, and_self, or_self, ne_eq, eq_self_iff_true]; first | done | rfl) | (simp [bI, h2, h4, h5, h6, h7, eq_true h8, eq_true h9, ofClaimE, ofClaimR]; done) | (simp only [ofClaimE, ofClaimR, bI, ← Int32.not_le] at *; simp [h2, h4, h5, h6, h7, eq_true h8, eq_true h9]; done) | (simp_all [bI, h2, h4, h5, h6, h7, eq_true h8, eq_true h9, ofClaimE, ofClaimR]; done) | (simp_all [bI, h2, h4, h5, h6, h7, eq_true h8, eq_true h9, ofClaimE, ofClaimR]; rfl) | (exfalso; omega)), by rfl, by first | assumption | first | rfl | (simp only [h2, h4, h5, h6, h7, eq_true h8, eq_true h9, ofClaimE, ofClaimR, bI, pM, pU, n10, n20, n30, n0, if_true, if_false, ite_true, ite_false, not_true_eq_false, not_false_eq_true, and_true, true_and, and_false, false_and, or_true, true_or, or_false, false_or, reduceIte, and_self, or_self, ne_eq, eq_self_iff_true]; first | done | rfl) | (simp [bI, h2, h4, h5, h6, h7, eq_true h8, eq_true h9, ofClaimE, ofClaimR]; done) | (simp only [ofClaimE, ofClaimR, bI, ← Int32.not_le] at *; simp [h2, h4, h5, h6, h7, eq_true h8, eq_true h9]; done) | (simp_all [bI, h2, h4, h5, h6, h7, eq_true h8, eq_true h9, ofClaimE, ofClaimR]; done) | (simp_all [bI, h2, h4, h5, h6, h7, eq_true h8, eq_true h9, ofClaimE, ofClaimR]; rfl) | (exfalso; omega)⟩
    · skip
      refine v_iconst C (v := 1) dX7_ofClaim_70 rfl rfl ?_
      refine v_goto C (q := 75) dX7_ofClaim_71 rfl ?_
      exact v_iret C (by decide) (by decide) dX7_ofClaim_75 ⟨congrArg (fun z => some (Value.int z)) (by first | rfl | (simp only [h2, h4, h5, h6, h7, eq_true h8, h9, ofClaimE, ofClaimR, bI, pM, pU, n10, n20, n30, n0, if_true, if_false, ite_true, ite_false, not_true_eq_false, not_false_eq_true, and_true, true_and, and_false, false_and, or_true, true_or, or_false, false_or, reduceIte, and_self, or_self, ne_eq, eq_self_iff_true]; first | done | rfl) | (simp [bI, h2, h4, h5, h6, h7, eq_true h8, h9, ofClaimE, ofClaimR]; done) | (simp only [ofClaimE, ofClaimR, bI, ← Int32.not_le] at *; simp [h2, h4, h5, h6, h7, eq_true h8, h9]; done) | (simp_all [bI, h2, h4, h5, h6, h7, eq_true h8, h9, ofClaimE, ofClaimR]; done) | (simp_all [bI, h2, h4, h5, h6, h7, eq_true h8, h9, ofClaimE, ofClaimR]; rfl) | (exfalso; omega)), by rfl, by first | assumption | first | rfl | (simp only [h2, h4, h5, h6, h7, eq_true h8, h9, ofClaimE, ofClaimR, bI, pM, pU, n10, n20, n30, n0, if_true, if_false, ite_true, ite_false, not_true_eq_false, not_false_eq_true, and_true, true_and, and_false, false_and, or_true, true_or, or_false, false_or, reduceIte, and_self, or_self, ne_eq, eq_self_iff_true]; first | done | rfl) | (simp [bI, h2, h4, h5, h6, h7, eq_true h8, h9, ofClaimE, ofClaimR]; done) | (simp only [ofClaimE, ofClaimR, bI, ← Int32.not_le] at *; simp [h2, h4, h5, h6, h7, eq_true h8, h9]; done) | (simp_all [bI, h2, h4, h5, h6, h7, eq_true h8, h9, ofClaimE, ofClaimR]; done) | (simp_all [bI, h2, h4, h5, h6, h7, eq_true h8, h9, ofClaimE, ofClaimR]; rfl) | (exfalso; omega)⟩
  by_cases h10 : w_ = 4
  · skip
    refine v_tabIn C (off := 63) (q := 76) dX7_ofClaim_13 (by rw [h10]; decide) (by rw [h10]; decide) (by rw [h10]; rfl) rfl ?_
    refine v_aload_n C dX7_ofClaim_76 rfl 0 rfl ?_
    refine v_get C (v := .int (s 26 (tn x))) g_X7_161 (m12 (s := s) (t := t) (g := G.2.2.1) hL (tn x) (hv_nc _ (by omega))) (rg (by decide) rfl) dX7_ofClaim_77 rfl ?_
    exact v_iret C (by decide) (by decide) dX7_ofClaim_80 ⟨congrArg (fun z => some (Value.int z)) (by first | rfl | (simp only [h2, h4, h5, h6, h7, h8, eq_true h10, ofClaimE, ofClaimR, bI, pM, pU, n10, n20, n30, n0, if_true, if_false, ite_true, ite_false, not_true_eq_false, not_false_eq_true, and_true, true_and, and_false, false_and, or_true, true_or, or_false, false_or, reduceIte, and_self, or_self, ne_eq, eq_self_iff_true]; first | done | rfl) | (simp [bI, h2, h4, h5, h6, h7, h8, eq_true h10, ofClaimE, ofClaimR]; done) | (simp only [ofClaimE, ofClaimR, bI, ← Int32.not_le] at *; simp [h2, h4, h5, h6, h7, h8, eq_true h10]; done) | (simp_all [bI, h2, h4, h5, h6, h7, h8, eq_true h10, ofClaimE, ofClaimR]; done) | (simp_all [bI, h2, h4, h5, h6, h7, h8, eq_true h10, ofClaimE, ofClaimR]; rfl) | (exfalso; omega)), by rfl, by first | assumption | first | rfl | (simp only [h2, h4, h5, h6, h7, h8, eq_true h10, ofClaimE, ofClaimR, bI, pM, pU, n10, n20, n30, n0, if_true, if_false, ite_true, ite_false, not_true_eq_false, not_false_eq_true, and_true, true_and, and_false, false_and, or_true, true_or, or_false, false_or, reduceIte, and_self, or_self, ne_eq, eq_self_iff_true]; first | done | rfl) | (simp [bI, h2, h4, h5, h6, h7, h8, eq_true h10, ofClaimE, ofClaimR]; done) | (simp only [ofClaimE, ofClaimR, bI, ← Int32.not_le] at *; simp [h2, h4, h5, h6, h7, h8, eq_true h10]; done) | (simp_all [bI, h2, h4, h5, h6, h7, h8, eq_true h10, ofClaimE, ofClaimR]; done) | (simp_all [bI, h2, h4, h5, h6, h7, h8, eq_true h10, ofClaimE, ofClaimR]; rfl) | (exfalso; omega)⟩
  have fh5 : (w_).toInt ≠ 0 := fun h => h5 (Int32.toInt_inj.mp (h.trans (by decide)))
  have fh6 : (w_).toInt ≠ 1 := fun h => h6 (Int32.toInt_inj.mp (h.trans (by decide)))
  have fh7 : (w_).toInt ≠ 2 := fun h => h7 (Int32.toInt_inj.mp (h.trans (by decide)))
  have fh8 : (w_).toInt ≠ 3 := fun h => h8 (Int32.toInt_inj.mp (h.trans (by decide)))
  have fh10 : (w_).toInt ≠ 4 := fun h => h10 (Int32.toInt_inj.mp (h.trans (by decide)))
  refine v_tabOut C (q := 81) dX7_ofClaim_13 (by omega) rfl ?_
  refine v_aload_n C dX7_ofClaim_81 rfl 0 rfl ?_
  refine v_get C (v := .int (s 27 (tn x))) g_X7_270 (m12 (s := s) (t := t) (g := G.2.2.1) hL (tn x) (hv_nc _ (by omega))) (rg (by decide) rfl) dX7_ofClaim_82 rfl ?_
  exact v_iret C (by decide) (by decide) dX7_ofClaim_85 ⟨congrArg (fun z => some (Value.int z)) (by first | rfl | (simp only [h2, h4, h5, h6, h7, h8, h10, ofClaimE, ofClaimR, bI, pM, pU, n10, n20, n30, n0, if_true, if_false, ite_true, ite_false, not_true_eq_false, not_false_eq_true, and_true, true_and, and_false, false_and, or_true, true_or, or_false, false_or, reduceIte, and_self, or_self, ne_eq, eq_self_iff_true]; first | done | rfl) | (simp [bI, h2, h4, h5, h6, h7, h8, h10, ofClaimE, ofClaimR]; done) | (simp only [ofClaimE, ofClaimR, bI, ← Int32.not_le] at *; simp [h2, h4, h5, h6, h7, h8, h10]; done) | (simp_all [bI, h2, h4, h5, h6, h7, h8, h10, ofClaimE, ofClaimR]; done) | (simp_all [bI, h2, h4, h5, h6, h7, h8, h10, ofClaimE, ofClaimR]; rfl) | (exfalso; omega)), by rfl, by first | assumption | first | rfl | (simp only [h2, h4, h5, h6, h7, h8, h10, ofClaimE, ofClaimR, bI, pM, pU, n10, n20, n30, n0, if_true, if_false, ite_true, ite_false, not_true_eq_false, not_false_eq_true, and_true, true_and, and_false, false_and, or_true, true_or, or_false, false_or, reduceIte, and_self, or_self, ne_eq, eq_self_iff_true]; first | done | rfl) | (simp [bI, h2, h4, h5, h6, h7, h8, h10, ofClaimE, ofClaimR]; done) | (simp only [ofClaimE, ofClaimR, bI, ← Int32.not_le] at *; simp [h2, h4, h5, h6, h7, h8, h10]; done) | (simp_all [bI, h2, h4, h5, h6, h7, h8, h10, ofClaimE, ofClaimR]; done) | (simp_all [bI, h2, h4, h5, h6, h7, h8, h10, ofClaimE, ofClaimR]; rfl) | (exfalso; omega)⟩

abbrev r_X7_ofMiner : Room := { frames := 8, cells := 2, slots := 12, locals := 133 }
set_option maxRecDepth 4000 in
theorem c_X7_ofMiner {l : Launch} {G : GG} {a : AD} {s t s0 : SS} {L : List (Nat × Nat)} {nm : Nat} {nr : Nat} (hst : l.stackTraces = false) (hG : GOK G) (hL : Live L s0) (x : Int32) (w_ : Int32) (hlm : LsOK a s s0 0 nm) (hm12 : nm ≤ 12) (hv_nm : ∀ i, i < nm → i < tn (s0 12 0)) (hlr : LsOK a s s0 2 nr) (hr20 : nr ≤ 20) (hv_nr : ∀ i, i < nr → i < tn (s0 33 0)) (hro : ∀ i, i < nr → vp_in (s 34 i) nm) : Mth l yX7_ofMiner cX7_ofMiner 4 (Option.some Jvm.ClassFile.FieldType.int) r_X7_ofMiner G (wl a (E G.2.2.1 a s t) L) [.ref (a 2 0), .int x, .int w_] (RI (.int (ofMinerRC s nm nr x w_)) (wl a (E G.2.2.1 a s t) L) (ofMinerE s nm nr x w_ = 0)) (XW (fun E => pE LIA (ofMinerE s nm nr x w_) E) (wl a (E G.2.2.1 a s t) L)) := by
  refine mth_of rfl (Nat.le_of_ble_eq_true rfl) hst hG (fun X hX C0 => ?_)
  subst hX
  have C : Cx X G cX7_ofMiner 4 RX7 (Option.some Jvm.ClassFile.FieldType.int) r_X7_ofMiner "ofMiner" [] := C0
  clear C0
  show V X G 4 _ 0 0 _ 0 [(0, .ref (a 2 0)), (1, .int (x)), (2, .int (w_))] []
  refine v_aload_n C dX7_ofMiner_0 rfl 0 rfl ?_
  refine v_iload_n C dX7_ofMiner_1 rfl 1 rfl ?_
  refine w_invVr C [.int (x)] 1 6 L_X7_108 (c_X7_minerAt (s := s) (t := t) (nm := nm) hst hG hL x hlm hm12 hv_nm) (m2 (s := s) (t := t) (g := G.2.2.1) hL) rfl rfl rfl rfl dX7_ofMiner_2 rfl (kx_out C (by decide) (fun E w1 hE => by obtain ⟨⟨rfl, h1⟩, rfl⟩ := hE; exact ⟨⟨1, List.Mem.head _, by first | rfl | (simp only [h1, ofMinerE, ofMinerRC, bI, pM, pU, n10, n20, n30, n0, if_true, if_false, ite_true, ite_false, not_true_eq_false, not_false_eq_true, and_true, true_and, and_false, false_and, or_true, true_or, or_false, false_or, reduceIte, and_self, or_self, ne_eq, eq_self_iff_true]; first | done | rfl) | (simp [bI, h1, ofMinerE, ofMinerRC]; done) | (simp only [ofMinerE, ofMinerRC, bI, ← Int32.not_le] at *; simp [h1]; done) | (simp_all [bI, h1, ofMinerE, ofMinerRC]; done) | (simp_all [bI, h1, ofMinerE, ofMinerRC]; rfl) | (exfalso; omega)⟩, rfl⟩)) (fun h2 => ?_)
  have lh2 : tn x < nm := in_lt (vp_cnt h2 hlm.p0 (Nat.le_refl _) (by omega))
  refine v_astore_n C (lv1 := [(3, .ref (a 9 (tn x))), (0, .ref (a 2 0)), (1, .int (x)), (2, .int (w_))]) dX7_ofMiner_5 rfl (by decide) rfl ?_
  refine v_iload_n C dX7_ofMiner_6 rfl 3 rfl ?_
  refine v_iconst C (v := 0) dX7_ofMiner_7 rfl rfl ?_
  refine v_bipush C (v := 7) dX7_ofMiner_8 rfl rfl ?_
  refine w_invSv C [.int (w_), .int (0), .int (7)] 2 12 L_X7_67 (c_X7_checkRange (s := s) (t := t)  hst hG hL w_ 0 7) rfl rfl rfl dX7_ofMiner_10 rfl (kx_out C (by decide) (fun E w1 hE => by obtain ⟨⟨rfl, h3⟩, rfl⟩ := hE; exact ⟨⟨2, List.Mem.tail _ (List.Mem.head _), by first | rfl | (simp only [h2, h3, ofMinerE, ofMinerRC, bI, pM, pU, n10, n20, n30, n0, if_true, if_false, ite_true, ite_false, not_true_eq_false, not_false_eq_true, and_true, true_and, and_false, false_and, or_true, true_or, or_false, false_or, reduceIte, and_self, or_self, ne_eq, eq_self_iff_true]; first | done | rfl) | (simp [bI, h2, h3, ofMinerE, ofMinerRC]; done) | (simp only [ofMinerE, ofMinerRC, bI, ← Int32.not_le] at *; simp [h2, h3]; done) | (simp_all [bI, h2, h3, ofMinerE, ofMinerRC]; done) | (simp_all [bI, h2, h3, ofMinerE, ofMinerRC]; rfl) | (exfalso; omega)⟩, rfl⟩)) (fun h4 => ?_)
  refine v_iload_n C dX7_ofMiner_13 rfl 3 rfl ?_
  by_cases h5 : w_ = 0
  · skip
    refine v_tabIn C (off := 42) (q := 56) dX7_ofMiner_14 (by rw [h5]; decide) (by rw [h5]; decide) (by rw [h5]; rfl) rfl ?_
    refine v_aload_n C dX7_ofMiner_56 rfl 0 rfl ?_
    refine v_get C (v := .int (s 13 (tn x))) g_X7_166 (m9 (s := s) (t := t) (g := G.2.2.1) hL (tn x) (hv_nm _ (by omega))) (rg (by decide) rfl) dX7_ofMiner_57 rfl ?_
    exact v_iret C (by decide) (by decide) dX7_ofMiner_60 ⟨congrArg (fun z => some (Value.int z)) (by first | rfl | (simp only [h2, h4, eq_true h5, ofMinerE, ofMinerRC, bI, pM, pU, n10, n20, n30, n0, if_true, if_false, ite_true, ite_false, not_true_eq_false, not_false_eq_true, and_true, true_and, and_false, false_and, or_true, true_or, or_false, false_or, reduceIte, and_self, or_self, ne_eq, eq_self_iff_true]; first | done | rfl) | (simp [bI, h2, h4, eq_true h5, ofMinerE, ofMinerRC]; done) | (simp only [ofMinerE, ofMinerRC, bI, ← Int32.not_le] at *; simp [h2, h4, eq_true h5]; done) | (simp_all [bI, h2, h4, eq_true h5, ofMinerE, ofMinerRC]; done) | (simp_all [bI, h2, h4, eq_true h5, ofMinerE, ofMinerRC]; rfl) | (exfalso; omega)), by rfl, by first | assumption | first | rfl | (simp only [h2, h4, eq_true h5, ofMinerE, ofMinerRC, bI, pM, pU, n10, n20, n30, n0, if_true, if_false, ite_true, ite_false, not_true_eq_false, not_false_eq_true, and_true, true_and, and_false, false_and, or_true, true_or, or_false, false_or, reduceIte, and_self, or_self, ne_eq, eq_self_iff_true]; first | done | rfl) | (simp [bI, h2, h4, eq_true h5, ofMinerE, ofMinerRC]; done) | (simp only [ofMinerE, ofMinerRC, bI, ← Int32.not_le] at *; simp [h2, h4, eq_true h5]; done) | (simp_all [bI, h2, h4, eq_true h5, ofMinerE, ofMinerRC]; done) | (simp_all [bI, h2, h4, eq_true h5, ofMinerE, ofMinerRC]; rfl) | (exfalso; omega)⟩
  by_cases h6 : w_ = 1
  · skip
    refine v_tabIn C (off := 47) (q := 61) dX7_ofMiner_14 (by rw [h6]; decide) (by rw [h6]; decide) (by rw [h6]; rfl) rfl ?_
    refine v_aload_n C dX7_ofMiner_61 rfl 0 rfl ?_
    refine v_get C (v := .int (s 14 (tn x))) g_X7_178 (m9 (s := s) (t := t) (g := G.2.2.1) hL (tn x) (hv_nm _ (by omega))) (rg (by decide) rfl) dX7_ofMiner_62 rfl ?_
    exact v_iret C (by decide) (by decide) dX7_ofMiner_65 ⟨congrArg (fun z => some (Value.int z)) (by first | rfl | (simp only [h2, h4, h5, eq_true h6, ofMinerE, ofMinerRC, bI, pM, pU, n10, n20, n30, n0, if_true, if_false, ite_true, ite_false, not_true_eq_false, not_false_eq_true, and_true, true_and, and_false, false_and, or_true, true_or, or_false, false_or, reduceIte, and_self, or_self, ne_eq, eq_self_iff_true]; first | done | rfl) | (simp [bI, h2, h4, h5, eq_true h6, ofMinerE, ofMinerRC]; done) | (simp only [ofMinerE, ofMinerRC, bI, ← Int32.not_le] at *; simp [h2, h4, h5, eq_true h6]; done) | (simp_all [bI, h2, h4, h5, eq_true h6, ofMinerE, ofMinerRC]; done) | (simp_all [bI, h2, h4, h5, eq_true h6, ofMinerE, ofMinerRC]; rfl) | (exfalso; omega)), by rfl, by first | assumption | first | rfl | (simp only [h2, h4, h5, eq_true h6, ofMinerE, ofMinerRC, bI, pM, pU, n10, n20, n30, n0, if_true, if_false, ite_true, ite_false, not_true_eq_false, not_false_eq_true, and_true, true_and, and_false, false_and, or_true, true_or, or_false, false_or, reduceIte, and_self, or_self, ne_eq, eq_self_iff_true]; first | done | rfl) | (simp [bI, h2, h4, h5, eq_true h6, ofMinerE, ofMinerRC]; done) | (simp only [ofMinerE, ofMinerRC, bI, ← Int32.not_le] at *; simp [h2, h4, h5, eq_true h6]; done) | (simp_all [bI, h2, h4, h5, eq_true h6, ofMinerE, ofMinerRC]; done) | (simp_all [bI, h2, h4, h5, eq_true h6, ofMinerE, ofMinerRC]; rfl) | (exfalso; omega)⟩
  by_cases h7 : w_ = 2
  · skip
    refine v_tabIn C (off := 52) (q := 66) dX7_ofMiner_14 (by rw [h7]; decide) (by rw [h7]; decide) (by rw [h7]; rfl) rfl ?_
    refine v_aload_n C dX7_ofMiner_66 rfl 0 rfl ?_
    refine v_get C (v := .int (s 15 (tn x))) g_X7_209 (m9 (s := s) (t := t) (g := G.2.2.1) hL (tn x) (hv_nm _ (by omega))) (rg (by decide) rfl) dX7_ofMiner_67 rfl ?_
    exact v_iret C (by decide) (by decide) dX7_ofMiner_70 ⟨congrArg (fun z => some (Value.int z)) (by first | rfl | (simp only [h2, h4, h5, h6, eq_true h7, ofMinerE, ofMinerRC, bI, pM, pU, n10, n20, n30, n0, if_true, if_false, ite_true, ite_false, not_true_eq_false, not_false_eq_true, and_true, true_and, and_false, false_and, or_true, true_or, or_false, false_or, reduceIte, and_self, or_self, ne_eq, eq_self_iff_true]; first | done | rfl) | (simp [bI, h2, h4, h5, h6, eq_true h7, ofMinerE, ofMinerRC]; done) | (simp only [ofMinerE, ofMinerRC, bI, ← Int32.not_le] at *; simp [h2, h4, h5, h6, eq_true h7]; done) | (simp_all [bI, h2, h4, h5, h6, eq_true h7, ofMinerE, ofMinerRC]; done) | (simp_all [bI, h2, h4, h5, h6, eq_true h7, ofMinerE, ofMinerRC]; rfl) | (exfalso; omega)), by rfl, by first | assumption | first | rfl | (simp only [h2, h4, h5, h6, eq_true h7, ofMinerE, ofMinerRC, bI, pM, pU, n10, n20, n30, n0, if_true, if_false, ite_true, ite_false, not_true_eq_false, not_false_eq_true, and_true, true_and, and_false, false_and, or_true, true_or, or_false, false_or, reduceIte, and_self, or_self, ne_eq, eq_self_iff_true]; first | done | rfl) | (simp [bI, h2, h4, h5, h6, eq_true h7, ofMinerE, ofMinerRC]; done) | (simp only [ofMinerE, ofMinerRC, bI, ← Int32.not_le] at *; simp [h2, h4, h5, h6, eq_true h7]; done) | (simp_all [bI, h2, h4, h5, h6, eq_true h7, ofMinerE, ofMinerRC]; done) | (simp_all [bI, h2, h4, h5, h6, eq_true h7, ofMinerE, ofMinerRC]; rfl) | (exfalso; omega)⟩
  by_cases h8 : w_ = 3
  · skip
    refine v_tabIn C (off := 57) (q := 71) dX7_ofMiner_14 (by rw [h8]; decide) (by rw [h8]; decide) (by rw [h8]; rfl) rfl ?_
    refine v_aload_n C dX7_ofMiner_71 rfl 0 rfl ?_
    refine v_get C (v := .int (s 16 (tn x))) g_X7_194 (m9 (s := s) (t := t) (g := G.2.2.1) hL (tn x) (hv_nm _ (by omega))) (rg (by decide) rfl) dX7_ofMiner_72 rfl ?_
    exact v_iret C (by decide) (by decide) dX7_ofMiner_75 ⟨congrArg (fun z => some (Value.int z)) (by first | rfl | (simp only [h2, h4, h5, h6, h7, eq_true h8, ofMinerE, ofMinerRC, bI, pM, pU, n10, n20, n30, n0, if_true, if_false, ite_true, ite_false, not_true_eq_false, not_false_eq_true, and_true, true_and, and_false, false_and, or_true, true_or, or_false, false_or, reduceIte, and_self, or_self, ne_eq, eq_self_iff_true]; first | done | rfl) | (simp [bI, h2, h4, h5, h6, h7, eq_true h8, ofMinerE, ofMinerRC]; done) | (simp only [ofMinerE, ofMinerRC, bI, ← Int32.not_le] at *; simp [h2, h4, h5, h6, h7, eq_true h8]; done) | (simp_all [bI, h2, h4, h5, h6, h7, eq_true h8, ofMinerE, ofMinerRC]; done) | (simp_all [bI, h2, h4, h5, h6, h7, eq_true h8, ofMinerE, ofMinerRC]; rfl) | (exfalso; omega)), by rfl, by first | assumption | first | rfl | (simp only [h2, h4, h5, h6, h7, eq_true h8, ofMinerE, ofMinerRC, bI, pM, pU, n10, n20, n30, n0, if_true, if_false, ite_true, ite_false, not_true_eq_false, not_false_eq_true, and_true, true_and, and_false, false_and, or_true, true_or, or_false, false_or, reduceIte, and_self, or_self, ne_eq, eq_self_iff_true]; first | done | rfl) | (simp [bI, h2, h4, h5, h6, h7, eq_true h8, ofMinerE, ofMinerRC]; done) | (simp only [ofMinerE, ofMinerRC, bI, ← Int32.not_le] at *; simp [h2, h4, h5, h6, h7, eq_true h8]; done) | (simp_all [bI, h2, h4, h5, h6, h7, eq_true h8, ofMinerE, ofMinerRC]; done) | (simp_all [bI, h2, h4, h5, h6, h7, eq_true h8, ofMinerE, ofMinerRC]; rfl) | (exfalso; omega)⟩
  by_cases h9 : w_ = 4
  · skip
    refine v_tabIn C (off := 62) (q := 76) dX7_ofMiner_14 (by rw [h9]; decide) (by rw [h9]; decide) (by rw [h9]; rfl) rfl ?_
    refine v_aload_n C dX7_ofMiner_76 rfl 0 rfl ?_
    refine v_get C (v := .int (s 17 (tn x))) g_X7_273 (m9 (s := s) (t := t) (g := G.2.2.1) hL (tn x) (hv_nm _ (by omega))) (rg (by decide) rfl) dX7_ofMiner_77 rfl ?_
    exact v_iret C (by decide) (by decide) dX7_ofMiner_80 ⟨congrArg (fun z => some (Value.int z)) (by first | rfl | (simp only [h2, h4, h5, h6, h7, h8, eq_true h9, ofMinerE, ofMinerRC, bI, pM, pU, n10, n20, n30, n0, if_true, if_false, ite_true, ite_false, not_true_eq_false, not_false_eq_true, and_true, true_and, and_false, false_and, or_true, true_or, or_false, false_or, reduceIte, and_self, or_self, ne_eq, eq_self_iff_true]; first | done | rfl) | (simp [bI, h2, h4, h5, h6, h7, h8, eq_true h9, ofMinerE, ofMinerRC]; done) | (simp only [ofMinerE, ofMinerRC, bI, ← Int32.not_le] at *; simp [h2, h4, h5, h6, h7, h8, eq_true h9]; done) | (simp_all [bI, h2, h4, h5, h6, h7, h8, eq_true h9, ofMinerE, ofMinerRC]; done) | (simp_all [bI, h2, h4, h5, h6, h7, h8, eq_true h9, ofMinerE, ofMinerRC]; rfl) | (exfalso; omega)), by rfl, by first | assumption | first | rfl | (simp only [h2, h4, h5, h6, h7, h8, eq_true h9, ofMinerE, ofMinerRC, bI, pM, pU, n10, n20, n30, n0, if_true, if_false, ite_true, ite_false, not_true_eq_false, not_false_eq_true, and_true, true_and, and_false, false_and, or_true, true_or, or_false, false_or, reduceIte, and_self, or_self, ne_eq, eq_self_iff_true]; first | done | rfl) | (simp [bI, h2, h4, h5, h6, h7, h8, eq_true h9, ofMinerE, ofMinerRC]; done) | (simp only [ofMinerE, ofMinerRC, bI, ← Int32.not_le] at *; simp [h2, h4, h5, h6, h7, h8, eq_true h9]; done) | (simp_all [bI, h2, h4, h5, h6, h7, h8, eq_true h9, ofMinerE, ofMinerRC]; done) | (simp_all [bI, h2, h4, h5, h6, h7, h8, eq_true h9, ofMinerE, ofMinerRC]; rfl) | (exfalso; omega)⟩
  by_cases h10 : w_ = 5
  · skip
    refine v_tabIn C (off := 67) (q := 81) dX7_ofMiner_14 (by rw [h10]; decide) (by rw [h10]; decide) (by rw [h10]; rfl) rfl ?_
    refine v_aload_n C dX7_ofMiner_81 rfl 1 rfl ?_
    refine v_iload_n C dX7_ofMiner_82 rfl 2 rfl ?_
    refine w_invVr C [.int (x)] 2 12 L_X7_145 (c_X7_inchesOfMiner (s := s) (t := t) (nm := nm) (nr := nr) hst hG hL x hlm hm12 hv_nm hlr hr20 hv_nr hro) (m2 (s := s) (t := t) (g := G.2.2.1) hL) rfl rfl rfl rfl dX7_ofMiner_83 rfl kx_no (fun h11 => ?_)
    exact v_iret C (by decide) (by decide) dX7_ofMiner_86 ⟨congrArg (fun z => some (Value.int z)) (by first | rfl | (simp only [h2, h4, h5, h6, h7, h8, h9, eq_true h10, ofMinerE, ofMinerRC, bI, pM, pU, n10, n20, n30, n0, if_true, if_false, ite_true, ite_false, not_true_eq_false, not_false_eq_true, and_true, true_and, and_false, false_and, or_true, true_or, or_false, false_or, reduceIte, and_self, or_self, ne_eq, eq_self_iff_true]; first | done | rfl) | (simp [bI, h2, h4, h5, h6, h7, h8, h9, eq_true h10, ofMinerE, ofMinerRC]; done) | (simp only [ofMinerE, ofMinerRC, bI, ← Int32.not_le] at *; simp [h2, h4, h5, h6, h7, h8, h9, eq_true h10]; done) | (simp_all [bI, h2, h4, h5, h6, h7, h8, h9, eq_true h10, ofMinerE, ofMinerRC]; done) | (simp_all [bI, h2, h4, h5, h6, h7, h8, h9, eq_true h10, ofMinerE, ofMinerRC]; rfl) | (exfalso; omega)), by rfl, by first | assumption | first | rfl | (simp only [h2, h4, h5, h6, h7, h8, h9, eq_true h10, ofMinerE, ofMinerRC, bI, pM, pU, n10, n20, n30, n0, if_true, if_false, ite_true, ite_false, not_true_eq_false, not_false_eq_true, and_true, true_and, and_false, false_and, or_true, true_or, or_false, false_or, reduceIte, and_self, or_self, ne_eq, eq_self_iff_true]; first | done | rfl) | (simp [bI, h2, h4, h5, h6, h7, h8, h9, eq_true h10, ofMinerE, ofMinerRC]; done) | (simp only [ofMinerE, ofMinerRC, bI, ← Int32.not_le] at *; simp [h2, h4, h5, h6, h7, h8, h9, eq_true h10]; done) | (simp_all [bI, h2, h4, h5, h6, h7, h8, h9, eq_true h10, ofMinerE, ofMinerRC]; done) | (simp_all [bI, h2, h4, h5, h6, h7, h8, h9, eq_true h10, ofMinerE, ofMinerRC]; rfl) | (exfalso; omega)⟩
  by_cases h12 : w_ = 6
  · skip
    refine v_tabIn C (off := 73) (q := 87) dX7_ofMiner_14 (by rw [h12]; decide) (by rw [h12]; decide) (by rw [h12]; rfl) rfl ?_
    refine v_aload_n C dX7_ofMiner_87 rfl 0 rfl ?_
    refine v_get C (v := .int (s 18 (tn x))) g_X7_188 (m9 (s := s) (t := t) (g := G.2.2.1) hL (tn x) (hv_nm _ (by omega))) (rg (by decide) rfl) dX7_ofMiner_88 rfl ?_
    exact v_iret C (by decide) (by decide) dX7_ofMiner_91 ⟨congrArg (fun z => some (Value.int z)) (by first | rfl | (simp only [h2, h4, h5, h6, h7, h8, h9, h10, eq_true h12, ofMinerE, ofMinerRC, bI, pM, pU, n10, n20, n30, n0, if_true, if_false, ite_true, ite_false, not_true_eq_false, not_false_eq_true, and_true, true_and, and_false, false_and, or_true, true_or, or_false, false_or, reduceIte, and_self, or_self, ne_eq, eq_self_iff_true]; first | done | rfl) | (simp [bI, h2, h4, h5, h6, h7, h8, h9, h10, eq_true h12, ofMinerE, ofMinerRC]; done) | (simp only [ofMinerE, ofMinerRC, bI, ← Int32.not_le] at *; simp [h2, h4, h5, h6, h7, h8, h9, h10, eq_true h12]; done) | (simp_all [bI, h2, h4, h5, h6, h7, h8, h9, h10, eq_true h12, ofMinerE, ofMinerRC]; done) | (simp_all [bI, h2, h4, h5, h6, h7, h8, h9, h10, eq_true h12, ofMinerE, ofMinerRC]; rfl) | (exfalso; omega)), by rfl, by first | assumption | first | rfl | (simp only [h2, h4, h5, h6, h7, h8, h9, h10, eq_true h12, ofMinerE, ofMinerRC, bI, pM, pU, n10, n20, n30, n0, if_true, if_false, ite_true, ite_false, not_true_eq_false, not_false_eq_true, and_true, true_and, and_false, false_and, or_true, true_or, or_false, false_or, reduceIte, and_self, or_self, ne_eq, eq_self_iff_true]; first | done | rfl) | (simp [bI, h2, h4, h5, h6, h7, h8, h9, h10, eq_true h12, ofMinerE, ofMinerRC]; done) | (simp only [ofMinerE, ofMinerRC, bI, ← Int32.not_le] at *; simp [h2, h4, h5, h6, h7, h8, h9, h10, eq_true h12]; done) | (simp_all [bI, h2, h4, h5, h6, h7, h8, h9, h10, eq_true h12, ofMinerE, ofMinerRC]; done) | (simp_all [bI, h2, h4, h5, h6, h7, h8, h9, h10, eq_true h12, ofMinerE, ofMinerRC]; rfl) | (exfalso; omega)⟩
  have fh5 : (w_).toInt ≠ 0 := fun h => h5 (Int32.toInt_inj.mp (h.trans (by decide)))
  have fh6 : (w_).toInt ≠ 1 := fun h => h6 (Int32.toInt_inj.mp (h.trans (by decide)))
  have fh7 : (w_).toInt ≠ 2 := fun h => h7 (Int32.toInt_inj.mp (h.trans (by decide)))
  have fh8 : (w_).toInt ≠ 3 := fun h => h8 (Int32.toInt_inj.mp (h.trans (by decide)))
  have fh9 : (w_).toInt ≠ 4 := fun h => h9 (Int32.toInt_inj.mp (h.trans (by decide)))
  have fh10 : (w_).toInt ≠ 5 := fun h => h10 (Int32.toInt_inj.mp (h.trans (by decide)))
  have fh12 : (w_).toInt ≠ 6 := fun h => h12 (Int32.toInt_inj.mp (h.trans (by decide)))
  refine v_tabOut C (q := 92) dX7_ofMiner_14 (by omega) rfl ?_
  refine v_aload_n C dX7_ofMiner_92 rfl 0 rfl ?_
  refine w_invVr C [] 2 12 L_X7_213 (c_X3_percentBacked (s := s) (t := t)  hst hG hL (tn x) (hv_nm _ (by omega))) (m9 (s := s) (t := t) (g := G.2.2.1) hL (tn x) (hv_nm _ (by omega))) rfl rfl rfl rfl dX7_ofMiner_93 rfl kx_no (fun h13 => ?_)
  exact v_iret C (by decide) (by decide) dX7_ofMiner_96 ⟨congrArg (fun z => some (Value.int z)) (by first | rfl | (simp only [h2, h4, h5, h6, h7, h8, h9, h10, h12, ofMinerE, ofMinerRC, bI, pM, pU, n10, n20, n30, n0, if_true, if_false, ite_true, ite_false, not_true_eq_false, not_false_eq_true, and_true, true_and, and_false, false_and, or_true, true_or, or_false, false_or, reduceIte, and_self, or_self, ne_eq, eq_self_iff_true]; first | done | rfl) | (simp [bI, h2, h4, h5, h6, h7, h8, h9, h10, h12, ofMinerE, ofMinerRC]; done) | (simp only [ofMinerE, ofMinerRC, bI, ← Int32.not_le] at *; simp [h2, h4, h5, h6, h7, h8, h9, h10, h12]; done) | (simp_all [bI, h2, h4, h5, h6, h7, h8, h9, h10, h12, ofMinerE, ofMinerRC]; done) | (simp_all [bI, h2, h4, h5, h6, h7, h8, h9, h10, h12, ofMinerE, ofMinerRC]; rfl) | (exfalso; omega)), by rfl, by first | assumption | first | rfl | (simp only [h2, h4, h5, h6, h7, h8, h9, h10, h12, ofMinerE, ofMinerRC, bI, pM, pU, n10, n20, n30, n0, if_true, if_false, ite_true, ite_false, not_true_eq_false, not_false_eq_true, and_true, true_and, and_false, false_and, or_true, true_or, or_false, false_or, reduceIte, and_self, or_self, ne_eq, eq_self_iff_true]; first | done | rfl) | (simp [bI, h2, h4, h5, h6, h7, h8, h9, h10, h12, ofMinerE, ofMinerRC]; done) | (simp only [ofMinerE, ofMinerRC, bI, ← Int32.not_le] at *; simp [h2, h4, h5, h6, h7, h8, h9, h10, h12]; done) | (simp_all [bI, h2, h4, h5, h6, h7, h8, h9, h10, h12, ofMinerE, ofMinerRC]; done) | (simp_all [bI, h2, h4, h5, h6, h7, h8, h9, h10, h12, ofMinerE, ofMinerRC]; rfl) | (exfalso; omega)⟩

abbrev r_X7_buy : Room := { frames := 8, cells := 3, slots := 18, locals := 124 }
set_option maxRecDepth 4000 in
theorem c_X7_buy {l : Launch} {G : GG} {a : AD} {s t s0 : SS} {L : List (Nat × Nat)} {nm : Nat} (hst : l.stackTraces = false) (hG : GOK G) (hL : Live L s0) (x : Int32) (m : Int32) (hlm : LsOK a s s0 0 nm) (hm12 : nm ≤ 12) (hv_nm : ∀ i, i < nm → i < tn (s0 12 0)) : Mth l yX7_buy cX7_buy 5 (Option.some Jvm.ClassFile.FieldType.int) r_X7_buy G (wl a (E G.2.2.1 a s t) L) [.ref (a 2 0), .int x, .int m] (RI (.int (buyR s x m)) (wl a (E G.2.2.1 a (buyU s x m) t) L) (buyE s x m = 0)) (XW (fun E => pE L3 (buyE s x m) E) (wl a (E G.2.2.1 a s t) L)) := by
  refine mth_of rfl (Nat.le_of_ble_eq_true rfl) hst hG (fun X hX C0 => ?_)
  subst hX
  have C : Cx X G cX7_buy 5 RX7 (Option.some Jvm.ClassFile.FieldType.int) r_X7_buy "buy" [] := C0
  clear C0
  show V X G 5 _ 0 0 _ 0 [(0, .ref (a 2 0)), (1, .int (x)), (2, .int (m))] []
  refine v_aload_n C dX7_buy_0 rfl 0 rfl ?_
  refine v_iload_n C dX7_buy_1 rfl 1 rfl ?_
  refine w_invVr C [.int (x)] 1 6 L_X7_108 (c_X7_minerAt (s := s) (t := t) (nm := nm) hst hG hL x hlm hm12 hv_nm) (m2 (s := s) (t := t) (g := G.2.2.1) hL) rfl rfl rfl rfl dX7_buy_2 rfl (kx_out C (by decide) (fun E w1 hE => by obtain ⟨⟨rfl, h1⟩, rfl⟩ := hE; exact ⟨⟨1, List.Mem.head _, by first | rfl | (simp only [h1, buyE, buyR, buyU, bI, pM, pU, n10, n20, n30, n0, if_true, if_false, ite_true, ite_false, not_true_eq_false, not_false_eq_true, and_true, true_and, and_false, false_and, or_true, true_or, or_false, false_or, reduceIte, and_self, or_self, ne_eq, eq_self_iff_true]; first | done | rfl) | (simp [bI, h1, buyE, buyR, buyU]; done) | (simp only [buyE, buyR, buyU, bI, ← Int32.not_le] at *; simp [h1]; done) | (simp_all [bI, h1, buyE, buyR, buyU]; done) | (simp_all [bI, h1, buyE, buyR, buyU]; rfl) | (exfalso; omega)⟩, rfl⟩)) (fun h2 => ?_)
  have lh2 : tn x < nm := in_lt (vp_cnt h2 hlm.p0 (Nat.le_refl _) (by omega))
  refine v_astore_n C (lv1 := [(3, .ref (a 9 (tn x))), (0, .ref (a 2 0)), (1, .int (x)), (2, .int (m))]) dX7_buy_5 rfl (by decide) rfl ?_
  refine v_iload_n C dX7_buy_6 rfl 3 rfl ?_
  refine v_iconst C (v := 1) dX7_buy_7 rfl rfl ?_
  refine v_sipush C (v := 1000) dX7_buy_8 rfl rfl ?_
  refine w_invSv C [.int (m), .int (1), .int (1000)] 2 12 L_X7_67 (c_X7_checkRange (s := s) (t := t)  hst hG hL m 1 1000) rfl rfl rfl dX7_buy_11 rfl (kx_out C (by decide) (fun E w1 hE => by obtain ⟨⟨rfl, h3⟩, rfl⟩ := hE; exact ⟨⟨2, List.Mem.tail _ (List.Mem.head _), by first | rfl | (simp only [h2, h3, buyE, buyR, buyU, bI, pM, pU, n10, n20, n30, n0, if_true, if_false, ite_true, ite_false, not_true_eq_false, not_false_eq_true, and_true, true_and, and_false, false_and, or_true, true_or, or_false, false_or, reduceIte, and_self, or_self, ne_eq, eq_self_iff_true]; first | done | rfl) | (simp [bI, h2, h3, buyE, buyR, buyU]; done) | (simp only [buyE, buyR, buyU, bI, ← Int32.not_le] at *; simp [h2, h3]; done) | (simp_all [bI, h2, h3, buyE, buyR, buyU]; done) | (simp_all [bI, h2, h3, buyE, buyR, buyU]; rfl) | (exfalso; omega)⟩, rfl⟩)) (fun h4 => ?_)
  refine v_iload_n C dX7_buy_14 rfl 3 rfl ?_
  refine v_aload_n C dX7_buy_15 rfl 1 rfl ?_
  refine v_get C (v := .ref (a 4 0)) g_X7_19 (m2 (s := s) (t := t) (g := G.2.2.1) hL) (rg (by decide) rfl) dX7_buy_16 rfl ?_
  refine w_invVr C [] 2 12 L_X7_203 (c_X6_price (s := s) (t := t)  hst hG hL ) (m4 (s := s) (t := t) (g := G.2.2.1) hL) rfl rfl rfl rfl dX7_buy_19 rfl kx_no (fun h5 => ?_)
  refine v_imul C dX7_buy_22 rfl ?_
  refine v_istore C (lv1 := [(4, .int (m * (priceF (s 5 0)))), (3, .ref (a 9 (tn x))), (0, .ref (a 2 0)), (1, .int (x)), (2, .int (m))]) dX7_buy_23 rfl (by decide) rfl ?_
  refine v_aload_n C dX7_buy_25 rfl 1 rfl ?_
  refine w_invVr C [] 2 12 L_X7_115 (c_X3_isDead (s := s) (t := t)  hst hG hL (tn x) (hv_nm _ (by omega))) (m9 (s := s) (t := t) (g := G.2.2.1) hL (tn x) (hv_nm _ (by omega))) rfl rfl rfl rfl dX7_buy_26 rfl kx_no (fun h6 => ?_)
  refine v_ifB_ne C (t := 56) dX7_buy_29 rfl rfl (fun h7 => ?_) (fun h7 => ?_)
  · skip
    refine v_iconst C (v := 0) dX7_buy_56 rfl rfl ?_
    refine w_invSv C [.int (0)] 3 18 L_X7_75 (c_X7_checkState (s := s) (t := t)  hst hG hL 0) rfl rfl rfl dX7_buy_57 rfl (kx_out C (by decide) (fun E w1 hE => by obtain ⟨⟨rfl, h8⟩, rfl⟩ := hE; exact ⟨⟨3, List.Mem.tail _ (List.Mem.tail _ (List.Mem.head _)), by first | rfl | (simp only [h2, h4, eq_true h7, h8, buyE, buyR, buyU, bI, pM, pU, n10, n20, n30, n0, if_true, if_false, ite_true, ite_false, not_true_eq_false, not_false_eq_true, and_true, true_and, and_false, false_and, or_true, true_or, or_false, false_or, reduceIte, and_self, or_self, ne_eq, eq_self_iff_true]; first | done | rfl) | (simp [bI, h2, h4, eq_true h7, h8, buyE, buyR, buyU]; done) | (simp only [buyE, buyR, buyU, bI, ← Int32.not_le] at *; simp [h2, h4, eq_true h7, h8]; done) | (simp_all [bI, h2, h4, eq_true h7, h8, buyE, buyR, buyU]; done) | (simp_all [bI, h2, h4, eq_true h7, h8, buyE, buyR, buyU]; rfl) | (exfalso; omega)⟩, rfl⟩)) (fun h9 => ?_)
    exact absurd rfl h9
  · skip
    refine v_aload_n C dX7_buy_32 rfl 2 rfl ?_
    refine v_get C (v := .ref (a 4 0)) g_X7_19 (m2 (s := s) (t := t) (g := G.2.2.1) hL) (rg (by decide) rfl) dX7_buy_33 rfl ?_
    refine v_get C (v := .int (s 5 0)) g_X7_206 (m4 (s := s) (t := t) (g := G.2.2.1) hL) rfl dX7_buy_36 rfl ?_
    refine v_iload_n C dX7_buy_39 rfl 4 rfl ?_
    refine v_icmp_lt C (t := 56) dX7_buy_40 rfl rfl (fun h10 => ?_) (fun h10 => ?_)
    · skip
      refine v_iconst C (v := 0) dX7_buy_56 rfl rfl ?_
      refine w_invSv C [.int (0)] 3 18 L_X7_75 (c_X7_checkState (s := s) (t := t)  hst hG hL 0) rfl rfl rfl dX7_buy_57 rfl (kx_out C (by decide) (fun E w1 hE => by obtain ⟨⟨rfl, h11⟩, rfl⟩ := hE; exact ⟨⟨3, List.Mem.tail _ (List.Mem.tail _ (List.Mem.head _)), by first | rfl | (simp only [h2, h4, h7, h10, Int32.not_le.mpr h10, h11, buyE, buyR, buyU, bI, pM, pU, n10, n20, n30, n0, if_true, if_false, ite_true, ite_false, not_true_eq_false, not_false_eq_true, and_true, true_and, and_false, false_and, or_true, true_or, or_false, false_or, reduceIte, and_self, or_self, ne_eq, eq_self_iff_true]; first | done | rfl) | (simp [bI, h2, h4, h7, h10, Int32.not_le.mpr h10, h11, buyE, buyR, buyU]; done) | (simp only [buyE, buyR, buyU, bI, ← Int32.not_le] at *; simp [h2, h4, h7, h10, Int32.not_le.mpr h10, h11]; done) | (simp_all [bI, h2, h4, h7, h10, Int32.not_le.mpr h10, h11, buyE, buyR, buyU]; done) | (simp_all [bI, h2, h4, h7, h10, Int32.not_le.mpr h10, h11, buyE, buyR, buyU]; rfl) | (exfalso; omega)⟩, rfl⟩)) (fun h12 => ?_)
      exact absurd rfl h12
    · skip
      refine v_aload_n C dX7_buy_43 rfl 1 rfl ?_
      refine v_get C (v := .int (s 16 (tn x))) g_X7_194 (m9 (s := s) (t := t) (g := G.2.2.1) hL (tn x) (hv_nm _ (by omega))) (rg (by decide) rfl) dX7_buy_44 rfl ?_
      refine v_iload C dX7_buy_47 rfl 0 rfl ?_
      refine v_icmp_lt C (t := 56) dX7_buy_49 rfl rfl (fun h13 => ?_) (fun h13 => ?_)
      · skip
        refine v_iconst C (v := 0) dX7_buy_56 rfl rfl ?_
        refine w_invSv C [.int (0)] 3 18 L_X7_75 (c_X7_checkState (s := s) (t := t)  hst hG hL 0) rfl rfl rfl dX7_buy_57 rfl (kx_out C (by decide) (fun E w1 hE => by obtain ⟨⟨rfl, h14⟩, rfl⟩ := hE; exact ⟨⟨3, List.Mem.tail _ (List.Mem.tail _ (List.Mem.head _)), by first | rfl | (simp only [h2, h4, h7, h10, Int32.not_lt.mp h10, h13, Int32.not_le.mpr h13, h14, buyE, buyR, buyU, bI, pM, pU, n10, n20, n30, n0, if_true, if_false, ite_true, ite_false, not_true_eq_false, not_false_eq_true, and_true, true_and, and_false, false_and, or_true, true_or, or_false, false_or, reduceIte, and_self, or_self, ne_eq, eq_self_iff_true]; first | done | rfl) | (simp [bI, h2, h4, h7, h10, Int32.not_lt.mp h10, h13, Int32.not_le.mpr h13, h14, buyE, buyR, buyU]; done) | (simp only [buyE, buyR, buyU, bI, ← Int32.not_le] at *; simp [h2, h4, h7, h10, Int32.not_lt.mp h10, h13, Int32.not_le.mpr h13, h14]; done) | (simp_all [bI, h2, h4, h7, h10, Int32.not_lt.mp h10, h13, Int32.not_le.mpr h13, h14, buyE, buyR, buyU]; done) | (simp_all [bI, h2, h4, h7, h10, Int32.not_lt.mp h10, h13, Int32.not_le.mpr h13, h14, buyE, buyR, buyU]; rfl) | (exfalso; omega)⟩, rfl⟩)) (fun h15 => ?_)
        exact absurd rfl h15
      · skip
        refine v_iconst C (v := 1) dX7_buy_52 rfl rfl ?_
        refine v_goto C (q := 57) dX7_buy_53 rfl ?_
        refine w_invSv C [.int (1)] 3 18 L_X7_75 (c_X7_checkState (s := s) (t := t)  hst hG hL 1) rfl rfl rfl dX7_buy_57 rfl (fun E w1 hE => absurd hE.1.2 (by decide)) (fun h16 => ?_)
        refine v_aload_n C dX7_buy_60 rfl 2 rfl ?_
        refine v_get C (v := .ref (a 4 0)) g_X7_19 (m2 (s := s) (t := t) (g := G.2.2.1) hL) (rg (by decide) rfl) dX7_buy_61 rfl ?_
        refine v_dup C dX7_buy_64 rfl rfl ?_
        refine v_get C (v := .int (s 5 0)) g_X7_206 (m4 (s := s) (t := t) (g := G.2.2.1) hL) rfl dX7_buy_65 rfl ?_
        refine v_iload_n C dX7_buy_68 rfl 4 rfl ?_
        refine v_isub C dX7_buy_69 rfl ?_
        refine v_put C f_X7_206 (put_sto (s := s) (t := t) (g := G.2.2.1) hL ((s 5 0) - m)) rfl rfl (Nat.le_of_ble_eq_true rfl) dX7_buy_70 rfl ?_
        refine v_aload_n C dX7_buy_73 rfl 1 rfl ?_
        refine v_dup C dX7_buy_74 rfl rfl ?_
        refine v_get C (v := .int (s 15 (tn x))) g_X7_209 (m9 (s := ((su s 5 0 ((s 5 0) - m)))) (t := t) (g := G.2.2.1) hL (tn x) (hv_nm _ (by omega))) (rg (by decide) rfl) dX7_buy_75 rfl ?_
        refine v_iload_n C dX7_buy_78 rfl 4 rfl ?_
        refine v_iadd C dX7_buy_79 rfl ?_
        refine v_put C f_X7_209 (put_n (s := ((su s 5 0 ((s 5 0) - m)))) (t := t) (g := G.2.2.1) hL 4 (by decide) (by decide) (tn x) (hv_nm _ (by omega)) ((s 15 (tn x)) + m)) rfl rfl (rg_len (by decide)) dX7_buy_80 rfl ?_
        refine xx_w (w' := wl a (E G.2.2.1 a (su (su s 5 0 ((s 5 0) - m)) 15 (tn x) ((s 15 (tn x)) + m)) t) L) rfl ?_
        refine v_aload_n C dX7_buy_83 rfl 1 rfl ?_
        refine v_dup C dX7_buy_84 rfl rfl ?_
        refine v_get C (v := .int (s 16 (tn x))) g_X7_194 (m9 (s := ((su (su s 5 0 ((s 5 0) - m)) 15 (tn x) ((s 15 (tn x)) + m)))) (t := t) (g := G.2.2.1) hL (tn x) (hv_nm _ (by omega))) (rg (by decide) rfl) dX7_buy_85 rfl ?_
        refine v_iload C dX7_buy_88 rfl 0 rfl ?_
        refine v_isub C dX7_buy_90 rfl ?_
        refine v_put C f_X7_194 (put_n (s := ((su (su s 5 0 ((s 5 0) - m)) 15 (tn x) ((s 15 (tn x)) + m)))) (t := t) (g := G.2.2.1) hL 5 (by decide) (by decide) (tn x) (hv_nm _ (by omega)) ((s 16 (tn x)) - (m * (priceF (s 5 0))))) rfl rfl (rg_len (by decide)) dX7_buy_91 rfl ?_
        refine xx_w (w' := wl a (E G.2.2.1 a (su (su (su s 5 0 ((s 5 0) - m)) 15 (tn x) ((s 15 (tn x)) + m)) 16 (tn x) ((s 16 (tn x)) - (m * (priceF (s 5 0))))) t) L) rfl ?_
        refine v_iload C dX7_buy_94 rfl 0 rfl ?_
        exact v_iret C (by decide) (by decide) dX7_buy_96 ⟨congrArg (fun z => some (Value.int z)) (by first | rfl | (simp only [h2, h4, h7, h10, Int32.not_lt.mp h10, h13, Int32.not_lt.mp h13, buyE, buyR, buyU, bI, pM, pU, n10, n20, n30, n0, if_true, if_false, ite_true, ite_false, not_true_eq_false, not_false_eq_true, and_true, true_and, and_false, false_and, or_true, true_or, or_false, false_or, reduceIte, and_self, or_self, ne_eq, eq_self_iff_true]; first | done | rfl) | (simp [bI, h2, h4, h7, h10, Int32.not_lt.mp h10, h13, Int32.not_lt.mp h13, buyE, buyR, buyU]; done) | (simp only [buyE, buyR, buyU, bI, ← Int32.not_le] at *; simp [h2, h4, h7, h10, Int32.not_lt.mp h10, h13, Int32.not_lt.mp h13]; done) | (simp_all [bI, h2, h4, h7, h10, Int32.not_lt.mp h10, h13, Int32.not_lt.mp h13, buyE, buyR, buyU]; done) | (simp_all [bI, h2, h4, h7, h10, Int32.not_lt.mp h10, h13, Int32.not_lt.mp h13, buyE, buyR, buyU]; rfl) | (exfalso; omega)), by first | rfl | (simp only [h2, h4, h7, h10, Int32.not_lt.mp h10, h13, Int32.not_lt.mp h13, buyE, buyR, buyU, bI, pM, pU, n10, n20, n30, n0, if_true, if_false, ite_true, ite_false, not_true_eq_false, not_false_eq_true, and_true, true_and, and_false, false_and, or_true, true_or, or_false, false_or, reduceIte, and_self, or_self, ne_eq, eq_self_iff_true]; first | done | rfl) | (simp [bI, h2, h4, h7, h10, Int32.not_lt.mp h10, h13, Int32.not_lt.mp h13, buyE, buyR, buyU]; done) | (simp only [buyE, buyR, buyU, bI, ← Int32.not_le] at *; simp [h2, h4, h7, h10, Int32.not_lt.mp h10, h13, Int32.not_lt.mp h13]; done) | (simp_all [bI, h2, h4, h7, h10, Int32.not_lt.mp h10, h13, Int32.not_lt.mp h13, buyE, buyR, buyU]; done) | (simp_all [bI, h2, h4, h7, h10, Int32.not_lt.mp h10, h13, Int32.not_lt.mp h13, buyE, buyR, buyU]; rfl) | (exfalso; omega), by first | assumption | first | rfl | (simp only [h2, h4, h7, h10, Int32.not_lt.mp h10, h13, Int32.not_lt.mp h13, buyE, buyR, buyU, bI, pM, pU, n10, n20, n30, n0, if_true, if_false, ite_true, ite_false, not_true_eq_false, not_false_eq_true, and_true, true_and, and_false, false_and, or_true, true_or, or_false, false_or, reduceIte, and_self, or_self, ne_eq, eq_self_iff_true]; first | done | rfl) | (simp [bI, h2, h4, h7, h10, Int32.not_lt.mp h10, h13, Int32.not_lt.mp h13, buyE, buyR, buyU]; done) | (simp only [buyE, buyR, buyU, bI, ← Int32.not_le] at *; simp [h2, h4, h7, h10, Int32.not_lt.mp h10, h13, Int32.not_lt.mp h13]; done) | (simp_all [bI, h2, h4, h7, h10, Int32.not_lt.mp h10, h13, Int32.not_lt.mp h13, buyE, buyR, buyU]; done) | (simp_all [bI, h2, h4, h7, h10, Int32.not_lt.mp h10, h13, Int32.not_lt.mp h13, buyE, buyR, buyU]; rfl) | (exfalso; omega)⟩

abbrev r_X7_freight : Room := { frames := 8, cells := 3, slots := 18, locals := 124 }
set_option maxRecDepth 4000 in
theorem c_X7_freight {l : Launch} {G : GG} {a : AD} {s t s0 : SS} {L : List (Nat × Nat)}  (hst : l.stackTraces = false) (hG : GOK G) (hL : Live L s0) (m : Int32) (d : Int32)  : Mth l yX7_freight cX7_freight 3 (Option.none : Option Jvm.ClassFile.FieldType) r_X7_freight G (wl a (E G.2.2.1 a s t) L) [.ref (a 2 0), .int m, .int d] (RV (wl a (E G.2.2.1 a (sndF s m d) t) L) (freightEC s m d = 0)) (XW (fun E => pE LAS (freightEC s m d) E) (wl a (E G.2.2.1 a s t) L)) := by
  refine mth_of rfl (Nat.le_of_ble_eq_true rfl) hst hG (fun X hX C0 => ?_)
  subst hX
  have C : Cx X G cX7_freight 3 RX7 (Option.none : Option Jvm.ClassFile.FieldType) r_X7_freight "freight" [] := C0
  clear C0
  show V X G 3 _ 0 0 _ 0 [(0, .ref (a 2 0)), (1, .int (m)), (2, .int (d))] []
  have hfr := frN_le (z := s) 20
  refine v_iload_n C dX7_freight_0 rfl 1 rfl ?_
  refine v_iconst C (v := 1) dX7_freight_1 rfl rfl ?_
  refine v_sipush C (v := 1000) dX7_freight_2 rfl rfl ?_
  refine w_invSv C [.int (m), .int (1), .int (1000)] 1 6 L_X7_67 (c_X7_checkRange (s := s) (t := t)  hst hG hL m 1 1000) rfl rfl rfl dX7_freight_5 rfl (kx_out C (by decide) (fun E w1 hE => by obtain ⟨⟨rfl, h1⟩, rfl⟩ := hE; exact ⟨⟨1, List.Mem.head _, by first | rfl | (simp only [h1, freightEC, bI, pM, pU, n10, n20, n30, n0, if_true, if_false, ite_true, ite_false, not_true_eq_false, not_false_eq_true, and_true, true_and, and_false, false_and, or_true, true_or, or_false, false_or, reduceIte, and_self, or_self, ne_eq, eq_self_iff_true]; first | done | rfl) | (simp [bI, h1, freightEC]; done) | (simp only [freightEC, bI, ← Int32.not_le] at *; simp [h1]; done) | (simp_all [bI, h1, freightEC]; done) | (simp_all [bI, h1, freightEC]; rfl) | (exfalso; omega)⟩, rfl⟩)) (fun h2 => ?_)
  refine v_iload_n C dX7_freight_8 rfl 2 rfl ?_
  refine v_aload_n C dX7_freight_9 rfl 0 rfl ?_
  refine v_get C (v := .int (s 0 0)) g_X7_43 (m2 (s := s) (t := t) (g := G.2.2.1) hL) (rg (by decide) rfl) dX7_freight_10 rfl ?_
  refine v_iconst C (v := 1) dX7_freight_13 rfl rfl ?_
  refine v_iadd C dX7_freight_14 rfl ?_
  refine v_sipush C (v := 5000) dX7_freight_15 rfl rfl ?_
  refine w_invSv C [.int (d), .int ((s 0 0) + 1), .int (5000)] 2 12 L_X7_67 (c_X7_checkRange (s := s) (t := t)  hst hG hL d ((s 0 0) + 1) 5000) rfl rfl rfl dX7_freight_18 rfl (kx_out C (by decide) (fun E w1 hE => by obtain ⟨⟨rfl, h3⟩, rfl⟩ := hE; exact ⟨⟨1, List.Mem.head _, by first | rfl | (simp only [h2, h3, freightEC, bI, pM, pU, n10, n20, n30, n0, if_true, if_false, ite_true, ite_false, not_true_eq_false, not_false_eq_true, and_true, true_and, and_false, false_and, or_true, true_or, or_false, false_or, reduceIte, and_self, or_self, ne_eq, eq_self_iff_true]; first | done | rfl) | (simp [bI, h2, h3, freightEC]; done) | (simp only [freightEC, bI, ← Int32.not_le] at *; simp [h2, h3]; done) | (simp_all [bI, h2, h3, freightEC]; done) | (simp_all [bI, h2, h3, freightEC]; rfl) | (exfalso; omega)⟩, rfl⟩)) (fun h4 => ?_)
  refine v_aload_n C dX7_freight_21 rfl 0 rfl ?_
  refine v_get C (v := .ref (a 4 0)) g_X7_19 (m2 (s := s) (t := t) (g := G.2.2.1) hL) (rg (by decide) rfl) dX7_freight_22 rfl ?_
  refine w_invVr C [] 2 12 L_X7_197 (c_X6_freightsUnderWay (s := s) (t := t)  hst hG hL ) (m4 (s := s) (t := t) (g := G.2.2.1) hL) rfl rfl rfl rfl dX7_freight_25 rfl kx_no (fun h5 => ?_)
  refine v_bipush C (v := 20) dX7_freight_28 rfl rfl ?_
  refine v_icN_ge C (t := 37) (frN s 20) 20 rfl rfl (by omega) (by omega) dX7_freight_30 rfl rfl (fun h6 => ?_) (fun h6 => ?_)
  · skip
    refine v_iconst C (v := 0) dX7_freight_37 rfl rfl ?_
    refine w_invSv C [.int (0)] 3 18 L_X7_75 (c_X7_checkState (s := s) (t := t)  hst hG hL 0) rfl rfl rfl dX7_freight_38 rfl (kx_out C (by decide) (fun E w1 hE => by obtain ⟨⟨rfl, h7⟩, rfl⟩ := hE; exact ⟨⟨2, List.Mem.tail _ (List.Mem.head _), by first | rfl | (simp only [h2, h4, h6, Nat.not_lt.mpr h6, h7, freightEC, bI, pM, pU, n10, n20, n30, n0, if_true, if_false, ite_true, ite_false, not_true_eq_false, not_false_eq_true, and_true, true_and, and_false, false_and, or_true, true_or, or_false, false_or, reduceIte, and_self, or_self, ne_eq, eq_self_iff_true]; first | done | rfl) | (simp [bI, h2, h4, h6, Nat.not_lt.mpr h6, h7, freightEC]; done) | (simp only [freightEC, bI, ← Int32.not_le] at *; simp [h2, h4, h6, Nat.not_lt.mpr h6, h7]; done) | (simp_all [bI, h2, h4, h6, Nat.not_lt.mpr h6, h7, freightEC]; done) | (simp_all [bI, h2, h4, h6, Nat.not_lt.mpr h6, h7, freightEC]; rfl) | (exfalso; omega)⟩, rfl⟩)) (fun h8 => ?_)
    exact absurd rfl h8
  · skip
    refine v_iconst C (v := 1) dX7_freight_33 rfl rfl ?_
    refine v_goto C (q := 38) dX7_freight_34 rfl ?_
    refine w_invSv C [.int (1)] 3 18 L_X7_75 (c_X7_checkState (s := s) (t := t)  hst hG hL 1) rfl rfl rfl dX7_freight_38 rfl (fun E w1 hE => absurd hE.1.2 (by decide)) (fun h9 => ?_)
    refine v_aload_n C dX7_freight_41 rfl 0 rfl ?_
    refine v_get C (v := .ref (a 4 0)) g_X7_19 (m2 (s := s) (t := t) (g := G.2.2.1) hL) (rg (by decide) rfl) dX7_freight_42 rfl ?_
    refine v_iload_n C dX7_freight_45 rfl 1 rfl ?_
    refine v_iload_n C dX7_freight_46 rfl 2 rfl ?_
    refine w_invVv C [.int (m), .int (d)] 3 18 L_X7_200 (c_X6_send (s := s) (t := t)  hst hG hL m d) (m4 (s := s) (t := t) (g := G.2.2.1) hL) rfl rfl rfl rfl dX7_freight_47 rfl kx_no (fun h10 => ?_)
    exact v_vret C (by decide) (by decide) dX7_freight_50 ⟨rfl, by first | rfl | (simp only [h2, h4, h6, Nat.not_le.mpr h6, freightEC, bI, pM, pU, n10, n20, n30, n0, if_true, if_false, ite_true, ite_false, not_true_eq_false, not_false_eq_true, and_true, true_and, and_false, false_and, or_true, true_or, or_false, false_or, reduceIte, and_self, or_self, ne_eq, eq_self_iff_true]; first | done | rfl) | (simp [bI, h2, h4, h6, Nat.not_le.mpr h6, freightEC]; done) | (simp only [freightEC, bI, ← Int32.not_le] at *; simp [h2, h4, h6, Nat.not_le.mpr h6]; done) | (simp_all [bI, h2, h4, h6, Nat.not_le.mpr h6, freightEC]; done) | (simp_all [bI, h2, h4, h6, Nat.not_le.mpr h6, freightEC]; rfl) | (exfalso; omega), by first | assumption | first | rfl | (simp only [h2, h4, h6, Nat.not_le.mpr h6, freightEC, bI, pM, pU, n10, n20, n30, n0, if_true, if_false, ite_true, ite_false, not_true_eq_false, not_false_eq_true, and_true, true_and, and_false, false_and, or_true, true_or, or_false, false_or, reduceIte, and_self, or_self, ne_eq, eq_self_iff_true]; first | done | rfl) | (simp [bI, h2, h4, h6, Nat.not_le.mpr h6, freightEC]; done) | (simp only [freightEC, bI, ← Int32.not_le] at *; simp [h2, h4, h6, Nat.not_le.mpr h6]; done) | (simp_all [bI, h2, h4, h6, Nat.not_le.mpr h6, freightEC]; done) | (simp_all [bI, h2, h4, h6, Nat.not_le.mpr h6, freightEC]; rfl) | (exfalso; omega)⟩

abbrev r_X7_pass : Room := { frames := 8, cells := 2, slots := 12, locals := 127 }
set_option maxRecDepth 4000 in
theorem c_X7_pass {l : Launch} {G : GG} {a : AD} {s t s0 : SS} {L : List (Nat × Nat)} {nm : Nat} {nc : Nat} (hst : l.stackTraces = false) (hG : GOK G) (hL : Live L s0) (x : Int32) (hlm : LsOK a s s0 0 nm) (hm12 : nm ≤ 12) (hv_nm : ∀ i, i < nm → i < tn (s0 12 0)) (hlc : LsOK a s s0 1 nc) (hv_nc : ∀ i, i < nc → i < tn (s0 21 0)) (hco : ∀ i, i < nc → vp_in (s 22 i) nm) : Mth l yX7_pass cX7_pass 3 (Option.some Jvm.ClassFile.FieldType.int) r_X7_pass G (wl a (E G.2.2.1 a s t) L) [.ref (a 2 0), .int x] (RI (.int (passR s nm nc 0 x)) (wl a (E G.2.2.1 a (psC s nm nc (tn x)) t) L) (passE s nm nc 0 x = 0)) (XW (fun E => pE LAS (passE s nm nc 0 x) E) (wl a (E G.2.2.1 a s t) L)) := by
  refine mth_of rfl (Nat.le_of_ble_eq_true rfl) hst hG (fun X hX C0 => ?_)
  subst hX
  have C : Cx X G cX7_pass 3 RX7 (Option.some Jvm.ClassFile.FieldType.int) r_X7_pass "pass" [] := C0
  clear C0
  show V X G 3 _ 0 0 _ 0 [(0, .ref (a 2 0)), (1, .int (x))] []
  have hc30 := hlc.2.1
  refine v_iload_n C dX7_pass_0 rfl 1 rfl ?_
  refine v_iconst C (v := 1) dX7_pass_1 rfl rfl ?_
  refine v_sipush C (v := 200) dX7_pass_2 rfl rfl ?_
  refine w_invSv C [.int (x), .int (1), .int (200)] 1 6 L_X7_67 (c_X7_checkRange (s := s) (t := t)  hst hG hL x 1 200) rfl rfl rfl dX7_pass_5 rfl (kx_out C (by decide) (fun E w1 hE => by obtain ⟨⟨rfl, h1⟩, rfl⟩ := hE; exact ⟨⟨1, List.Mem.head _, by first | rfl | (simp only [h1, passE, passR, bI, pM, pU, n10, n20, n30, n0, if_true, if_false, ite_true, ite_false, not_true_eq_false, not_false_eq_true, and_true, true_and, and_false, false_and, or_true, true_or, or_false, false_or, reduceIte, and_self, or_self, ne_eq, eq_self_iff_true]; first | done | rfl) | (simp [bI, h1, passE, passR]; done) | (simp only [passE, passR, bI, ← Int32.not_le] at *; simp [h1]; done) | (simp_all [bI, h1, passE, passR]; done) | (simp_all [bI, h1, passE, passR]; rfl) | (exfalso; omega)⟩, rfl⟩)) (fun h2 => ?_)
  refine v_aload_n C dX7_pass_8 rfl 0 rfl ?_
  refine v_get C (v := .int (s 0 0)) g_X7_43 (m2 (s := s) (t := t) (g := G.2.2.1) hL) (rg (by decide) rfl) dX7_pass_9 rfl ?_
  refine v_iload_n C dX7_pass_12 rfl 1 rfl ?_
  refine v_iadd C dX7_pass_13 rfl ?_
  refine v_sipush C (v := 5000) dX7_pass_14 rfl rfl ?_
  refine v_icmp_gt C (t := 24) dX7_pass_17 rfl rfl (fun h3 => ?_) (fun h3 => ?_)
  · skip
    refine v_iconst C (v := 0) dX7_pass_24 rfl rfl ?_
    refine w_invSv C [.int (0)] 2 12 L_X7_75 (c_X7_checkState (s := s) (t := t)  hst hG hL 0) rfl rfl rfl dX7_pass_25 rfl (kx_out C (by decide) (fun E w1 hE => by obtain ⟨⟨rfl, h4⟩, rfl⟩ := hE; exact ⟨⟨2, List.Mem.tail _ (List.Mem.head _), by first | rfl | (simp only [h2, h3, Int32.not_le.mpr h3, h4, passE, passR, bI, pM, pU, n10, n20, n30, n0, if_true, if_false, ite_true, ite_false, not_true_eq_false, not_false_eq_true, and_true, true_and, and_false, false_and, or_true, true_or, or_false, false_or, reduceIte, and_self, or_self, ne_eq, eq_self_iff_true]; first | done | rfl) | (simp [bI, h2, h3, Int32.not_le.mpr h3, h4, passE, passR]; done) | (simp only [passE, passR, bI, ← Int32.not_le] at *; simp [h2, h3, Int32.not_le.mpr h3, h4]; done) | (simp_all [bI, h2, h3, Int32.not_le.mpr h3, h4, passE, passR]; done) | (simp_all [bI, h2, h3, Int32.not_le.mpr h3, h4, passE, passR]; rfl) | (exfalso; omega)⟩, rfl⟩)) (fun h5 => ?_)
    exact absurd rfl h5
  · skip
    refine v_iconst C (v := 1) dX7_pass_20 rfl rfl ?_
    refine v_goto C (q := 25) dX7_pass_21 rfl ?_
    refine w_invSv C [.int (1)] 2 12 L_X7_75 (c_X7_checkState (s := s) (t := t)  hst hG hL 1) rfl rfl rfl dX7_pass_25 rfl (fun E w1 hE => absurd hE.1.2 (by decide)) (fun h6 => ?_)
    refine v_iconst C (v := 0) dX7_pass_28 rfl rfl ?_
    refine v_istore_n C (lv1 := [(2, .int (0)), (0, .ref (a 2 0)), (1, .int (x))]) dX7_pass_29 rfl (by decide) rfl ?_
    refine xx_lv [1, 2, 0] (lv' := [(0, .ref (a 2 0)), (1, .int (x)), (2, .int (0))]) rfl ?_
    refine xx_wc (w2 := wl a (E G.2.2.1 a (psC s nm nc 0) t) L) (lv' := [(0, .ref (a 2 0)), (1, .int (nI (tn x))), (2, .int (nI (0)))]) (by rfl) (by rw [← in_nI (N := 201) (vp_rng1 (x := x) (n := 200) rfl (by decide) (by assumption)) (by decide)]; rfl) ?_
    refine xx_loop (tn x) 0 (fun i => wl a (E G.2.2.1 a (psC s nm nc i) t) L) (fun i => [(0, .ref (a 2 0)), (1, .int (nI (tn x))), (2, .int (nI (i)))]) (by omega) ?_
    intro i hi0 hiN ih_i
    have hx201 : tn x < 201 := in_lt (vp_rng1 (x := x) (n := 200) rfl (by decide) (by assumption))
    refine v_iload_n C dX7_pass_30 rfl 2 rfl ?_
    refine v_iload_n C dX7_pass_31 rfl 1 rfl ?_
    refine v_icN_ge C (t := 45) i (tn x) rfl rfl (by omega) (by omega) dX7_pass_32 rfl rfl (fun h7 => ?_) (fun h7 => ?_)
    · skip
      refine v_aload_n C dX7_pass_45 rfl 0 rfl ?_
      refine v_get C (v := .int ((psC s nm nc i) 0 0)) g_X7_43 (m2 (s := ((psC s nm nc i))) (t := t) (g := G.2.2.1) hL) (rg (by decide) rfl) dX7_pass_46 rfl ?_
      exact v_iret C (by decide) (by decide) dX7_pass_49 ⟨congrArg (fun z => some (Value.int z)) (by (have e : i = tn x := by omega); subst e; rw [psC_0, ← in_nI (N := 201) (vp_rng1 (x := x) (n := 200) rfl (by decide) (by assumption)) (by decide)]; rfl), by (have e : i = tn x := by omega); subst e; rfl, by first | assumption | first | rfl | (simp only [h2, h3, Int32.not_lt.mp h3, h7, Nat.not_lt.mpr h7, passE, passR, bI, pM, pU, n10, n20, n30, n0, if_true, if_false, ite_true, ite_false, not_true_eq_false, not_false_eq_true, and_true, true_and, and_false, false_and, or_true, true_or, or_false, false_or, reduceIte, and_self, or_self, ne_eq, eq_self_iff_true]; first | done | rfl) | (simp [bI, h2, h3, Int32.not_lt.mp h3, h7, Nat.not_lt.mpr h7, passE, passR]; done) | (simp only [passE, passR, bI, ← Int32.not_le] at *; simp [h2, h3, Int32.not_lt.mp h3, h7, Nat.not_lt.mpr h7]; done) | (simp_all [bI, h2, h3, Int32.not_lt.mp h3, h7, Nat.not_lt.mpr h7, passE, passR]; done) | (simp_all [bI, h2, h3, Int32.not_lt.mp h3, h7, Nat.not_lt.mpr h7, passE, passR]; rfl) | (exfalso; omega)⟩
    · skip
      refine v_aload_n C dX7_pass_35 rfl 0 rfl ?_
      refine w_invVv C [] 2 12 L_X7_99 (c_X7_passOneDay (s := ((psC s nm nc i))) (t := t) (nm := nm) (nc := nc) hst hG hL (LsOK.c (congrFun (psC_o (k := 12) (by decide) (by decide) (by decide) (by decide) (by decide) (by decide) (by decide) _) 0) hlm) hm12 hv_nm (LsOK.c (congrFun (psC_o (k := 21) (by decide) (by decide) (by decide) (by decide) (by decide) (by decide) (by decide) _) 0) hlc) hv_nc (fun j hj => Eq.mpr (congrArg (fun z => vp_in z nm) (congrFun (psC_o (k := 22) (by decide) (by decide) (by decide) (by decide) (by decide) (by decide) (by decide) _) j)) (hco j hj))) (m2 (s := ((psC s nm nc i))) (t := t) (g := G.2.2.1) hL) rfl rfl rfl rfl dX7_pass_36 rfl kx_no (fun h8 => ?_)
      refine v_iincN C (lv1 := [(2, .int (nI (i + 1))), (0, .ref (a 2 0)), (1, .int (nI (tn x)))]) i rfl dX7_pass_39 rfl 2 rfl (by decide) rfl ?_
      refine v_goto C (q := 30) dX7_pass_42 rfl ?_
      refine xx_lv [1, 2, 0] (lv' := [(0, .ref (a 2 0)), (1, .int (nI (tn x))), (2, .int (nI (i + 1)))]) rfl ?_
      refine xx_wc (w2 := wl a (E G.2.2.1 a (psC s nm nc (i + 1)) t) L) (lv' := [(0, .ref (a 2 0)), (1, .int (nI (tn x))), (2, .int (nI (i + 1)))]) (by rfl) (by first | rfl | (simp [h2, h3, Int32.not_lt.mp h3, h7, Nat.not_le.mpr h7, passE, passR, Nat.add_assoc])) ?_
      exact ih_i (by omega)

abbrev r_X7_day : Room := { frames := 0, cells := 0, slots := 0, locals := 0 }
set_option maxRecDepth 4000 in
theorem c_X7_day {l : Launch} {G : GG} {a : AD} {s t s0 : SS} {L : List (Nat × Nat)}  (hst : l.stackTraces = false) (hG : GOK G) (hL : Live L s0)   : Mth l yX7_day cX7_day 1 (Option.some Jvm.ClassFile.FieldType.int) r_X7_day G (wl a (E G.2.2.1 a s t) L) [.ref (a 2 0)] (RI (.int (s 0 0)) (wl a (E G.2.2.1 a s t) L) (True)) nX := by
  refine mth_of rfl (Nat.le_of_ble_eq_true rfl) hst hG (fun X hX C0 => ?_)
  subst hX
  have C : Cx X G cX7_day 1 RX7 (Option.some Jvm.ClassFile.FieldType.int) r_X7_day "day" [] := C0
  clear C0
  show V X G 1 _ 0 0 _ 0 [(0, .ref (a 2 0))] []
  refine v_aload_n C dX7_day_0 rfl 0 rfl ?_
  refine v_get C (v := .int (s 0 0)) g_X7_43 (m2 (s := s) (t := t) (g := G.2.2.1) hL) (rg (by decide) rfl) dX7_day_1 rfl ?_
  exact v_iret C (by decide) (by decide) dX7_day_4 ⟨congrArg (fun z => some (Value.int z)) (by first | rfl | (simp only [bI, pM, pU, n10, n20, n30, n0, if_true, if_false, ite_true, ite_false, not_true_eq_false, not_false_eq_true, and_true, true_and, and_false, false_and, or_true, true_or, or_false, false_or, reduceIte, and_self, or_self, ne_eq, eq_self_iff_true]; first | done | rfl) | (simp [bI, ]; done) | (simp only [bI, ← Int32.not_le] at *; simp []; done) | (simp_all [bI, ]; done) | (simp_all [bI, ]; rfl) | (exfalso; omega)), by rfl, by trivial⟩

abbrev r_X7_end : Room := { frames := 7, cells := 3, slots := 18, locals := 103 }
set_option maxRecDepth 4000 in
theorem c_X7_end {l : Launch} {G : GG} {a : AD} {s t s0 : SS} {L : List (Nat × Nat)} {nm : Nat} (hst : l.stackTraces = false) (hG : GOK G) (hL : Live L s0) (x : Int32) (y : Int32) (hlm : LsOK a s s0 0 nm) (hm12 : nm ≤ 12) (hv_nm : ∀ i, i < nm → i < tn (s0 12 0)) : Mth l yX7_end cX7_end 5 (Option.some Jvm.ClassFile.FieldType.int) r_X7_end G (wl a (E G.2.2.1 a s t) L) [.ref (a 2 0), .int x, .int y] (RI (.int (endR s x y)) (wl a (E G.2.2.1 a (endU s x y) t) L) (endE s x y = 0)) (XW (fun E => pE LIS (endE s x y) E) (wl a (E G.2.2.1 a s t) L)) := by
  refine mth_of rfl (Nat.le_of_ble_eq_true rfl) hst hG (fun X hX C0 => ?_)
  subst hX
  have C : Cx X G cX7_end 5 RX7 (Option.some Jvm.ClassFile.FieldType.int) r_X7_end "end" [] := C0
  clear C0
  show V X G 5 _ 0 0 _ 0 [(0, .ref (a 2 0)), (1, .int (x)), (2, .int (y))] []
  refine v_aload_n C dX7_end_0 rfl 0 rfl ?_
  refine v_iload_n C dX7_end_1 rfl 1 rfl ?_
  refine w_invVr C [.int (x)] 0 0 L_X7_219 (c_X7_isMiner (s := s) (t := t) (nm := nm) hst hG hL x hlm hm12 hv_nm) (m2 (s := s) (t := t) (g := G.2.2.1) hL) rfl rfl rfl rfl dX7_end_2 rfl kx_no (fun h1 => ?_)
  refine w_invSv C [.int (bI ((0 : Int32) ≤ x ∧ x ≤ s 12 0 - 1))] 1 6 L_X7_112 (c_X7_checkIndex (s := s) (t := t)  hst hG hL (bI ((0 : Int32) ≤ x ∧ x ≤ s 12 0 - 1))) rfl rfl rfl dX7_end_5 rfl (kx_out C (by decide) (fun E w1 hE => by obtain ⟨⟨rfl, h2⟩, rfl⟩ := hE; have h2 := bI_z0 h2; exact ⟨⟨1, List.Mem.head _, by first | rfl | (simp only [h2, endE, endR, endU, bI, pM, pU, n10, n20, n30, n0, if_true, if_false, ite_true, ite_false, not_true_eq_false, not_false_eq_true, and_true, true_and, and_false, false_and, or_true, true_or, or_false, false_or, reduceIte, and_self, or_self, ne_eq, eq_self_iff_true]; first | done | rfl) | (simp [bI, h2, endE, endR, endU]; done) | (simp only [endE, endR, endU, bI, ← Int32.not_le] at *; simp [h2]; done) | (simp_all [bI, h2, endE, endR, endU]; done) | (simp_all [bI, h2, endE, endR, endU]; rfl) | (exfalso; omega)⟩, rfl⟩)) (fun h3 => ?_)
  have h4 := bI_nz h3
  refine v_aload_n C dX7_end_8 rfl 0 rfl ?_
  refine v_iload_n C dX7_end_9 rfl 2 rfl ?_
  refine w_invVr C [.int (y)] 2 12 L_X7_108 (c_X7_minerAt (s := s) (t := t) (nm := nm) hst hG hL y hlm hm12 hv_nm) (m2 (s := s) (t := t) (g := G.2.2.1) hL) rfl rfl rfl rfl dX7_end_10 rfl (kx_out C (by decide) (fun E w1 hE => by obtain ⟨⟨rfl, h5⟩, rfl⟩ := hE; exact ⟨⟨1, List.Mem.head _, by first | rfl | (simp only [h4, h5, endE, endR, endU, bI, pM, pU, n10, n20, n30, n0, if_true, if_false, ite_true, ite_false, not_true_eq_false, not_false_eq_true, and_true, true_and, and_false, false_and, or_true, true_or, or_false, false_or, reduceIte, and_self, or_self, ne_eq, eq_self_iff_true]; first | done | rfl) | (simp [bI, h4, h5, endE, endR, endU]; done) | (simp only [endE, endR, endU, bI, ← Int32.not_le] at *; simp [h4, h5]; done) | (simp_all [bI, h4, h5, endE, endR, endU]; done) | (simp_all [bI, h4, h5, endE, endR, endU]; rfl) | (exfalso; omega)⟩, rfl⟩)) (fun h6 => ?_)
  have lh6 : tn y < nm := in_lt (vp_cnt h6 hlm.p0 (Nat.le_refl _) (by omega))
  refine v_astore_n C (lv1 := [(3, .ref (a 9 (tn y))), (0, .ref (a 2 0)), (1, .int (x)), (2, .int (y))]) dX7_end_13 rfl (by decide) rfl ?_
  refine v_aload_n C dX7_end_14 rfl 0 rfl ?_
  refine v_iload_n C dX7_end_15 rfl 2 rfl ?_
  refine w_invVr C [.int (x)] 2 12 L_X7_210 (c_X3_percentOf (s := s) (t := t)  hst hG hL (tn y) x _ (in_nI (N := 12) (vp_cnt (x := x) (by assumption) hlm.p0 hm12 (by decide)) (by omega)) (in_lt (N := 12) (vp_cnt (x := x) (by assumption) hlm.p0 hm12 (by decide))) (hv_nm _ (by omega))) (m9 (s := s) (t := t) (g := G.2.2.1) hL (tn y) (hv_nm _ (by omega))) rfl rfl rfl rfl dX7_end_16 rfl kx_no (fun h7 => ?_)
  refine v_istore C (lv1 := [(4, .int (s 20 (12 * (tn y) + (tn x)))), (3, .ref (a 9 (tn y))), (0, .ref (a 2 0)), (1, .int (x)), (2, .int (y))]) dX7_end_19 rfl (by decide) rfl ?_
  refine v_iload C dX7_end_21 rfl 0 rfl ?_
  refine v_if_le C (t := 30) dX7_end_23 rfl rfl (fun h8 => ?_) (fun h8 => ?_)
  · skip
    refine v_iconst C (v := 0) dX7_end_30 rfl rfl ?_
    refine w_invSv C [.int (0)] 3 18 L_X7_75 (c_X7_checkState (s := s) (t := t)  hst hG hL 0) rfl rfl rfl dX7_end_31 rfl (kx_out C (by decide) (fun E w1 hE => by obtain ⟨⟨rfl, h9⟩, rfl⟩ := hE; exact ⟨⟨2, List.Mem.tail _ (List.Mem.head _), by first | rfl | (simp only [h4, h6, h8, Int32.not_lt.mpr h8, h9, endE, endR, endU, bI, pM, pU, n10, n20, n30, n0, if_true, if_false, ite_true, ite_false, not_true_eq_false, not_false_eq_true, and_true, true_and, and_false, false_and, or_true, true_or, or_false, false_or, reduceIte, and_self, or_self, ne_eq, eq_self_iff_true]; first | done | rfl) | (simp [bI, h4, h6, h8, Int32.not_lt.mpr h8, h9, endE, endR, endU]; done) | (simp only [endE, endR, endU, bI, ← Int32.not_le] at *; simp [h4, h6, h8, Int32.not_lt.mpr h8, h9]; done) | (simp_all [bI, h4, h6, h8, Int32.not_lt.mpr h8, h9, endE, endR, endU]; done) | (simp_all [bI, h4, h6, h8, Int32.not_lt.mpr h8, h9, endE, endR, endU]; rfl) | (exfalso; omega)⟩, rfl⟩)) (fun h10 => ?_)
    exact absurd rfl h10
  · skip
    refine v_iconst C (v := 1) dX7_end_26 rfl rfl ?_
    refine v_goto C (q := 31) dX7_end_27 rfl ?_
    refine w_invSv C [.int (1)] 3 18 L_X7_75 (c_X7_checkState (s := s) (t := t)  hst hG hL 1) rfl rfl rfl dX7_end_31 rfl (fun E w1 hE => absurd hE.1.2 (by decide)) (fun h11 => ?_)
    refine v_aload_n C dX7_end_34 rfl 1 rfl ?_
    refine v_iload_n C dX7_end_35 rfl 3 rfl ?_
    refine v_iconst C (v := 0) dX7_end_36 rfl rfl ?_
    refine w_invVv C [.int (x), .int (0)] 3 18 L_X7_216 (c_X3_setPercent (s := s) (t := t)  hst hG hL (tn y) x _ (in_nI (N := 12) (vp_cnt (x := x) (by assumption) hlm.p0 hm12 (by decide)) (by omega)) (in_lt (N := 12) (vp_cnt (x := x) (by assumption) hlm.p0 hm12 (by decide))) 0 (hv_nm _ (by omega))) (m9 (s := s) (t := t) (g := G.2.2.1) hL (tn y) (hv_nm _ (by omega))) rfl rfl rfl rfl dX7_end_37 rfl kx_no (fun h12 => ?_)
    refine v_iload C dX7_end_40 rfl 0 rfl ?_
    exact v_iret C (by decide) (by decide) dX7_end_42 ⟨congrArg (fun z => some (Value.int z)) (by first | rfl | (simp only [h4, h6, h8, Int32.not_le.mp h8, endE, endR, endU, bI, pM, pU, n10, n20, n30, n0, if_true, if_false, ite_true, ite_false, not_true_eq_false, not_false_eq_true, and_true, true_and, and_false, false_and, or_true, true_or, or_false, false_or, reduceIte, and_self, or_self, ne_eq, eq_self_iff_true]; first | done | rfl) | (simp [bI, h4, h6, h8, Int32.not_le.mp h8, endE, endR, endU]; done) | (simp only [endE, endR, endU, bI, ← Int32.not_le] at *; simp [h4, h6, h8, Int32.not_le.mp h8]; done) | (simp_all [bI, h4, h6, h8, Int32.not_le.mp h8, endE, endR, endU]; done) | (simp_all [bI, h4, h6, h8, Int32.not_le.mp h8, endE, endR, endU]; rfl) | (exfalso; omega)), by first | rfl | (simp only [h4, h6, h8, Int32.not_le.mp h8, endE, endR, endU, bI, pM, pU, n10, n20, n30, n0, if_true, if_false, ite_true, ite_false, not_true_eq_false, not_false_eq_true, and_true, true_and, and_false, false_and, or_true, true_or, or_false, false_or, reduceIte, and_self, or_self, ne_eq, eq_self_iff_true]; first | done | rfl) | (simp [bI, h4, h6, h8, Int32.not_le.mp h8, endE, endR, endU]; done) | (simp only [endE, endR, endU, bI, ← Int32.not_le] at *; simp [h4, h6, h8, Int32.not_le.mp h8]; done) | (simp_all [bI, h4, h6, h8, Int32.not_le.mp h8, endE, endR, endU]; done) | (simp_all [bI, h4, h6, h8, Int32.not_le.mp h8, endE, endR, endU]; rfl) | (exfalso; omega), by first | assumption | first | rfl | (simp only [h4, h6, h8, Int32.not_le.mp h8, endE, endR, endU, bI, pM, pU, n10, n20, n30, n0, if_true, if_false, ite_true, ite_false, not_true_eq_false, not_false_eq_true, and_true, true_and, and_false, false_and, or_true, true_or, or_false, false_or, reduceIte, and_self, or_self, ne_eq, eq_self_iff_true]; first | done | rfl) | (simp [bI, h4, h6, h8, Int32.not_le.mp h8, endE, endR, endU]; done) | (simp only [endE, endR, endU, bI, ← Int32.not_le] at *; simp [h4, h6, h8, Int32.not_le.mp h8]; done) | (simp_all [bI, h4, h6, h8, Int32.not_le.mp h8, endE, endR, endU]; done) | (simp_all [bI, h4, h6, h8, Int32.not_le.mp h8, endE, endR, endU]; rfl) | (exfalso; omega)⟩

abbrev r_X7_back : Room := { frames := 8, cells := 6, slots := 36, locals := 124 }
set_option maxRecDepth 4000 in
theorem c_X7_back {l : Launch} {G : GG} {a : AD} {s t s0 : SS} {L : List (Nat × Nat)} {nm : Nat} (hst : l.stackTraces = false) (hG : GOK G) (hL : Live L s0) (x : Int32) (y : Int32) (p : Int32) (m : Int32) (hlm : LsOK a s s0 0 nm) (hm12 : nm ≤ 12) (hv_nm : ∀ i, i < nm → i < tn (s0 12 0)) : Mth l yX7_back cX7_back 7 (Option.none : Option Jvm.ClassFile.FieldType) r_X7_back G (wl a (E G.2.2.1 a s t) L) [.ref (a 2 0), .int x, .int y, .int p, .int m] (RV (wl a (E G.2.2.1 a (backUC s x y p m) t) L) (backEC s x y p m = 0)) (XW (fun E => pE L3 (backEC s x y p m) E) (wl a (E G.2.2.1 a s t) L)) := by
  refine mth_of rfl (Nat.le_of_ble_eq_true rfl) hst hG (fun X hX C0 => ?_)
  subst hX
  have C : Cx X G cX7_back 7 RX7 (Option.none : Option Jvm.ClassFile.FieldType) r_X7_back "back" [] := C0
  clear C0
  show V X G 7 _ 0 0 _ 0 [(0, .ref (a 2 0)), (1, .int (x)), (2, .int (y)), (3, .int (p)), (4, .int (m))] []
  refine v_aload_n C dX7_back_0 rfl 0 rfl ?_
  refine v_iload_n C dX7_back_1 rfl 1 rfl ?_
  refine w_invVr C [.int (x)] 1 6 L_X7_108 (c_X7_minerAt (s := s) (t := t) (nm := nm) hst hG hL x hlm hm12 hv_nm) (m2 (s := s) (t := t) (g := G.2.2.1) hL) rfl rfl rfl rfl dX7_back_2 rfl (kx_out C (by decide) (fun E w1 hE => by obtain ⟨⟨rfl, h1⟩, rfl⟩ := hE; exact ⟨⟨1, List.Mem.head _, by first | rfl | (simp only [h1, backEC, backUC, bI, pM, pU, n10, n20, n30, n0, if_true, if_false, ite_true, ite_false, not_true_eq_false, not_false_eq_true, and_true, true_and, and_false, false_and, or_true, true_or, or_false, false_or, reduceIte, and_self, or_self, ne_eq, eq_self_iff_true]; first | done | rfl) | (simp [bI, h1, backEC, backUC]; done) | (simp only [backEC, backUC, bI, ← Int32.not_le] at *; simp [h1]; done) | (simp_all [bI, h1, backEC, backUC]; done) | (simp_all [bI, h1, backEC, backUC]; rfl) | (exfalso; omega)⟩, rfl⟩)) (fun h2 => ?_)
  have lh2 : tn x < nm := in_lt (vp_cnt h2 hlm.p0 (Nat.le_refl _) (by omega))
  refine v_astore C (lv1 := [(5, .ref (a 9 (tn x))), (0, .ref (a 2 0)), (1, .int (x)), (2, .int (y)), (3, .int (p)), (4, .int (m))]) dX7_back_5 rfl (by decide) rfl ?_
  refine v_aload_n C dX7_back_7 rfl 1 rfl ?_
  refine v_iload_n C dX7_back_8 rfl 3 rfl ?_
  refine w_invVr C [.int (y)] 2 12 L_X7_108 (c_X7_minerAt (s := s) (t := t) (nm := nm) hst hG hL y hlm hm12 hv_nm) (m2 (s := s) (t := t) (g := G.2.2.1) hL) rfl rfl rfl rfl dX7_back_9 rfl (kx_out C (by decide) (fun E w1 hE => by obtain ⟨⟨rfl, h3⟩, rfl⟩ := hE; exact ⟨⟨1, List.Mem.head _, by first | rfl | (simp only [h2, h3, backEC, backUC, bI, pM, pU, n10, n20, n30, n0, if_true, if_false, ite_true, ite_false, not_true_eq_false, not_false_eq_true, and_true, true_and, and_false, false_and, or_true, true_or, or_false, false_or, reduceIte, and_self, or_self, ne_eq, eq_self_iff_true]; first | done | rfl) | (simp [bI, h2, h3, backEC, backUC]; done) | (simp only [backEC, backUC, bI, ← Int32.not_le] at *; simp [h2, h3]; done) | (simp_all [bI, h2, h3, backEC, backUC]; done) | (simp_all [bI, h2, h3, backEC, backUC]; rfl) | (exfalso; omega)⟩, rfl⟩)) (fun h4 => ?_)
  have lh4 : tn y < nm := in_lt (vp_cnt h4 hlm.p0 (Nat.le_refl _) (by omega))
  refine v_astore C (lv1 := [(6, .ref (a 9 (tn y))), (5, .ref (a 9 (tn x))), (0, .ref (a 2 0)), (1, .int (x)), (2, .int (y)), (3, .int (p)), (4, .int (m))]) dX7_back_12 rfl (by decide) rfl ?_
  refine v_iload_n C dX7_back_14 rfl 5 rfl ?_
  refine v_iconst C (v := 1) dX7_back_15 rfl rfl ?_
  refine v_bipush C (v := 100) dX7_back_16 rfl rfl ?_
  refine w_invSv C [.int (p), .int (1), .int (100)] 3 18 L_X7_67 (c_X7_checkRange (s := s) (t := t)  hst hG hL p 1 100) rfl rfl rfl dX7_back_18 rfl (kx_out C (by decide) (fun E w1 hE => by obtain ⟨⟨rfl, h5⟩, rfl⟩ := hE; exact ⟨⟨2, List.Mem.tail _ (List.Mem.head _), by first | rfl | (simp only [h2, h4, h5, backEC, backUC, bI, pM, pU, n10, n20, n30, n0, if_true, if_false, ite_true, ite_false, not_true_eq_false, not_false_eq_true, and_true, true_and, and_false, false_and, or_true, true_or, or_false, false_or, reduceIte, and_self, or_self, ne_eq, eq_self_iff_true]; first | done | rfl) | (simp [bI, h2, h4, h5, backEC, backUC]; done) | (simp only [backEC, backUC, bI, ← Int32.not_le] at *; simp [h2, h4, h5]; done) | (simp_all [bI, h2, h4, h5, backEC, backUC]; done) | (simp_all [bI, h2, h4, h5, backEC, backUC]; rfl) | (exfalso; omega)⟩, rfl⟩)) (fun h6 => ?_)
  refine v_iload C dX7_back_21 rfl 6 rfl ?_
  refine v_iconst C (v := 0) dX7_back_23 rfl rfl ?_
  refine v_ldc C (v := 100000) dX7_back_24 rfl N_X7_66 ?_
  refine w_invSv C [.int (m), .int (0), .int (100000)] 4 24 L_X7_67 (c_X7_checkRange (s := s) (t := t)  hst hG hL m 0 100000) rfl rfl rfl dX7_back_26 rfl (kx_out C (by decide) (fun E w1 hE => by obtain ⟨⟨rfl, h7⟩, rfl⟩ := hE; exact ⟨⟨2, List.Mem.tail _ (List.Mem.head _), by first | rfl | (simp only [h2, h4, h6, h7, backEC, backUC, bI, pM, pU, n10, n20, n30, n0, if_true, if_false, ite_true, ite_false, not_true_eq_false, not_false_eq_true, and_true, true_and, and_false, false_and, or_true, true_or, or_false, false_or, reduceIte, and_self, or_self, ne_eq, eq_self_iff_true]; first | done | rfl) | (simp [bI, h2, h4, h6, h7, backEC, backUC]; done) | (simp only [backEC, backUC, bI, ← Int32.not_le] at *; simp [h2, h4, h6, h7]; done) | (simp_all [bI, h2, h4, h6, h7, backEC, backUC]; done) | (simp_all [bI, h2, h4, h6, h7, backEC, backUC]; rfl) | (exfalso; omega)⟩, rfl⟩)) (fun h8 => ?_)
  refine v_iload_n C dX7_back_29 rfl 3 rfl ?_
  refine v_iload_n C dX7_back_30 rfl 4 rfl ?_
  refine v_icmp_eq C (t := 38) dX7_back_31 rfl rfl (fun h9 => ?_) (fun h9 => ?_)
  · skip
    refine v_iconst C (v := 0) dX7_back_38 rfl rfl ?_
    refine w_invSv C [.int (0)] 5 30 L_X7_105 (c_X7_checkArgument (s := s) (t := t)  hst hG hL 0) rfl rfl rfl dX7_back_39 rfl (kx_out C (by decide) (fun E w1 hE => by obtain ⟨⟨rfl, h10⟩, rfl⟩ := hE; exact ⟨⟨2, List.Mem.tail _ (List.Mem.head _), by first | rfl | (simp only [h2, h4, h6, h8, eq_true h9, h10, backEC, backUC, bI, pM, pU, n10, n20, n30, n0, if_true, if_false, ite_true, ite_false, not_true_eq_false, not_false_eq_true, and_true, true_and, and_false, false_and, or_true, true_or, or_false, false_or, reduceIte, and_self, or_self, ne_eq, eq_self_iff_true]; first | done | rfl) | (simp [bI, h2, h4, h6, h8, eq_true h9, h10, backEC, backUC]; done) | (simp only [backEC, backUC, bI, ← Int32.not_le] at *; simp [h2, h4, h6, h8, eq_true h9, h10]; done) | (simp_all [bI, h2, h4, h6, h8, eq_true h9, h10, backEC, backUC]; done) | (simp_all [bI, h2, h4, h6, h8, eq_true h9, h10, backEC, backUC]; rfl) | (exfalso; omega)⟩, rfl⟩)) (fun h11 => ?_)
    exact absurd rfl h11
  · skip
    refine v_iconst C (v := 1) dX7_back_34 rfl rfl ?_
    refine v_goto C (q := 39) dX7_back_35 rfl ?_
    refine w_invSv C [.int (1)] 5 30 L_X7_105 (c_X7_checkArgument (s := s) (t := t)  hst hG hL 1) rfl rfl rfl dX7_back_39 rfl (fun E w1 hE => absurd hE.1.2 (by decide)) (fun h12 => ?_)
    refine v_aload C dX7_back_42 rfl 1 rfl ?_
    refine w_invVr C [] 5 30 L_X7_115 (c_X3_isDead (s := s) (t := t)  hst hG hL (tn x) (hv_nm _ (by omega))) (m9 (s := s) (t := t) (g := G.2.2.1) hL (tn x) (hv_nm _ (by omega))) rfl rfl rfl rfl dX7_back_44 rfl kx_no (fun h13 => ?_)
    refine v_ifB_ne C (t := 93) dX7_back_47 rfl rfl (fun h14 => ?_) (fun h14 => ?_)
    · skip
      refine v_iconst C (v := 0) dX7_back_93 rfl rfl ?_
      refine w_invSv C [.int (0)] 6 36 L_X7_75 (c_X7_checkState (s := s) (t := t)  hst hG hL 0) rfl rfl rfl dX7_back_94 rfl (kx_out C (by decide) (fun E w1 hE => by obtain ⟨⟨rfl, h15⟩, rfl⟩ := hE; exact ⟨⟨3, List.Mem.tail _ (List.Mem.tail _ (List.Mem.head _)), by first | rfl | (simp only [h2, h4, h6, h8, h9, eq_true h14, h15, backEC, backUC, bI, pM, pU, n10, n20, n30, n0, if_true, if_false, ite_true, ite_false, not_true_eq_false, not_false_eq_true, and_true, true_and, and_false, false_and, or_true, true_or, or_false, false_or, reduceIte, and_self, or_self, ne_eq, eq_self_iff_true]; first | done | rfl) | (simp [bI, h2, h4, h6, h8, h9, eq_true h14, h15, backEC, backUC]; done) | (simp only [backEC, backUC, bI, ← Int32.not_le] at *; simp [h2, h4, h6, h8, h9, eq_true h14, h15]; done) | (simp_all [bI, h2, h4, h6, h8, h9, eq_true h14, h15, backEC, backUC]; done) | (simp_all [bI, h2, h4, h6, h8, h9, eq_true h14, h15, backEC, backUC]; rfl) | (exfalso; omega)⟩, rfl⟩)) (fun h16 => ?_)
      exact absurd rfl h16
    · skip
      refine v_aload C dX7_back_50 rfl 0 rfl ?_
      refine w_invVr C [] 5 30 L_X7_115 (c_X3_isDead (s := s) (t := t)  hst hG hL (tn y) (hv_nm _ (by omega))) (m9 (s := s) (t := t) (g := G.2.2.1) hL (tn y) (hv_nm _ (by omega))) rfl rfl rfl rfl dX7_back_52 rfl kx_no (fun h17 => ?_)
      refine v_ifB_ne C (t := 93) dX7_back_55 rfl rfl (fun h18 => ?_) (fun h18 => ?_)
      · skip
        refine v_iconst C (v := 0) dX7_back_93 rfl rfl ?_
        refine w_invSv C [.int (0)] 6 36 L_X7_75 (c_X7_checkState (s := s) (t := t)  hst hG hL 0) rfl rfl rfl dX7_back_94 rfl (kx_out C (by decide) (fun E w1 hE => by obtain ⟨⟨rfl, h19⟩, rfl⟩ := hE; exact ⟨⟨3, List.Mem.tail _ (List.Mem.tail _ (List.Mem.head _)), by first | rfl | (simp only [h2, h4, h6, h8, h9, h14, eq_true h18, h19, backEC, backUC, bI, pM, pU, n10, n20, n30, n0, if_true, if_false, ite_true, ite_false, not_true_eq_false, not_false_eq_true, and_true, true_and, and_false, false_and, or_true, true_or, or_false, false_or, reduceIte, and_self, or_self, ne_eq, eq_self_iff_true]; first | done | rfl) | (simp [bI, h2, h4, h6, h8, h9, h14, eq_true h18, h19, backEC, backUC]; done) | (simp only [backEC, backUC, bI, ← Int32.not_le] at *; simp [h2, h4, h6, h8, h9, h14, eq_true h18, h19]; done) | (simp_all [bI, h2, h4, h6, h8, h9, h14, eq_true h18, h19, backEC, backUC]; done) | (simp_all [bI, h2, h4, h6, h8, h9, h14, eq_true h18, h19, backEC, backUC]; rfl) | (exfalso; omega)⟩, rfl⟩)) (fun h20 => ?_)
        exact absurd rfl h20
      · skip
        refine v_aload C dX7_back_58 rfl 0 rfl ?_
        refine v_iload_n C dX7_back_60 rfl 3 rfl ?_
        refine w_invVr C [.int (x)] 5 30 L_X7_210 (c_X3_percentOf (s := s) (t := t)  hst hG hL (tn y) x _ (in_nI (N := 12) (vp_cnt (x := x) (by assumption) hlm.p0 hm12 (by decide)) (by omega)) (in_lt (N := 12) (vp_cnt (x := x) (by assumption) hlm.p0 hm12 (by decide))) (hv_nm _ (by omega))) (m9 (s := s) (t := t) (g := G.2.2.1) hL (tn y) (hv_nm _ (by omega))) rfl rfl rfl rfl dX7_back_61 rfl kx_no (fun h21 => ?_)
        refine v_if_ne C (t := 93) dX7_back_64 rfl rfl (fun h22 => ?_) (fun h22 => ?_)
        · skip
          refine v_iconst C (v := 0) dX7_back_93 rfl rfl ?_
          refine w_invSv C [.int (0)] 6 36 L_X7_75 (c_X7_checkState (s := s) (t := t)  hst hG hL 0) rfl rfl rfl dX7_back_94 rfl (kx_out C (by decide) (fun E w1 hE => by obtain ⟨⟨rfl, h23⟩, rfl⟩ := hE; exact ⟨⟨3, List.Mem.tail _ (List.Mem.tail _ (List.Mem.head _)), by first | rfl | (simp only [h2, h4, h6, h8, h9, h14, h18, h22, h23, backEC, backUC, bI, pM, pU, n10, n20, n30, n0, if_true, if_false, ite_true, ite_false, not_true_eq_false, not_false_eq_true, and_true, true_and, and_false, false_and, or_true, true_or, or_false, false_or, reduceIte, and_self, or_self, ne_eq, eq_self_iff_true]; first | done | rfl) | (simp [bI, h2, h4, h6, h8, h9, h14, h18, h22, h23, backEC, backUC]; done) | (simp only [backEC, backUC, bI, ← Int32.not_le] at *; simp [h2, h4, h6, h8, h9, h14, h18, h22, h23]; done) | (simp_all [bI, h2, h4, h6, h8, h9, h14, h18, h22, h23, backEC, backUC]; done) | (simp_all [bI, h2, h4, h6, h8, h9, h14, h18, h22, h23, backEC, backUC]; rfl) | (exfalso; omega)⟩, rfl⟩)) (fun h24 => ?_)
          exact absurd rfl h24
        · skip
          refine v_aload C dX7_back_67 rfl 1 rfl ?_
          refine v_get C (v := .int (s 16 (tn x))) g_X7_194 (m9 (s := s) (t := t) (g := G.2.2.1) hL (tn x) (hv_nm _ (by omega))) (rg (by decide) rfl) dX7_back_69 rfl ?_
          refine v_iload C dX7_back_72 rfl 6 rfl ?_
          refine v_icmp_lt C (t := 93) dX7_back_74 rfl rfl (fun h25 => ?_) (fun h25 => ?_)
          · skip
            refine v_iconst C (v := 0) dX7_back_93 rfl rfl ?_
            refine w_invSv C [.int (0)] 6 36 L_X7_75 (c_X7_checkState (s := s) (t := t)  hst hG hL 0) rfl rfl rfl dX7_back_94 rfl (kx_out C (by decide) (fun E w1 hE => by obtain ⟨⟨rfl, h26⟩, rfl⟩ := hE; exact ⟨⟨3, List.Mem.tail _ (List.Mem.tail _ (List.Mem.head _)), by first | rfl | (simp only [h2, h4, h6, h8, h9, h14, h18, eq_true h22, h25, Int32.not_le.mpr h25, h26, backEC, backUC, bI, pM, pU, n10, n20, n30, n0, if_true, if_false, ite_true, ite_false, not_true_eq_false, not_false_eq_true, and_true, true_and, and_false, false_and, or_true, true_or, or_false, false_or, reduceIte, and_self, or_self, ne_eq, eq_self_iff_true]; first | done | rfl) | (simp [bI, h2, h4, h6, h8, h9, h14, h18, eq_true h22, h25, Int32.not_le.mpr h25, h26, backEC, backUC]; done) | (simp only [backEC, backUC, bI, ← Int32.not_le] at *; simp [h2, h4, h6, h8, h9, h14, h18, eq_true h22, h25, Int32.not_le.mpr h25, h26]; done) | (simp_all [bI, h2, h4, h6, h8, h9, h14, h18, eq_true h22, h25, Int32.not_le.mpr h25, h26, backEC, backUC]; done) | (simp_all [bI, h2, h4, h6, h8, h9, h14, h18, eq_true h22, h25, Int32.not_le.mpr h25, h26, backEC, backUC]; rfl) | (exfalso; omega)⟩, rfl⟩)) (fun h27 => ?_)
            exact absurd rfl h27
          · skip
            refine v_aload C dX7_back_77 rfl 0 rfl ?_
            refine w_invVr C [] 5 30 L_X7_213 (c_X3_percentBacked (s := s) (t := t)  hst hG hL (tn y) (hv_nm _ (by omega))) (m9 (s := s) (t := t) (g := G.2.2.1) hL (tn y) (hv_nm _ (by omega))) rfl rfl rfl rfl dX7_back_79 rfl kx_no (fun h28 => ?_)
            refine v_iload_n C dX7_back_82 rfl 5 rfl ?_
            refine v_iadd C dX7_back_83 rfl ?_
            refine v_bipush C (v := 100) dX7_back_84 rfl rfl ?_
            refine v_icmp_gt C (t := 93) dX7_back_86 rfl rfl (fun h29 => ?_) (fun h29 => ?_)
            · skip
              refine v_iconst C (v := 0) dX7_back_93 rfl rfl ?_
              refine w_invSv C [.int (0)] 6 36 L_X7_75 (c_X7_checkState (s := s) (t := t)  hst hG hL 0) rfl rfl rfl dX7_back_94 rfl (kx_out C (by decide) (fun E w1 hE => by obtain ⟨⟨rfl, h30⟩, rfl⟩ := hE; exact ⟨⟨3, List.Mem.tail _ (List.Mem.tail _ (List.Mem.head _)), by first | rfl | (simp only [h2, h4, h6, h8, h9, h14, h18, eq_true h22, h25, Int32.not_lt.mp h25, h29, Int32.not_le.mpr h29, h30, backEC, backUC, bI, pM, pU, n10, n20, n30, n0, if_true, if_false, ite_true, ite_false, not_true_eq_false, not_false_eq_true, and_true, true_and, and_false, false_and, or_true, true_or, or_false, false_or, reduceIte, and_self, or_self, ne_eq, eq_self_iff_true]; first | done | rfl) | (simp [bI, h2, h4, h6, h8, h9, h14, h18, eq_true h22, h25, Int32.not_lt.mp h25, h29, Int32.not_le.mpr h29, h30, backEC, backUC]; done) | (simp only [backEC, backUC, bI, ← Int32.not_le] at *; simp [h2, h4, h6, h8, h9, h14, h18, eq_true h22, h25, Int32.not_lt.mp h25, h29, Int32.not_le.mpr h29, h30]; done) | (simp_all [bI, h2, h4, h6, h8, h9, h14, h18, eq_true h22, h25, Int32.not_lt.mp h25, h29, Int32.not_le.mpr h29, h30, backEC, backUC]; done) | (simp_all [bI, h2, h4, h6, h8, h9, h14, h18, eq_true h22, h25, Int32.not_lt.mp h25, h29, Int32.not_le.mpr h29, h30, backEC, backUC]; rfl) | (exfalso; omega)⟩, rfl⟩)) (fun h31 => ?_)
              exact absurd rfl h31
            · skip
              refine v_iconst C (v := 1) dX7_back_89 rfl rfl ?_
              refine v_goto C (q := 94) dX7_back_90 rfl ?_
              refine w_invSv C [.int (1)] 6 36 L_X7_75 (c_X7_checkState (s := s) (t := t)  hst hG hL 1) rfl rfl rfl dX7_back_94 rfl (fun E w1 hE => absurd hE.1.2 (by decide)) (fun h32 => ?_)
              refine v_aload C dX7_back_97 rfl 1 rfl ?_
              refine v_dup C dX7_back_99 rfl rfl ?_
              refine v_get C (v := .int (s 16 (tn x))) g_X7_194 (m9 (s := s) (t := t) (g := G.2.2.1) hL (tn x) (hv_nm _ (by omega))) (rg (by decide) rfl) dX7_back_100 rfl ?_
              refine v_iload C dX7_back_103 rfl 6 rfl ?_
              refine v_isub C dX7_back_105 rfl ?_
              refine v_put C f_X7_194 (put_n (s := s) (t := t) (g := G.2.2.1) hL 5 (by decide) (by decide) (tn x) (hv_nm _ (by omega)) ((s 16 (tn x)) - m)) rfl rfl (rg_len (by decide)) dX7_back_106 rfl ?_
              refine xx_w (w' := wl a (E G.2.2.1 a (su s 16 (tn x) ((s 16 (tn x)) - m)) t) L) rfl ?_
              refine v_aload C dX7_back_109 rfl 0 rfl ?_
              refine v_dup C dX7_back_111 rfl rfl ?_
              refine v_get C (v := .int ((su s 16 (tn x) ((s 16 (tn x)) - m)) 16 (tn y))) g_X7_194 (m9 (s := ((su s 16 (tn x) ((s 16 (tn x)) - m)))) (t := t) (g := G.2.2.1) hL (tn y) (hv_nm _ (by omega))) (rg (by decide) rfl) dX7_back_112 rfl ?_
              refine v_iload C dX7_back_115 rfl 6 rfl ?_
              refine v_iadd C dX7_back_117 rfl ?_
              refine v_put C f_X7_194 (put_n (s := ((su s 16 (tn x) ((s 16 (tn x)) - m)))) (t := t) (g := G.2.2.1) hL 5 (by decide) (by decide) (tn y) (hv_nm _ (by omega)) (((su s 16 (tn x) ((s 16 (tn x)) - m)) 16 (tn y)) + m)) rfl rfl (rg_len (by decide)) dX7_back_118 rfl ?_
              refine xx_w (w' := wl a (E G.2.2.1 a (su (su s 16 (tn x) ((s 16 (tn x)) - m)) 16 (tn y) (((su s 16 (tn x) ((s 16 (tn x)) - m)) 16 (tn y)) + m)) t) L) rfl ?_
              refine v_aload C dX7_back_121 rfl 0 rfl ?_
              refine v_iload_n C dX7_back_123 rfl 3 rfl ?_
              refine v_iload_n C dX7_back_124 rfl 5 rfl ?_
              refine w_invVv C [.int (x), .int (p)] 6 36 L_X7_216 (c_X3_setPercent (s := ((su (su s 16 (tn x) ((s 16 (tn x)) - m)) 16 (tn y) (((su s 16 (tn x) ((s 16 (tn x)) - m)) 16 (tn y)) + m)))) (t := t)  hst hG hL (tn y) x _ (in_nI (N := 12) (vp_cnt (x := x) (by assumption) hlm.p0 hm12 (by decide)) (by omega)) (in_lt (N := 12) (vp_cnt (x := x) (by assumption) hlm.p0 hm12 (by decide))) p (hv_nm _ (by omega))) (m9 (s := ((su (su s 16 (tn x) ((s 16 (tn x)) - m)) 16 (tn y) (((su s 16 (tn x) ((s 16 (tn x)) - m)) 16 (tn y)) + m)))) (t := t) (g := G.2.2.1) hL (tn y) (hv_nm _ (by omega))) rfl rfl rfl rfl dX7_back_125 rfl kx_no (fun h33 => ?_)
              exact v_vret C (by decide) (by decide) dX7_back_128 ⟨rfl, by first | rfl | (simp only [h2, h4, h6, h8, h9, h14, h18, eq_true h22, h25, Int32.not_lt.mp h25, h29, Int32.not_lt.mp h29, backEC, backUC, bI, pM, pU, n10, n20, n30, n0, if_true, if_false, ite_true, ite_false, not_true_eq_false, not_false_eq_true, and_true, true_and, and_false, false_and, or_true, true_or, or_false, false_or, reduceIte, and_self, or_self, ne_eq, eq_self_iff_true]; first | done | rfl) | (simp [bI, h2, h4, h6, h8, h9, h14, h18, eq_true h22, h25, Int32.not_lt.mp h25, h29, Int32.not_lt.mp h29, backEC, backUC]; done) | (simp only [backEC, backUC, bI, ← Int32.not_le] at *; simp [h2, h4, h6, h8, h9, h14, h18, eq_true h22, h25, Int32.not_lt.mp h25, h29, Int32.not_lt.mp h29]; done) | (simp_all [bI, h2, h4, h6, h8, h9, h14, h18, eq_true h22, h25, Int32.not_lt.mp h25, h29, Int32.not_lt.mp h29, backEC, backUC]; done) | (simp_all [bI, h2, h4, h6, h8, h9, h14, h18, eq_true h22, h25, Int32.not_lt.mp h25, h29, Int32.not_lt.mp h29, backEC, backUC]; rfl) | (exfalso; omega), by first | assumption | first | rfl | (simp only [h2, h4, h6, h8, h9, h14, h18, eq_true h22, h25, Int32.not_lt.mp h25, h29, Int32.not_lt.mp h29, backEC, backUC, bI, pM, pU, n10, n20, n30, n0, if_true, if_false, ite_true, ite_false, not_true_eq_false, not_false_eq_true, and_true, true_and, and_false, false_and, or_true, true_or, or_false, false_or, reduceIte, and_self, or_self, ne_eq, eq_self_iff_true]; first | done | rfl) | (simp [bI, h2, h4, h6, h8, h9, h14, h18, eq_true h22, h25, Int32.not_lt.mp h25, h29, Int32.not_lt.mp h29, backEC, backUC]; done) | (simp only [backEC, backUC, bI, ← Int32.not_le] at *; simp [h2, h4, h6, h8, h9, h14, h18, eq_true h22, h25, Int32.not_lt.mp h25, h29, Int32.not_lt.mp h29]; done) | (simp_all [bI, h2, h4, h6, h8, h9, h14, h18, eq_true h22, h25, Int32.not_lt.mp h25, h29, Int32.not_lt.mp h29, backEC, backUC]; done) | (simp_all [bI, h2, h4, h6, h8, h9, h14, h18, eq_true h22, h25, Int32.not_lt.mp h25, h29, Int32.not_lt.mp h29, backEC, backUC]; rfl) | (exfalso; omega)⟩

abbrev r_X7_sell : Room := { frames := 8, cells := 3, slots := 18, locals := 124 }
set_option maxRecDepth 4000 in
theorem c_X7_sell {l : Launch} {G : GG} {a : AD} {s t s0 : SS} {L : List (Nat × Nat)} {nm : Nat} (hst : l.stackTraces = false) (hG : GOK G) (hL : Live L s0) (x : Int32) (d : Int32) (hlm : LsOK a s s0 0 nm) (hm12 : nm ≤ 12) (hv_nm : ∀ i, i < nm → i < tn (s0 12 0)) : Mth l yX7_sell cX7_sell 7 (Option.some Jvm.ClassFile.FieldType.int) r_X7_sell G (wl a (E G.2.2.1 a s t) L) [.ref (a 2 0), .int x, .int d] (RI (.int (sellRC s x d)) (wl a (E G.2.2.1 a (sellUC s x d) t) L) (sellE s x d = 0)) (XW (fun E => pE L3 (sellE s x d) E) (wl a (E G.2.2.1 a s t) L)) := by
  refine mth_of rfl (Nat.le_of_ble_eq_true rfl) hst hG (fun X hX C0 => ?_)
  subst hX
  have C : Cx X G cX7_sell 7 RX7 (Option.some Jvm.ClassFile.FieldType.int) r_X7_sell "sell" [] := C0
  clear C0
  show V X G 7 _ 0 0 _ 0 [(0, .ref (a 2 0)), (1, .int (x)), (2, .int (d))] []
  refine v_aload_n C dX7_sell_0 rfl 0 rfl ?_
  refine v_iload_n C dX7_sell_1 rfl 1 rfl ?_
  refine w_invVr C [.int (x)] 1 6 L_X7_108 (c_X7_minerAt (s := s) (t := t) (nm := nm) hst hG hL x hlm hm12 hv_nm) (m2 (s := s) (t := t) (g := G.2.2.1) hL) rfl rfl rfl rfl dX7_sell_2 rfl (kx_out C (by decide) (fun E w1 hE => by obtain ⟨⟨rfl, h1⟩, rfl⟩ := hE; exact ⟨⟨1, List.Mem.head _, by first | rfl | (simp only [h1, sellE, sellRC, sellUC, bI, pM, pU, n10, n20, n30, n0, if_true, if_false, ite_true, ite_false, not_true_eq_false, not_false_eq_true, and_true, true_and, and_false, false_and, or_true, true_or, or_false, false_or, reduceIte, and_self, or_self, ne_eq, eq_self_iff_true]; first | done | rfl) | (simp [bI, h1, sellE, sellRC, sellUC]; done) | (simp only [sellE, sellRC, sellUC, bI, ← Int32.not_le] at *; simp [h1]; done) | (simp_all [bI, h1, sellE, sellRC, sellUC]; done) | (simp_all [bI, h1, sellE, sellRC, sellUC]; rfl) | (exfalso; omega)⟩, rfl⟩)) (fun h2 => ?_)
  have lh2 : tn x < nm := in_lt (vp_cnt h2 hlm.p0 (Nat.le_refl _) (by omega))
  refine v_astore_n C (lv1 := [(3, .ref (a 9 (tn x))), (0, .ref (a 2 0)), (1, .int (x)), (2, .int (d))]) dX7_sell_5 rfl (by decide) rfl ?_
  refine v_iload_n C dX7_sell_6 rfl 3 rfl ?_
  refine v_iconst C (v := 1) dX7_sell_7 rfl rfl ?_
  refine v_ldc C (v := 1000000) dX7_sell_8 rfl N_X7_181 ?_
  refine w_invSv C [.int (d), .int (1), .int (1000000)] 2 12 L_X7_67 (c_X7_checkRange (s := s) (t := t)  hst hG hL d 1 1000000) rfl rfl rfl dX7_sell_10 rfl (kx_out C (by decide) (fun E w1 hE => by obtain ⟨⟨rfl, h3⟩, rfl⟩ := hE; exact ⟨⟨2, List.Mem.tail _ (List.Mem.head _), by first | rfl | (simp only [h2, h3, sellE, sellRC, sellUC, bI, pM, pU, n10, n20, n30, n0, if_true, if_false, ite_true, ite_false, not_true_eq_false, not_false_eq_true, and_true, true_and, and_false, false_and, or_true, true_or, or_false, false_or, reduceIte, and_self, or_self, ne_eq, eq_self_iff_true]; first | done | rfl) | (simp [bI, h2, h3, sellE, sellRC, sellUC]; done) | (simp only [sellE, sellRC, sellUC, bI, ← Int32.not_le] at *; simp [h2, h3]; done) | (simp_all [bI, h2, h3, sellE, sellRC, sellUC]; done) | (simp_all [bI, h2, h3, sellE, sellRC, sellUC]; rfl) | (exfalso; omega)⟩, rfl⟩)) (fun h4 => ?_)
  refine v_aload_n C dX7_sell_13 rfl 0 rfl ?_
  refine w_invVr C [] 2 12 L_X7_115 (c_X3_isDead (s := s) (t := t)  hst hG hL (tn x) (hv_nm _ (by omega))) (m9 (s := s) (t := t) (g := G.2.2.1) hL (tn x) (hv_nm _ (by omega))) rfl rfl rfl rfl dX7_sell_14 rfl kx_no (fun h5 => ?_)
  refine v_ifB_ne C (t := 32) dX7_sell_17 rfl rfl (fun h6 => ?_) (fun h6 => ?_)
  · skip
    refine v_iconst C (v := 0) dX7_sell_32 rfl rfl ?_
    refine w_invSv C [.int (0)] 3 18 L_X7_75 (c_X7_checkState (s := s) (t := t)  hst hG hL 0) rfl rfl rfl dX7_sell_33 rfl (kx_out C (by decide) (fun E w1 hE => by obtain ⟨⟨rfl, h7⟩, rfl⟩ := hE; exact ⟨⟨3, List.Mem.tail _ (List.Mem.tail _ (List.Mem.head _)), by first | rfl | (simp only [h2, h4, eq_true h6, h7, sellE, sellRC, sellUC, bI, pM, pU, n10, n20, n30, n0, if_true, if_false, ite_true, ite_false, not_true_eq_false, not_false_eq_true, and_true, true_and, and_false, false_and, or_true, true_or, or_false, false_or, reduceIte, and_self, or_self, ne_eq, eq_self_iff_true]; first | done | rfl) | (simp [bI, h2, h4, eq_true h6, h7, sellE, sellRC, sellUC]; done) | (simp only [sellE, sellRC, sellUC, bI, ← Int32.not_le] at *; simp [h2, h4, eq_true h6, h7]; done) | (simp_all [bI, h2, h4, eq_true h6, h7, sellE, sellRC, sellUC]; done) | (simp_all [bI, h2, h4, eq_true h6, h7, sellE, sellRC, sellUC]; rfl) | (exfalso; omega)⟩, rfl⟩)) (fun h8 => ?_)
    exact absurd rfl h8
  · skip
    refine v_aload_n C dX7_sell_20 rfl 0 rfl ?_
    refine w_invVr C [] 2 12 L_X7_182 (c_X3_dust (s := s) (t := t)  hst hG hL (tn x) (hv_nm _ (by omega))) (m9 (s := s) (t := t) (g := G.2.2.1) hL (tn x) (hv_nm _ (by omega))) rfl rfl rfl rfl dX7_sell_21 rfl kx_no (fun h9 => ?_)
    refine v_iload_n C dX7_sell_24 rfl 3 rfl ?_
    refine v_icmp_lt C (t := 32) dX7_sell_25 rfl rfl (fun h10 => ?_) (fun h10 => ?_)
    · skip
      refine v_iconst C (v := 0) dX7_sell_32 rfl rfl ?_
      refine w_invSv C [.int (0)] 3 18 L_X7_75 (c_X7_checkState (s := s) (t := t)  hst hG hL 0) rfl rfl rfl dX7_sell_33 rfl (kx_out C (by decide) (fun E w1 hE => by obtain ⟨⟨rfl, h11⟩, rfl⟩ := hE; exact ⟨⟨3, List.Mem.tail _ (List.Mem.tail _ (List.Mem.head _)), by first | rfl | (simp only [h2, h4, h6, h10, Int32.not_le.mpr h10, h11, sellE, sellRC, sellUC, bI, pM, pU, n10, n20, n30, n0, if_true, if_false, ite_true, ite_false, not_true_eq_false, not_false_eq_true, and_true, true_and, and_false, false_and, or_true, true_or, or_false, false_or, reduceIte, and_self, or_self, ne_eq, eq_self_iff_true]; first | done | rfl) | (simp [bI, h2, h4, h6, h10, Int32.not_le.mpr h10, h11, sellE, sellRC, sellUC]; done) | (simp only [sellE, sellRC, sellUC, bI, ← Int32.not_le] at *; simp [h2, h4, h6, h10, Int32.not_le.mpr h10, h11]; done) | (simp_all [bI, h2, h4, h6, h10, Int32.not_le.mpr h10, h11, sellE, sellRC, sellUC]; done) | (simp_all [bI, h2, h4, h6, h10, Int32.not_le.mpr h10, h11, sellE, sellRC, sellUC]; rfl) | (exfalso; omega)⟩, rfl⟩)) (fun h12 => ?_)
      exact absurd rfl h12
    · skip
      refine v_iconst C (v := 1) dX7_sell_28 rfl rfl ?_
      refine v_goto C (q := 33) dX7_sell_29 rfl ?_
      refine w_invSv C [.int (1)] 3 18 L_X7_75 (c_X7_checkState (s := s) (t := t)  hst hG hL 1) rfl rfl rfl dX7_sell_33 rfl (fun E w1 hE => absurd hE.1.2 (by decide)) (fun h13 => ?_)
      refine v_aload_n C dX7_sell_36 rfl 0 rfl ?_
      refine w_invVr C [] 3 18 L_X7_185 (c_X3_isSuspect (s := s) (t := t)  hst hG hL (tn x) (hv_nm _ (by omega))) (m9 (s := s) (t := t) (g := G.2.2.1) hL (tn x) (hv_nm _ (by omega))) rfl rfl rfl rfl dX7_sell_37 rfl kx_no (fun h14 => ?_)
      refine v_ifB_eq C (t := 55) dX7_sell_40 rfl rfl (fun h15 => ?_) (fun h15 => ?_)
      · skip
        refine v_aload_n C dX7_sell_55 rfl 0 rfl ?_
        refine v_iload_n C dX7_sell_56 rfl 3 rfl ?_
        refine w_invVr C [.int (d)] 3 18 L_X7_191 (c_X3_brassIn (s := s) (t := t)  hst hG hL (tn x) d (hv_nm _ (by omega))) (m9 (s := s) (t := t) (g := G.2.2.1) hL (tn x) (hv_nm _ (by omega))) rfl rfl rfl rfl dX7_sell_57 rfl kx_no (fun h16 => ?_)
        refine v_istore C (lv1 := [(4, .int (brC s (tn x) d)), (3, .ref (a 9 (tn x))), (0, .ref (a 2 0)), (1, .int (x)), (2, .int (d))]) dX7_sell_60 rfl (by decide) rfl ?_
        refine v_iload_n C dX7_sell_62 rfl 4 rfl ?_
        refine v_iload C dX7_sell_63 rfl 0 rfl ?_
        refine v_isub C dX7_sell_65 rfl ?_
        refine v_istore C (lv1 := [(5, .int (d - (brC s (tn x) d))), (4, .int (brC s (tn x) d)), (3, .ref (a 9 (tn x))), (0, .ref (a 2 0)), (1, .int (x)), (2, .int (d))]) dX7_sell_66 rfl (by decide) rfl ?_
        refine v_iload_n C dX7_sell_68 rfl 5 rfl ?_
        refine v_aload_n C dX7_sell_69 rfl 3 rfl ?_
        refine v_get C (v := .int (s 4 0)) g_X7_56 (m2 (s := s) (t := t) (g := G.2.2.1) hL) (rg (by decide) rfl) dX7_sell_70 rfl ?_
        refine v_imul C dX7_sell_73 rfl ?_
        refine v_bipush C (v := 10) dX7_sell_74 rfl rfl ?_
        refine v_idiv C dX7_sell_76 rfl (by decide) ?_
        refine v_istore C (lv1 := [(6, .int ((d * (s 4 0)) / 10)), (5, .int (d - (brC s (tn x) d))), (4, .int (brC s (tn x) d)), (3, .ref (a 9 (tn x))), (0, .ref (a 2 0)), (1, .int (x)), (2, .int (d))]) dX7_sell_77 rfl (by decide) rfl ?_
        refine v_aload_n C dX7_sell_79 rfl 3 rfl ?_
        refine v_dup C dX7_sell_80 rfl rfl ?_
        refine v_get C (v := .int (s 14 (tn x))) g_X7_178 (m9 (s := s) (t := t) (g := G.2.2.1) hL (tn x) (hv_nm _ (by omega))) (rg (by decide) rfl) dX7_sell_81 rfl ?_
        refine v_iload C dX7_sell_84 rfl 2 rfl ?_
        refine v_isub C dX7_sell_86 rfl ?_
        refine v_put C f_X7_178 (put_n (s := s) (t := t) (g := G.2.2.1) hL 3 (by decide) (by decide) (tn x) (hv_nm _ (by omega)) ((s 14 (tn x)) - (brC s (tn x) d))) rfl rfl (rg_len (by decide)) dX7_sell_87 rfl ?_
        refine xx_w (w' := wl a (E G.2.2.1 a (su s 14 (tn x) ((s 14 (tn x)) - (brC s (tn x) d))) t) L) rfl ?_
        refine v_aload_n C dX7_sell_90 rfl 3 rfl ?_
        refine v_dup C dX7_sell_91 rfl rfl ?_
        refine v_get C (v := .int (s 13 (tn x))) g_X7_166 (m9 (s := ((su s 14 (tn x) ((s 14 (tn x)) - (brC s (tn x) d))))) (t := t) (g := G.2.2.1) hL (tn x) (hv_nm _ (by omega))) (rg (by decide) rfl) dX7_sell_92 rfl ?_
        refine v_iload C dX7_sell_95 rfl 1 rfl ?_
        refine v_isub C dX7_sell_97 rfl ?_
        refine v_put C f_X7_166 (put_n (s := ((su s 14 (tn x) ((s 14 (tn x)) - (brC s (tn x) d))))) (t := t) (g := G.2.2.1) hL 2 (by decide) (by decide) (tn x) (hv_nm _ (by omega)) ((s 13 (tn x)) - (d - (brC s (tn x) d)))) rfl rfl (rg_len (by decide)) dX7_sell_98 rfl ?_
        refine xx_w (w' := wl a (E G.2.2.1 a (su (su s 14 (tn x) ((s 14 (tn x)) - (brC s (tn x) d))) 13 (tn x) ((s 13 (tn x)) - (d - (brC s (tn x) d)))) t) L) rfl ?_
        refine v_aload_n C dX7_sell_101 rfl 3 rfl ?_
        refine v_dup C dX7_sell_102 rfl rfl ?_
        refine v_get C (v := .int (s 16 (tn x))) g_X7_194 (m9 (s := ((su (su s 14 (tn x) ((s 14 (tn x)) - (brC s (tn x) d))) 13 (tn x) ((s 13 (tn x)) - (d - (brC s (tn x) d)))))) (t := t) (g := G.2.2.1) hL (tn x) (hv_nm _ (by omega))) (rg (by decide) rfl) dX7_sell_103 rfl ?_
        refine v_iload C dX7_sell_106 rfl 0 rfl ?_
        refine v_iadd C dX7_sell_108 rfl ?_
        refine v_put C f_X7_194 (put_n (s := ((su (su s 14 (tn x) ((s 14 (tn x)) - (brC s (tn x) d))) 13 (tn x) ((s 13 (tn x)) - (d - (brC s (tn x) d)))))) (t := t) (g := G.2.2.1) hL 5 (by decide) (by decide) (tn x) (hv_nm _ (by omega)) ((s 16 (tn x)) + ((d * (s 4 0)) / 10))) rfl rfl (rg_len (by decide)) dX7_sell_109 rfl ?_
        refine xx_w (w' := wl a (E G.2.2.1 a (su (su (su s 14 (tn x) ((s 14 (tn x)) - (brC s (tn x) d))) 13 (tn x) ((s 13 (tn x)) - (d - (brC s (tn x) d)))) 16 (tn x) ((s 16 (tn x)) + ((d * (s 4 0)) / 10))) t) L) rfl ?_
        refine v_aload_n C dX7_sell_112 rfl 4 rfl ?_
        refine v_dup C dX7_sell_113 rfl rfl ?_
        refine v_get C (v := .int (s 7 0)) g_X7_59 (m2 (s := ((su (su (su s 14 (tn x) ((s 14 (tn x)) - (brC s (tn x) d))) 13 (tn x) ((s 13 (tn x)) - (d - (brC s (tn x) d)))) 16 (tn x) ((s 16 (tn x)) + ((d * (s 4 0)) / 10))))) (t := t) (g := G.2.2.1) hL) (rg (by decide) rfl) dX7_sell_114 rfl ?_
        refine v_iload C dX7_sell_117 rfl 1 rfl ?_
        refine v_iadd C dX7_sell_119 rfl ?_
        refine v_put C f_X7_59 (put_c (s := ((su (su (su s 14 (tn x) ((s 14 (tn x)) - (brC s (tn x) d))) 13 (tn x) ((s 13 (tn x)) - (d - (brC s (tn x) d)))) 16 (tn x) ((s 16 (tn x)) + ((d * (s 4 0)) / 10))))) (t := t) (g := G.2.2.1) hL 11 (by decide) (by decide) ((s 7 0) + (d - (brC s (tn x) d)))) rfl rfl (rg_len (by decide)) dX7_sell_120 rfl ?_
        refine xx_w (w' := wl a (E G.2.2.1 a (su (su (su (su s 14 (tn x) ((s 14 (tn x)) - (brC s (tn x) d))) 13 (tn x) ((s 13 (tn x)) - (d - (brC s (tn x) d)))) 16 (tn x) ((s 16 (tn x)) + ((d * (s 4 0)) / 10))) 7 0 ((s 7 0) + (d - (brC s (tn x) d)))) t) L) rfl ?_
        refine v_iload C dX7_sell_123 rfl 0 rfl ?_
        exact v_iret C (by decide) (by decide) dX7_sell_125 ⟨congrArg (fun z => some (Value.int z)) (by first | rfl | (simp only [h2, h4, h6, h10, Int32.not_lt.mp h10, h15, sellE, sellRC, sellUC, bI, pM, pU, n10, n20, n30, n0, if_true, if_false, ite_true, ite_false, not_true_eq_false, not_false_eq_true, and_true, true_and, and_false, false_and, or_true, true_or, or_false, false_or, reduceIte, and_self, or_self, ne_eq, eq_self_iff_true]; first | done | rfl) | (simp [bI, h2, h4, h6, h10, Int32.not_lt.mp h10, h15, sellE, sellRC, sellUC]; done) | (simp only [sellE, sellRC, sellUC, bI, ← Int32.not_le] at *; simp [h2, h4, h6, h10, Int32.not_lt.mp h10, h15]; done) | (simp_all [bI, h2, h4, h6, h10, Int32.not_lt.mp h10, h15, sellE, sellRC, sellUC]; done) | (simp_all [bI, h2, h4, h6, h10, Int32.not_lt.mp h10, h15, sellE, sellRC, sellUC]; rfl) | (exfalso; omega)), by first | rfl | (simp only [h2, h4, h6, h10, Int32.not_lt.mp h10, h15, sellE, sellRC, sellUC, bI, pM, pU, n10, n20, n30, n0, if_true, if_false, ite_true, ite_false, not_true_eq_false, not_false_eq_true, and_true, true_and, and_false, false_and, or_true, true_or, or_false, false_or, reduceIte, and_self, or_self, ne_eq, eq_self_iff_true]; first | done | rfl) | (simp [bI, h2, h4, h6, h10, Int32.not_lt.mp h10, h15, sellE, sellRC, sellUC]; done) | (simp only [sellE, sellRC, sellUC, bI, ← Int32.not_le] at *; simp [h2, h4, h6, h10, Int32.not_lt.mp h10, h15]; done) | (simp_all [bI, h2, h4, h6, h10, Int32.not_lt.mp h10, h15, sellE, sellRC, sellUC]; done) | (simp_all [bI, h2, h4, h6, h10, Int32.not_lt.mp h10, h15, sellE, sellRC, sellUC]; rfl) | (exfalso; omega), by first | assumption | first | rfl | (simp only [h2, h4, h6, h10, Int32.not_lt.mp h10, h15, sellE, sellRC, sellUC, bI, pM, pU, n10, n20, n30, n0, if_true, if_false, ite_true, ite_false, not_true_eq_false, not_false_eq_true, and_true, true_and, and_false, false_and, or_true, true_or, or_false, false_or, reduceIte, and_self, or_self, ne_eq, eq_self_iff_true]; first | done | rfl) | (simp [bI, h2, h4, h6, h10, Int32.not_lt.mp h10, h15, sellE, sellRC, sellUC]; done) | (simp only [sellE, sellRC, sellUC, bI, ← Int32.not_le] at *; simp [h2, h4, h6, h10, Int32.not_lt.mp h10, h15]; done) | (simp_all [bI, h2, h4, h6, h10, Int32.not_lt.mp h10, h15, sellE, sellRC, sellUC]; done) | (simp_all [bI, h2, h4, h6, h10, Int32.not_lt.mp h10, h15, sellE, sellRC, sellUC]; rfl) | (exfalso; omega)⟩
      · skip
        refine v_aload_n C dX7_sell_43 rfl 0 rfl ?_
        refine v_dup C dX7_sell_44 rfl rfl ?_
        refine v_get C (v := .int (s 18 (tn x))) g_X7_188 (m9 (s := s) (t := t) (g := G.2.2.1) hL (tn x) (hv_nm _ (by omega))) (rg (by decide) rfl) dX7_sell_45 rfl ?_
        refine v_iconst C (v := 1) dX7_sell_48 rfl rfl ?_
        refine v_iadd C dX7_sell_49 rfl ?_
        refine v_put C f_X7_188 (put_n (s := s) (t := t) (g := G.2.2.1) hL 7 (by decide) (by decide) (tn x) (hv_nm _ (by omega)) ((s 18 (tn x)) + 1)) rfl rfl (rg_len (by decide)) dX7_sell_50 rfl ?_
        refine xx_w (w' := wl a (E G.2.2.1 a (su s 18 (tn x) ((s 18 (tn x)) + 1)) t) L) rfl ?_
        refine v_iconst C (v := (-1)) dX7_sell_53 rfl rfl ?_
        exact v_iret C (by decide) (by decide) dX7_sell_54 ⟨congrArg (fun z => some (Value.int z)) (by first | rfl | (simp only [h2, h4, h6, h10, Int32.not_lt.mp h10, h15, sellE, sellRC, sellUC, bI, pM, pU, n10, n20, n30, n0, if_true, if_false, ite_true, ite_false, not_true_eq_false, not_false_eq_true, and_true, true_and, and_false, false_and, or_true, true_or, or_false, false_or, reduceIte, and_self, or_self, ne_eq, eq_self_iff_true]; first | done | rfl) | (simp [bI, h2, h4, h6, h10, Int32.not_lt.mp h10, h15, sellE, sellRC, sellUC]; done) | (simp only [sellE, sellRC, sellUC, bI, ← Int32.not_le] at *; simp [h2, h4, h6, h10, Int32.not_lt.mp h10, h15]; done) | (simp_all [bI, h2, h4, h6, h10, Int32.not_lt.mp h10, h15, sellE, sellRC, sellUC]; done) | (simp_all [bI, h2, h4, h6, h10, Int32.not_lt.mp h10, h15, sellE, sellRC, sellUC]; rfl) | (exfalso; omega)), by first | rfl | (simp only [h2, h4, h6, h10, Int32.not_lt.mp h10, h15, sellE, sellRC, sellUC, bI, pM, pU, n10, n20, n30, n0, if_true, if_false, ite_true, ite_false, not_true_eq_false, not_false_eq_true, and_true, true_and, and_false, false_and, or_true, true_or, or_false, false_or, reduceIte, and_self, or_self, ne_eq, eq_self_iff_true]; first | done | rfl) | (simp [bI, h2, h4, h6, h10, Int32.not_lt.mp h10, h15, sellE, sellRC, sellUC]; done) | (simp only [sellE, sellRC, sellUC, bI, ← Int32.not_le] at *; simp [h2, h4, h6, h10, Int32.not_lt.mp h10, h15]; done) | (simp_all [bI, h2, h4, h6, h10, Int32.not_lt.mp h10, h15, sellE, sellRC, sellUC]; done) | (simp_all [bI, h2, h4, h6, h10, Int32.not_lt.mp h10, h15, sellE, sellRC, sellUC]; rfl) | (exfalso; omega), by first | assumption | first | rfl | (simp only [h2, h4, h6, h10, Int32.not_lt.mp h10, h15, sellE, sellRC, sellUC, bI, pM, pU, n10, n20, n30, n0, if_true, if_false, ite_true, ite_false, not_true_eq_false, not_false_eq_true, and_true, true_and, and_false, false_and, or_true, true_or, or_false, false_or, reduceIte, and_self, or_self, ne_eq, eq_self_iff_true]; first | done | rfl) | (simp [bI, h2, h4, h6, h10, Int32.not_lt.mp h10, h15, sellE, sellRC, sellUC]; done) | (simp only [sellE, sellRC, sellUC, bI, ← Int32.not_le] at *; simp [h2, h4, h6, h10, Int32.not_lt.mp h10, h15]; done) | (simp_all [bI, h2, h4, h6, h10, Int32.not_lt.mp h10, h15, sellE, sellRC, sellUC]; done) | (simp_all [bI, h2, h4, h6, h10, Int32.not_lt.mp h10, h15, sellE, sellRC, sellUC]; rfl) | (exfalso; omega)⟩

