def sumN (f : Nat → Int32) : Nat → Int32
  | 0 => 0
  | i + 1 => sumN f i + f i
def livN (z : SS) (n : Nat) : Int32 := sumN (fun i => if z 17 i = 0 then 0 else 1) n
/-- the latest claim that is held and has the cell -/
def heldM (z : SS) (x : Int32) : Nat → Int32
  | 0 => -1
  | i + 1 => if ¬ z 25 i = 0 ∧ (z 23 i ≤ x ∧ x ≤ z 23 i + z 24 i - 1) then nI i else heldM z x i
def freeM (z : SS) (c nc : Nat) : Nat → Int32
  | 0 => 1
  | i + 1 => if freeM z c nc i = 0 then 0 else if heldM z (nI (c + i)) nc = -1 then 1 else 0
def minF (x y : Int32) : Int32 := if x < y then x else y
def lfW (z : SS) : Nat → Int32
  | 0 => z 1 0
  | i + 1 => lfW z i - (if z 17 (tn (z 34 i)) = 0 then 0 else minF (z 35 i) (lfW z i))
def gvW (z : SS) : Nat → Int32
  | 0 => 0
  | i + 1 => if z 17 (tn (z 34 i)) = 0 then 0 else minF (z 35 i) (lfW z i)
def inW (z : SS) (x : Int32) (n : Nat) : Int32 := sumN (fun i => if z 34 i = x then gvW z (i + 1) else 0) n
def needF (m : Int32) : Int32 := if m = 0 then 0 else if m = 1 then 2 else if m = 2 then 10 else 40
def mostF (m : Int32) : Int32 := if m = 0 then 20 else if m = 1 then 100 else if m = 2 then 400 else 2000
def hundF (m : Int32) : Int32 := if m = 0 then 90 else if m = 1 then 70 else if m = 2 then 80 else 50
def takF (m g : Int32) : Int32 := minF g (mostF m)
def recF (m g c : Int32) : Int32 := minF g (mostF m) * (hundF m - 3 * c) / 100
def shW (z : SS) (j : Nat) (m : Int32) : Nat → SS
  | 0 => z
  | b + 1 => su (shW z j m b) 13 b (shW z j m b 13 b + m * z 20 (12 * j + b) / 100)
def shL (z : SS) (j : Nat) (m : Int32) : Nat → Int32
  | 0 => m
  | b + 1 => shL z j m b - m * z 20 (12 * j + b) / 100
theorem shW_o {z : SS} {j : Nat} {m : Int32} {k : Nat} (h : k ≠ 13) : ∀ n, shW z j m n k = z k
  | 0 => rfl
  | n + 1 => by rw [shW, su_o h, shW_o h n]
def shaF (z : SS) (j : Nat) (m : Int32) (n : Nat) : SS := su (shW z j m n) 13 j (shW z j m n 13 j + shL z j m n)
def mayF (z : SS) (nc : Nat) (x c m : Int32) : Int32 := if heldM z c nc = -1 then (if m = 0 then 1 else 0) else if z 22 (tn (heldM z c nc)) = x then 1 else 0
theorem heldM_in {z : SS} {x : Int32} : ∀ n, heldM z x n = -1 ∨ ∃ i, i < n ∧ heldM z x n = nI i
  | 0 => Or.inl rfl
  | n + 1 => by
    unfold heldM
    split
    · exact Or.inr ⟨n, by omega, rfl⟩
    · rcases heldM_in n with h | ⟨i, hi, h⟩
      · exact Or.inl h
      · exact Or.inr ⟨i, by omega, h⟩
theorem heldM_vp {z : SS} {x : Int32} {n : Nat} (h : ¬ heldM z x n = -1) (hn : n ≤ 30) : vp_in (heldM z x n) 30 := by
  rcases heldM_in (z := z) (x := x) n with h1 | ⟨i, hi, h1⟩
  · exact absurd h1 h
  · rw [h1]; exact vp_in_nI (by omega) (by omega)
def eatF (z : SS) (j : Nat) : SS := if 0 < z 15 j then su (su z 15 j (z 15 j - 1)) 17 j (minF (z 17 j + 1) 10) else su z 17 j (if z 17 j < 2 then 0 else z 17 j - 2)
def sltW (z : SS) (c : Nat) : Nat → Int32
  | 0 => 0
  | k + 1 => if ¬ sltW z c k = 0 then 1 else if (z 40 k = z 29 c ∧ (z 23 c ≤ z 41 k ∧ z 41 k ≤ z 23 c + z 24 c - 1)) ∧ (z 32 c - 30 ≤ z 42 k ∧ z 42 k ≤ z 32 c) then 1 else 0
theorem freeM_z {z : SS} {c nc : Nat} : ∀ {n : Nat}, narrow .boolean (.int (freeM z c nc n)) = .int (freeM z c nc n)
  | 0 => by unfold freeM; rfl
  | n + 1 => by
    unfold freeM
    split
    · rfl
    · split <;> rfl
theorem sltW_z {z : SS} {c : Nat} : ∀ {n : Nat}, narrow .boolean (.int (sltW z c n)) = .int (sltW z c n)
  | 0 => by unfold sltW; rfl
  | n + 1 => by
    unfold sltW
    split
    · rfl
    · split <;> rfl
theorem heldM_c {z z' : SS} {x : Int32} (h25 : z' 25 = z 25) (h23 : z' 23 = z 23) (h24 : z' 24 = z 24) : ∀ n, heldM z' x n = heldM z x n
  | 0 => rfl
  | n + 1 => by unfold heldM; rw [h25, h23, h24, heldM_c h25 h23 h24 n]
theorem heldM_45 {z : SS} {e : Int32} {x : Int32} {n : Nat} : heldM (su z 45 0 e) x n = heldM z x n := heldM_c (z := z) (z' := su z 45 0 e) rfl rfl rfl n
theorem lfW_c {z z' : SS} (h1 : z' 1 = z 1) (h17 : z' 17 = z 17) (h34 : z' 34 = z 34) (h35 : z' 35 = z 35) : ∀ n, lfW z' n = lfW z n
  | 0 => by unfold lfW; rw [h1]
  | n + 1 => by unfold lfW; rw [h17, h34, h35, lfW_c h1 h17 h34 h35 n]
theorem gvW_c {z z' : SS} (h1 : z' 1 = z 1) (h17 : z' 17 = z 17) (h34 : z' 34 = z 34) (h35 : z' 35 = z 35) : ∀ n, gvW z' n = gvW z n
  | 0 => rfl
  | n + 1 => by simp only [gvW, h17, h34, h35, lfW_c h1 h17 h34 h35 n]
theorem gvW_45 {z : SS} {e : Int32} {n : Nat} : gvW (su z 45 0 e) n = gvW z n := gvW_c (z := z) (z' := su z 45 0 e) rfl rfl rfl rfl n
theorem inW_c {z z' : SS} {x : Int32} (h1 : z' 1 = z 1) (h17 : z' 17 = z 17) (h34 : z' 34 = z 34) (h35 : z' 35 = z 35) (n : Nat) : inW z' x n = inW z x n := by
  unfold inW
  congr 1
  funext i
  rw [h34, gvW_c h1 h17 h34 h35]
theorem inW_45 {z : SS} {e x : Int32} {n : Nat} : inW (su z 45 0 e) x n = inW z x n := inW_c (z := z) (z' := su z 45 0 e) rfl rfl rfl rfl n
theorem sltW_c {z z' : SS} {c : Nat} (h23 : z' 23 = z 23) (h24 : z' 24 = z 24) (h29 : z' 29 = z 29) (h32 : z' 32 = z 32) (h40 : z' 40 = z 40) (h41 : z' 41 = z 41) (h42 : z' 42 = z 42) : ∀ n, sltW z' c n = sltW z c n
  | 0 => rfl
  | n + 1 => by unfold sltW; rw [h23, h24, h29, h32, h40, h41, h42, sltW_c h23 h24 h29 h32 h40 h41 h42 n]
theorem livN_45 {z : SS} {e : Int32} {n : Nat} : livN (su z 45 0 e) n = livN z n := rfl
theorem sum9_45 {z : SS} {e : Int32} {n : Nat} : sumN ((su z 45 0 e) 9) n = sumN (z 9) n := rfl
theorem sum13_45 {z : SS} {e : Int32} {n : Nat} : sumN ((su z 45 0 e) 13) n = sumN (z 13) n := rfl
theorem ix144 {x y : Int32} (hx : vp_in x 12) (hy : vp_in y 12) : vp_in (12 * y + x) 144 ∧ (12 * y + x).toNatClampNeg = 12 * tn y + tn x := by
  obtain ⟨i, hi, rfl⟩ := vp_in_of hx (by omega)
  obtain ⟨j, hj, rfl⟩ := vp_in_of hy (by omega)
  have e1 : tn (nI i) = i := nI_clamp (by omega)
  have e2 : tn (nI j) = j := nI_clamp (by omega)
  rw [e1, e2, show (12 : Int32) = nI 12 from rfl, pk_mul, nI_add]
  exact ⟨vp_in_nI (by omega) (by omega), nI_clamp (by omega)⟩
def brF (d b a : Int32) : Int32 := (d.toInt64 * b.toInt64 / a.toInt64).toInt32
def payF (d r : Int32) : Int32 := (d.toInt64 * r.toInt64 / 10).toInt32
theorem i64_ne {x d : Int32} (h1 : (1 : Int32) ≤ d) (h2 : d ≤ x) : ¬ x.toInt64 = 0 := by
  intro h
  have h3 : x.toInt64.toInt = 0 := by rw [h]; rfl
  rw [Int32.toInt_toInt64] at h3
  have h4 := Int32.le_iff_toInt_le.mp h1
  have h5 := Int32.le_iff_toInt_le.mp h2
  have h6 : (1 : Int32).toInt = 1 := by decide
  omega
theorem vp_up {x : Int32} {n N : Nat} (h : vp_in x n) (hn : n ≤ N) : vp_in x N := by
  rw [vp_in_iff] at h ⊢
  omega
theorem sltW_su {z : SS} {c n i : Nat} {v e : Int32} : sltW (su (su z 45 0 e) 28 i v) c n = sltW z c n := sltW_c (z := z) (z' := su (su z 45 0 e) 28 i v) rfl rfl rfl rfl rfl rfl rfl n
theorem sltW_45 {z : SS} {c n : Nat} {e : Int32} : sltW (su z 45 0 e) c n = sltW z c n := sltW_c (z := z) (z' := su z 45 0 e) rfl rfl rfl rfl rfl rfl rfl n

abbrev r_X8_living : Room := { frames := 1, cells := 0, slots := 0, locals := 21 }
set_option maxRecDepth 4000 in
theorem c_X8_living {l : Launch} {G : GG} {a : AD} {s t s0 : SS} {L : List (Nat × Nat)} {nm : Nat} (hst : l.stackTraces = false) (hG : GOK G) (hL : Live L s0)  (hm : t 12 0 = nI nm) (hm12 : nm ≤ 12) : Mth l yX8_living cX8_living 3 (Option.some Jvm.ClassFile.FieldType.int) r_X8_living G (wl a (E G.2.2.1 a s t) L) [.ref (a 0 0)] (RI (.int (livN t nm)) (wl a (E G.2.2.1 a s t) L) (True)) nX := by
  refine mth_of rfl (Nat.le_of_ble_eq_true rfl) hst hG (fun X hX C0 => ?_)
  subst hX
  have C : Cx X G cX8_living 3 RX8 (Option.some Jvm.ClassFile.FieldType.int) r_X8_living "living" [] := C0
  clear C0
  show V X G 3 _ 0 0 _ 0 [(0, .ref (a 0 0))] []
  refine v_iconst C (v := 0) dX8_living_0 rfl rfl ?_
  refine v_istore_n C (lv1 := [(1, .int (0)), (0, .ref (a 0 0))]) dX8_living_1 rfl (by decide) rfl ?_
  refine v_iconst C (v := 0) dX8_living_2 rfl rfl ?_
  refine v_istore_n C (lv1 := [(2, .int (0)), (1, .int (0)), (0, .ref (a 0 0))]) dX8_living_3 rfl (by decide) rfl ?_
  refine xx_lv [2, 1, 0] (lv' := [(0, .ref (a 0 0)), (1, .int (0)), (2, .int (0))]) rfl ?_
  refine xx_wc (w2 := wl a (E G.2.2.1 a s t) L) (lv' := [(0, .ref (a 0 0)), (1, .int (livN t 0)), (2, .int (nI (0)))]) (by rfl) (by first | rfl | (simp [bI, livN, sumN]; done)) ?_
  refine xx_loop (nm) 0 (fun i => wl a (E G.2.2.1 a s t) L) (fun i => [(0, .ref (a 0 0)), (1, .int (livN t i)), (2, .int (nI (i)))]) (by omega) ?_
  intro i hi0 hiN ih_i
  refine v_iload_n C dX8_living_4 rfl 2 rfl ?_
  refine v_aload_n C dX8_living_5 rfl 0 rfl ?_
  refine v_get C (v := .int (t 12 0)) g_X8_127 (m0 (s := s) (t := t) (g := G.2.2.1) hL) (rg (by decide) rfl) dX8_living_6 rfl ?_
  refine xx_top (y := nI nm) hm ?_
  refine v_icN_ge C (t := 34) i nm rfl rfl (by omega) (by omega) dX8_living_9 rfl rfl (fun h1 => ?_) (fun h1 => ?_)
  · skip
    refine v_iload_n C dX8_living_34 rfl 1 rfl ?_
    exact v_iret C (by decide) (by decide) dX8_living_35 ⟨congrArg (fun z => some (Value.int z)) (by (have : i = nm := by omega); subst this; rfl), by rfl, by trivial⟩
  · skip
    refine v_iload_n C dX8_living_12 rfl 1 rfl ?_
    refine v_aload_n C dX8_living_13 rfl 0 rfl ?_
    refine v_iload_n C dX8_living_14 rfl 2 rfl ?_
    refine w_invVr C [.int (nI (i))] 0 0 L_X8_155 (c_X8_isDead (s := s) (t := t)  hst hG hL (nI (i)) i rfl (by omega)) (m0 (s := s) (t := t) (g := G.2.2.1) hL) rfl rfl rfl rfl dX8_living_15 rfl kx_no (fun h2 => ?_)
    refine v_ifB_eq C (t := 25) dX8_living_18 rfl rfl (fun h3 => ?_) (fun h3 => ?_)
    · skip
      refine v_iconst C (v := 1) dX8_living_25 rfl rfl ?_
      refine v_iadd C dX8_living_26 rfl ?_
      refine v_istore_n C (lv1 := [(1, .int ((livN t i) + 1)), (0, .ref (a 0 0)), (2, .int (nI (i)))]) dX8_living_27 rfl (by decide) rfl ?_
      refine v_iincN C (lv1 := [(2, .int (nI (i + 1))), (1, .int ((livN t i) + 1)), (0, .ref (a 0 0))]) i rfl dX8_living_28 rfl 2 rfl (by decide) rfl ?_
      refine v_goto C (q := 4) dX8_living_31 rfl ?_
      refine xx_lv [2, 1, 0] (lv' := [(0, .ref (a 0 0)), (1, .int ((livN t i) + 1)), (2, .int (nI (i + 1)))]) rfl ?_
      refine xx_wc (w2 := wl a (E G.2.2.1 a s t) L) (lv' := [(0, .ref (a 0 0)), (1, .int (livN t (i + 1))), (2, .int (nI (i + 1)))]) (by rfl) (by first | rfl | (simp [h1, Nat.not_le.mpr h1, h3, livN, sumN, Nat.add_assoc])) ?_
      exact ih_i (by omega)
    · skip
      refine v_iconst C (v := 0) dX8_living_21 rfl rfl ?_
      refine v_goto C (q := 26) dX8_living_22 rfl ?_
      refine v_iadd C dX8_living_26 rfl ?_
      refine v_istore_n C (lv1 := [(1, .int ((livN t i) + 0)), (0, .ref (a 0 0)), (2, .int (nI (i)))]) dX8_living_27 rfl (by decide) rfl ?_
      refine v_iincN C (lv1 := [(2, .int (nI (i + 1))), (1, .int ((livN t i) + 0)), (0, .ref (a 0 0))]) i rfl dX8_living_28 rfl 2 rfl (by decide) rfl ?_
      refine v_goto C (q := 4) dX8_living_31 rfl ?_
      refine xx_lv [2, 1, 0] (lv' := [(0, .ref (a 0 0)), (1, .int ((livN t i) + 0)), (2, .int (nI (i + 1)))]) rfl ?_
      refine xx_wc (w2 := wl a (E G.2.2.1 a s t) L) (lv' := [(0, .ref (a 0 0)), (1, .int (livN t (i + 1))), (2, .int (nI (i + 1)))]) (by rfl) (by first | rfl | (simp [h1, Nat.not_le.mpr h1, eq_true h3, livN, sumN, Nat.add_assoc])) ?_
      exact ih_i (by omega)

abbrev r_X8_heldAt : Room := { frames := 1, cells := 0, slots := 0, locals := 22 }
set_option maxRecDepth 4000 in
theorem c_X8_heldAt {l : Launch} {G : GG} {a : AD} {s t s0 : SS} {L : List (Nat × Nat)} {nc : Nat} (hst : l.stackTraces = false) (hG : GOK G) (hL : Live L s0) (x : Int32) (hc : t 21 0 = nI nc) (hc30 : nc ≤ 30) : Mth l yX8_heldAt cX8_heldAt 4 (Option.some Jvm.ClassFile.FieldType.int) r_X8_heldAt G (wl a (E G.2.2.1 a s t) L) [.ref (a 0 0), .int x] (RI (.int (heldM t x nc)) (wl a (E G.2.2.1 a s t) L) (True)) nX := by
  refine mth_of rfl (Nat.le_of_ble_eq_true rfl) hst hG (fun X hX C0 => ?_)
  subst hX
  have C : Cx X G cX8_heldAt 4 RX8 (Option.some Jvm.ClassFile.FieldType.int) r_X8_heldAt "heldAt" [] := C0
  clear C0
  show V X G 4 _ 0 0 _ 0 [(0, .ref (a 0 0)), (1, .int (x))] []
  refine v_iconst C (v := (-1)) dX8_heldAt_0 rfl rfl ?_
  refine v_istore_n C (lv1 := [(2, .int ((-1))), (0, .ref (a 0 0)), (1, .int (x))]) dX8_heldAt_1 rfl (by decide) rfl ?_
  refine v_iconst C (v := 0) dX8_heldAt_2 rfl rfl ?_
  refine v_istore_n C (lv1 := [(3, .int (0)), (2, .int ((-1))), (0, .ref (a 0 0)), (1, .int (x))]) dX8_heldAt_3 rfl (by decide) rfl ?_
  refine xx_lv [2, 3, 1, 0] (lv' := [(0, .ref (a 0 0)), (1, .int (x)), (2, .int ((-1))), (3, .int (0))]) rfl ?_
  refine xx_wc (w2 := wl a (E G.2.2.1 a s t) L) (lv' := [(0, .ref (a 0 0)), (1, .int (x)), (2, .int (heldM t x 0)), (3, .int (nI (0)))]) (by rfl) (by first | rfl | (simp [bI, heldM]; done)) ?_
  refine xx_loop (nc) 0 (fun i => wl a (E G.2.2.1 a s t) L) (fun i => [(0, .ref (a 0 0)), (1, .int (x)), (2, .int (heldM t x i)), (3, .int (nI (i)))]) (by omega) ?_
  intro i hi0 hiN ih_i
  refine v_iload_n C dX8_heldAt_4 rfl 3 rfl ?_
  refine v_aload_n C dX8_heldAt_5 rfl 0 rfl ?_
  refine v_get C (v := .int (t 21 0)) g_X8_130 (m0 (s := s) (t := t) (g := G.2.2.1) hL) (rg (by decide) rfl) dX8_heldAt_6 rfl ?_
  refine xx_top (y := nI nc) hc ?_
  refine v_icN_ge C (t := 61) i nc rfl rfl (by omega) (by omega) dX8_heldAt_9 rfl rfl (fun h1 => ?_) (fun h1 => ?_)
  · skip
    refine v_iload_n C dX8_heldAt_61 rfl 2 rfl ?_
    exact v_iret C (by decide) (by decide) dX8_heldAt_62 ⟨congrArg (fun z => some (Value.int z)) (by (have : i = nc := by omega); subst this; rfl), by rfl, by trivial⟩
  · skip
    refine v_aload_n C dX8_heldAt_12 rfl 0 rfl ?_
    refine v_get C (v := .ref (a 1 25)) g_X8_68 (m0 (s := s) (t := t) (g := G.2.2.1) hL) (rg (by decide) rfl) dX8_heldAt_13 rfl ?_
    refine v_iload_n C dX8_heldAt_16 rfl 3 rfl ?_
    refine v_zaldE C (len := 30) i (m1 (s := s) (t := t) (g := G.2.2.1) hL 25 rfl) (nI_clamp (by omega)) (pk_in i 30 (by omega)) dX8_heldAt_17 rfl ?_
    refine v_if_eq C (t := 53) dX8_heldAt_18 rfl rfl (fun h2 => ?_) (fun h2 => ?_)
    · skip
      refine v_iload_n C dX8_heldAt_53 rfl 2 rfl ?_
      refine v_istore_n C (lv1 := [(2, .int (heldM t x i)), (0, .ref (a 0 0)), (1, .int (x)), (3, .int (nI (i)))]) dX8_heldAt_54 rfl (by decide) rfl ?_
      refine v_iincN C (lv1 := [(3, .int (nI (i + 1))), (2, .int (heldM t x i)), (0, .ref (a 0 0)), (1, .int (x))]) i rfl dX8_heldAt_55 rfl 3 rfl (by decide) rfl ?_
      refine v_goto C (q := 4) dX8_heldAt_58 rfl ?_
      refine xx_lv [2, 3, 1, 0] (lv' := [(0, .ref (a 0 0)), (1, .int (x)), (2, .int (heldM t x i)), (3, .int (nI (i + 1)))]) rfl ?_
      refine xx_wc (w2 := wl a (E G.2.2.1 a s t) L) (lv' := [(0, .ref (a 0 0)), (1, .int (x)), (2, .int (heldM t x (i + 1))), (3, .int (nI (i + 1)))]) (by rfl) (by first | rfl | (simp [h1, Nat.not_le.mpr h1, eq_true h2, heldM, Nat.add_assoc])) ?_
      exact ih_i (by omega)
    · skip
      refine v_iload_n C dX8_heldAt_21 rfl 1 rfl ?_
      refine v_aload_n C dX8_heldAt_22 rfl 0 rfl ?_
      refine v_get C (v := .ref (a 1 23)) g_X8_62 (m0 (s := s) (t := t) (g := G.2.2.1) hL) (rg (by decide) rfl) dX8_heldAt_23 rfl ?_
      refine v_iload_n C dX8_heldAt_26 rfl 3 rfl ?_
      refine v_ialdE C (len := 30) i (m1 (s := s) (t := t) (g := G.2.2.1) hL 23 rfl) (nI_clamp (by omega)) (pk_in i 30 (by omega)) dX8_heldAt_27 rfl ?_
      refine v_aload_n C dX8_heldAt_28 rfl 0 rfl ?_
      refine v_get C (v := .ref (a 1 23)) g_X8_62 (m0 (s := s) (t := t) (g := G.2.2.1) hL) (rg (by decide) rfl) dX8_heldAt_29 rfl ?_
      refine v_iload_n C dX8_heldAt_32 rfl 3 rfl ?_
      refine v_ialdE C (len := 30) i (m1 (s := s) (t := t) (g := G.2.2.1) hL 23 rfl) (nI_clamp (by omega)) (pk_in i 30 (by omega)) dX8_heldAt_33 rfl ?_
      refine v_aload_n C dX8_heldAt_34 rfl 0 rfl ?_
      refine v_get C (v := .ref (a 1 24)) g_X8_65 (m0 (s := s) (t := t) (g := G.2.2.1) hL) (rg (by decide) rfl) dX8_heldAt_35 rfl ?_
      refine v_iload_n C dX8_heldAt_38 rfl 3 rfl ?_
      refine v_ialdE C (len := 30) i (m1 (s := s) (t := t) (g := G.2.2.1) hL 24 rfl) (nI_clamp (by omega)) (pk_in i 30 (by omega)) dX8_heldAt_39 rfl ?_
      refine v_iadd C dX8_heldAt_40 rfl ?_
      refine v_iconst C (v := 1) dX8_heldAt_41 rfl rfl ?_
      refine v_isub C dX8_heldAt_42 rfl ?_
      refine w_invSr C [.int (x), .int (t 23 i), .int (((t 23 i) + (t 24 i)) - 1)] 0 0 L_X8_123 (c_X8_isIn (s := s) (t := t)  hst hG hL x (t 23 i) (((t 23 i) + (t 24 i)) - 1)) rfl rfl rfl dX8_heldAt_43 rfl kx_no (fun h3 => ?_)
      refine v_ifB_eq C (t := 53) dX8_heldAt_46 rfl rfl (fun h4 => ?_) (fun h4 => ?_)
      · skip
        refine v_iload_n C dX8_heldAt_53 rfl 2 rfl ?_
        refine v_istore_n C (lv1 := [(2, .int (heldM t x i)), (0, .ref (a 0 0)), (1, .int (x)), (3, .int (nI (i)))]) dX8_heldAt_54 rfl (by decide) rfl ?_
        refine v_iincN C (lv1 := [(3, .int (nI (i + 1))), (2, .int (heldM t x i)), (0, .ref (a 0 0)), (1, .int (x))]) i rfl dX8_heldAt_55 rfl 3 rfl (by decide) rfl ?_
        refine v_goto C (q := 4) dX8_heldAt_58 rfl ?_
        refine xx_lv [2, 3, 1, 0] (lv' := [(0, .ref (a 0 0)), (1, .int (x)), (2, .int (heldM t x i)), (3, .int (nI (i + 1)))]) rfl ?_
        refine xx_wc (w2 := wl a (E G.2.2.1 a s t) L) (lv' := [(0, .ref (a 0 0)), (1, .int (x)), (2, .int (heldM t x (i + 1))), (3, .int (nI (i + 1)))]) (by rfl) (by first | rfl | (simp [h1, Nat.not_le.mpr h1, h2, h4, heldM, Nat.add_assoc])) ?_
        exact ih_i (by omega)
      · skip
        refine v_iload_n C dX8_heldAt_49 rfl 3 rfl ?_
        refine v_goto C (q := 54) dX8_heldAt_50 rfl ?_
        refine v_istore_n C (lv1 := [(2, .int (nI (i))), (0, .ref (a 0 0)), (1, .int (x)), (3, .int (nI (i)))]) dX8_heldAt_54 rfl (by decide) rfl ?_
        refine v_iincN C (lv1 := [(3, .int (nI (i + 1))), (2, .int (nI (i))), (0, .ref (a 0 0)), (1, .int (x))]) i rfl dX8_heldAt_55 rfl 3 rfl (by decide) rfl ?_
        refine v_goto C (q := 4) dX8_heldAt_58 rfl ?_
        refine xx_lv [2, 3, 1, 0] (lv' := [(0, .ref (a 0 0)), (1, .int (x)), (2, .int (nI (i))), (3, .int (nI (i + 1)))]) rfl ?_
        refine xx_wc (w2 := wl a (E G.2.2.1 a s t) L) (lv' := [(0, .ref (a 0 0)), (1, .int (x)), (2, .int (heldM t x (i + 1))), (3, .int (nI (i + 1)))]) (by rfl) (by first | rfl | (simp [h1, Nat.not_le.mpr h1, h2, h4, heldM, Nat.add_assoc])) ?_
        exact ih_i (by omega)

abbrev r_X8_areFree : Room := { frames := 2, cells := 0, slots := 0, locals := 45 }
set_option maxRecDepth 4000 in
theorem c_X8_areFree {l : Launch} {G : GG} {a : AD} {s t s0 : SS} {L : List (Nat × Nat)} {nc : Nat} (hst : l.stackTraces = false) (hG : GOK G) (hL : Live L s0) (x : Int32) (j_x : Nat) (e_x : x = nI j_x) (l_x : j_x < 40) (many : Int32) (j_many : Nat) (e_many : many = nI j_many) (l_many : j_many < 11) (hc : t 21 0 = nI nc) (hc30 : nc ≤ 30) : Mth l yX8_areFree cX8_areFree 5 (Option.some Jvm.ClassFile.FieldType.boolean) r_X8_areFree G (wl a (E G.2.2.1 a s t) L) [.ref (a 0 0), .int x, .int many] (RI (.int (freeM t j_x nc j_many)) (wl a (E G.2.2.1 a s t) L) (True)) nX := by
  refine mth_of rfl (Nat.le_of_ble_eq_true rfl) hst hG (fun X hX C0 => ?_)
  subst hX
  have C : Cx X G cX8_areFree 5 RX8 (Option.some Jvm.ClassFile.FieldType.boolean) r_X8_areFree "areFree" [] := C0
  clear C0
  show V X G 5 _ 0 0 _ 0 [(0, .ref (a 0 0)), (1, .int (x)), (2, .int (many))] []
  subst e_x
  subst e_many
  refine v_iconst C (v := 1) dX8_areFree_0 rfl rfl ?_
  refine v_istore_n C (lv1 := [(3, .int (1)), (0, .ref (a 0 0)), (1, .int (nI (j_x))), (2, .int (nI (j_many)))]) dX8_areFree_1 rfl (by decide) rfl ?_
  refine v_iload_n C dX8_areFree_2 rfl 2 rfl ?_
  refine v_istore C (lv1 := [(4, .int (nI (j_x))), (3, .int (1)), (0, .ref (a 0 0)), (1, .int (nI (j_x))), (2, .int (nI (j_many)))]) dX8_areFree_3 rfl (by decide) rfl ?_
  refine xx_lv [2, 3, 4, 1, 0] (lv' := [(0, .ref (a 0 0)), (1, .int (nI (j_x))), (2, .int (nI (j_many))), (3, .int (1)), (4, .int (nI (j_x)))]) rfl ?_
  refine xx_wc (w2 := wl a (E G.2.2.1 a s t) L) (lv' := [(0, .ref (a 0 0)), (1, .int (nI (j_x))), (2, .int (nI (j_many))), (3, .int (freeM t j_x nc 0)), (4, .int (nI (j_x + 0)))]) (by rfl) (by first | rfl | (simp [bI, freeM]; done)) ?_
  refine xx_loop (j_many) 0 (fun i => wl a (E G.2.2.1 a s t) L) (fun i => [(0, .ref (a 0 0)), (1, .int (nI (j_x))), (2, .int (nI (j_many))), (3, .int (freeM t j_x nc i)), (4, .int (nI (j_x + i)))]) (by omega) ?_
  intro i hi0 hiN ih_i
  refine v_iload C dX8_areFree_5 rfl 4 rfl ?_
  refine v_iload_n C dX8_areFree_7 rfl 1 rfl ?_
  refine v_iload_n C dX8_areFree_8 rfl 2 rfl ?_
  refine v_iaddN C j_x j_many rfl rfl dX8_areFree_9 rfl ?_
  refine v_icN_ge C (t := 39) (j_x + i) (j_x + j_many) rfl rfl (by omega) (by omega) dX8_areFree_10 rfl rfl (fun h1 => ?_) (fun h1 => ?_)
  · skip
    refine v_iload_n C dX8_areFree_39 rfl 3 rfl ?_
    exact v_zret C freeM_z (by decide) (by decide) dX8_areFree_40 ⟨congrArg (fun z => some (Value.int z)) (by (have : i = j_many := by omega); subst this; rfl), by rfl, by trivial⟩
  · skip
    refine v_iload_n C dX8_areFree_13 rfl 3 rfl ?_
    refine v_if_eq C (t := 31) dX8_areFree_14 rfl rfl (fun h2 => ?_) (fun h2 => ?_)
    · skip
      refine v_iconst C (v := 0) dX8_areFree_31 rfl rfl ?_
      refine v_istore_n C (lv1 := [(3, .int (0)), (0, .ref (a 0 0)), (1, .int (nI (j_x))), (2, .int (nI (j_many))), (4, .int (nI (j_x + i)))]) dX8_areFree_32 rfl (by decide) rfl ?_
      refine v_iincN C (lv1 := [(4, .int (nI (j_x + i + 1))), (3, .int (0)), (0, .ref (a 0 0)), (1, .int (nI (j_x))), (2, .int (nI (j_many)))]) (j_x + i) rfl dX8_areFree_33 rfl 4 rfl (by decide) rfl ?_
      refine v_goto C (q := 5) dX8_areFree_36 rfl ?_
      refine xx_lv [2, 3, 4, 1, 0] (lv' := [(0, .ref (a 0 0)), (1, .int (nI (j_x))), (2, .int (nI (j_many))), (3, .int (0)), (4, .int (nI (j_x + i + 1)))]) rfl ?_
      refine xx_wc (w2 := wl a (E G.2.2.1 a s t) L) (lv' := [(0, .ref (a 0 0)), (1, .int (nI (j_x))), (2, .int (nI (j_many))), (3, .int (freeM t j_x nc (i + 1))), (4, .int (nI (j_x + (i + 1))))]) (by rfl) (by first | rfl | (simp [h1, Nat.not_le.mpr h1, eq_true h2, freeM, Nat.add_assoc])) ?_
      exact ih_i (by omega)
    · skip
      refine v_aload_n C dX8_areFree_17 rfl 0 rfl ?_
      refine v_iload C dX8_areFree_18 rfl 4 rfl ?_
      refine w_invVr C [.int (nI (j_x + i))] 0 0 L_X8_172 (c_X8_heldAt (s := s) (t := t) (nc := nc) hst hG hL (nI (j_x + i)) hc hc30) (m0 (s := s) (t := t) (g := G.2.2.1) hL) rfl rfl rfl rfl dX8_areFree_20 rfl kx_no (fun h3 => ?_)
      refine v_iconst C (v := (-1)) dX8_areFree_23 rfl rfl ?_
      refine v_icmp_ne C (t := 31) dX8_areFree_24 rfl rfl (fun h4 => ?_) (fun h4 => ?_)
      · skip
        refine v_iconst C (v := 0) dX8_areFree_31 rfl rfl ?_
        refine v_istore_n C (lv1 := [(3, .int (0)), (0, .ref (a 0 0)), (1, .int (nI (j_x))), (2, .int (nI (j_many))), (4, .int (nI (j_x + i)))]) dX8_areFree_32 rfl (by decide) rfl ?_
        refine v_iincN C (lv1 := [(4, .int (nI (j_x + i + 1))), (3, .int (0)), (0, .ref (a 0 0)), (1, .int (nI (j_x))), (2, .int (nI (j_many)))]) (j_x + i) rfl dX8_areFree_33 rfl 4 rfl (by decide) rfl ?_
        refine v_goto C (q := 5) dX8_areFree_36 rfl ?_
        refine xx_lv [2, 3, 4, 1, 0] (lv' := [(0, .ref (a 0 0)), (1, .int (nI (j_x))), (2, .int (nI (j_many))), (3, .int (0)), (4, .int (nI (j_x + i + 1)))]) rfl ?_
        refine xx_wc (w2 := wl a (E G.2.2.1 a s t) L) (lv' := [(0, .ref (a 0 0)), (1, .int (nI (j_x))), (2, .int (nI (j_many))), (3, .int (freeM t j_x nc (i + 1))), (4, .int (nI (j_x + (i + 1))))]) (by rfl) (by first | rfl | (simp [h1, Nat.not_le.mpr h1, h2, h4, freeM, Nat.add_assoc])) ?_
        exact ih_i (by omega)
      · skip
        refine v_iconst C (v := 1) dX8_areFree_27 rfl rfl ?_
        refine v_goto C (q := 32) dX8_areFree_28 rfl ?_
        refine v_istore_n C (lv1 := [(3, .int (1)), (0, .ref (a 0 0)), (1, .int (nI (j_x))), (2, .int (nI (j_many))), (4, .int (nI (j_x + i)))]) dX8_areFree_32 rfl (by decide) rfl ?_
        refine v_iincN C (lv1 := [(4, .int (nI (j_x + i + 1))), (3, .int (1)), (0, .ref (a 0 0)), (1, .int (nI (j_x))), (2, .int (nI (j_many)))]) (j_x + i) rfl dX8_areFree_33 rfl 4 rfl (by decide) rfl ?_
        refine v_goto C (q := 5) dX8_areFree_36 rfl ?_
        refine xx_lv [2, 3, 4, 1, 0] (lv' := [(0, .ref (a 0 0)), (1, .int (nI (j_x))), (2, .int (nI (j_many))), (3, .int (1)), (4, .int (nI (j_x + i + 1)))]) rfl ?_
        refine xx_wc (w2 := wl a (E G.2.2.1 a s t) L) (lv' := [(0, .ref (a 0 0)), (1, .int (nI (j_x))), (2, .int (nI (j_many))), (3, .int (freeM t j_x nc (i + 1))), (4, .int (nI (j_x + (i + 1))))]) (by rfl) (by first | rfl | (simp [h1, Nat.not_le.mpr h1, h2, eq_true h4, freeM, Nat.add_assoc])) ?_
        exact ih_i (by omega)

abbrev r_X8_getsOf : Room := { frames := 1, cells := 0, slots := 0, locals := 21 }
set_option maxRecDepth 4000 in
theorem c_X8_getsOf {l : Launch} {G : GG} {a : AD} {s t s0 : SS} {L : List (Nat × Nat)} {nr : Nat} (hst : l.stackTraces = false) (hG : GOK G) (hL : Live L s0) (x : Int32) (j_x : Nat) (e_x : x = nI j_x) (l_x : j_x < 20) (hxr : j_x < nr) (hr : t 33 0 = nI nr) (hr20 : nr ≤ 20) (hro : ∀ i, i < nr → vp_in (t 34 i) 12) : Mth l yX8_getsOf cX8_getsOf 5 (Option.some Jvm.ClassFile.FieldType.int) r_X8_getsOf G (wl a (E G.2.2.1 a s t) L) [.ref (a 0 0), .int x] (RI (.int (gvW t (j_x + 1))) (wl a (E G.2.2.1 a s t) L) (True)) nX := by
  refine mth_of rfl (Nat.le_of_ble_eq_true rfl) hst hG (fun X hX C0 => ?_)
  subst hX
  have C : Cx X G cX8_getsOf 5 RX8 (Option.some Jvm.ClassFile.FieldType.int) r_X8_getsOf "getsOf" [] := C0
  clear C0
  show V X G 5 _ 0 0 _ 0 [(0, .ref (a 0 0)), (1, .int (x))] []
  subst e_x
  refine v_aload_n C dX8_getsOf_0 rfl 0 rfl ?_
  refine v_get C (v := .int (t 1 0)) g_X8_7 (m0 (s := s) (t := t) (g := G.2.2.1) hL) (rg (by decide) rfl) dX8_getsOf_1 rfl ?_
  refine v_istore_n C (lv1 := [(2, .int (t 1 0)), (0, .ref (a 0 0)), (1, .int (nI (j_x)))]) dX8_getsOf_4 rfl (by decide) rfl ?_
  refine v_iconst C (v := 0) dX8_getsOf_5 rfl rfl ?_
  refine v_istore_n C (lv1 := [(3, .int (0)), (2, .int (t 1 0)), (0, .ref (a 0 0)), (1, .int (nI (j_x)))]) dX8_getsOf_6 rfl (by decide) rfl ?_
  refine v_iconst C (v := 0) dX8_getsOf_7 rfl rfl ?_
  refine v_istore C (lv1 := [(4, .int (0)), (3, .int (0)), (2, .int (t 1 0)), (0, .ref (a 0 0)), (1, .int (nI (j_x)))]) dX8_getsOf_8 rfl (by decide) rfl ?_
  refine xx_lv [3, 4, 2, 1, 0] (lv' := [(0, .ref (a 0 0)), (1, .int (nI (j_x))), (2, .int (t 1 0)), (3, .int (0)), (4, .int (0))]) rfl ?_
  refine xx_wc (w2 := wl a (E G.2.2.1 a s t) L) (lv' := [(0, .ref (a 0 0)), (1, .int (nI (j_x))), (2, .int (lfW t 0)), (3, .int (gvW t 0)), (4, .int (nI (0)))]) (by rfl) (by first | rfl | (simp [bI, gvW, lfW, minF]; done)) ?_
  refine xx_loop (j_x + 1) 0 (fun i => wl a (E G.2.2.1 a s t) L) (fun i => [(0, .ref (a 0 0)), (1, .int (nI (j_x))), (2, .int (lfW t i)), (3, .int (gvW t i)), (4, .int (nI (i)))]) (by omega) ?_
  intro i hi0 hiN ih_i
  refine v_iload C dX8_getsOf_10 rfl 4 rfl ?_
  refine v_iload_n C dX8_getsOf_12 rfl 1 rfl ?_
  refine v_icN_gt C (t := 56) i j_x rfl rfl (by omega) (by omega) dX8_getsOf_13 rfl rfl (fun h1 => ?_) (fun h1 => ?_)
  · skip
    refine v_iload_n C dX8_getsOf_56 rfl 3 rfl ?_
    exact v_iret C (by decide) (by decide) dX8_getsOf_57 ⟨congrArg (fun z => some (Value.int z)) (by (have : i = j_x + 1 := by omega); subst this; rfl), by rfl, by trivial⟩
  · skip
    refine v_aload_n C dX8_getsOf_16 rfl 0 rfl ?_
    refine v_aload_n C dX8_getsOf_17 rfl 0 rfl ?_
    refine v_get C (v := .ref (a 1 34)) g_X8_93 (m0 (s := s) (t := t) (g := G.2.2.1) hL) (rg (by decide) rfl) dX8_getsOf_18 rfl ?_
    refine v_iload C dX8_getsOf_21 rfl 4 rfl ?_
    refine v_ialdE C (len := 20) i (m1 (s := s) (t := t) (g := G.2.2.1) hL 34 rfl) (nI_clamp (by omega)) (pk_in i 20 (by omega)) dX8_getsOf_23 rfl ?_
    refine w_invVr C [.int (t 34 i)] 0 0 L_X8_155 (c_X8_isDead (s := s) (t := t)  hst hG hL (t 34 i) _ (in_nI (N := 12) (hro i (by omega)) (by omega)) (in_lt (N := 12) (hro i (by omega)))) (m0 (s := s) (t := t) (g := G.2.2.1) hL) rfl rfl rfl rfl dX8_getsOf_24 rfl kx_no (fun h2 => ?_)
    refine v_ifB_eq C (t := 34) dX8_getsOf_27 rfl rfl (fun h3 => ?_) (fun h3 => ?_)
    · skip
      refine v_aload_n C dX8_getsOf_34 rfl 0 rfl ?_
      refine v_get C (v := .ref (a 1 35)) g_X8_96 (m0 (s := s) (t := t) (g := G.2.2.1) hL) (rg (by decide) rfl) dX8_getsOf_35 rfl ?_
      refine v_iload C dX8_getsOf_38 rfl 4 rfl ?_
      refine v_ialdE C (len := 20) i (m1 (s := s) (t := t) (g := G.2.2.1) hL 35 rfl) (nI_clamp (by omega)) (pk_in i 20 (by omega)) dX8_getsOf_40 rfl ?_
      refine v_iload_n C dX8_getsOf_41 rfl 2 rfl ?_
      refine w_invSr C [.int (t 35 i), .int (lfW t i)] 0 0 L_X8_148 (c_X8_lesser (s := s) (t := t)  hst hG hL (t 35 i) (lfW t i)) rfl rfl rfl dX8_getsOf_42 rfl kx_no (fun h4 => ?_)
      refine v_istore_n C (lv1 := [(3, .int (if (t 35 i) < (lfW t i) then (t 35 i) else (lfW t i))), (0, .ref (a 0 0)), (1, .int (nI (j_x))), (2, .int (lfW t i)), (4, .int (nI (i)))]) dX8_getsOf_45 rfl (by decide) rfl ?_
      refine v_iload_n C dX8_getsOf_46 rfl 3 rfl ?_
      refine v_iload_n C dX8_getsOf_47 rfl 0 rfl ?_
      refine v_isub C dX8_getsOf_48 rfl ?_
      refine v_istore_n C (lv1 := [(2, .int ((lfW t i) - (if (t 35 i) < (lfW t i) then (t 35 i) else (lfW t i)))), (3, .int (if (t 35 i) < (lfW t i) then (t 35 i) else (lfW t i))), (0, .ref (a 0 0)), (1, .int (nI (j_x))), (4, .int (nI (i)))]) dX8_getsOf_49 rfl (by decide) rfl ?_
      refine v_iincN C (lv1 := [(4, .int (nI (i + 1))), (2, .int ((lfW t i) - (if (t 35 i) < (lfW t i) then (t 35 i) else (lfW t i)))), (3, .int (if (t 35 i) < (lfW t i) then (t 35 i) else (lfW t i))), (0, .ref (a 0 0)), (1, .int (nI (j_x)))]) i rfl dX8_getsOf_50 rfl 4 rfl (by decide) rfl ?_
      refine v_goto C (q := 10) dX8_getsOf_53 rfl ?_
      refine xx_lv [3, 4, 1, 2, 0] (lv' := [(0, .ref (a 0 0)), (1, .int (nI (j_x))), (2, .int ((lfW t i) - (if (t 35 i) < (lfW t i) then (t 35 i) else (lfW t i)))), (3, .int (if (t 35 i) < (lfW t i) then (t 35 i) else (lfW t i))), (4, .int (nI (i + 1)))]) rfl ?_
      refine xx_wc (w2 := wl a (E G.2.2.1 a s t) L) (lv' := [(0, .ref (a 0 0)), (1, .int (nI (j_x))), (2, .int (lfW t (i + 1))), (3, .int (gvW t (i + 1))), (4, .int (nI (i + 1)))]) (by rfl) (by first | rfl | (simp [h1, Nat.not_lt.mpr h1, h3, gvW, lfW, minF, Nat.add_assoc])) ?_
      exact ih_i (by omega)
    · skip
      refine v_iconst C (v := 0) dX8_getsOf_30 rfl rfl ?_
      refine v_goto C (q := 45) dX8_getsOf_31 rfl ?_
      refine v_istore_n C (lv1 := [(3, .int (0)), (0, .ref (a 0 0)), (1, .int (nI (j_x))), (2, .int (lfW t i)), (4, .int (nI (i)))]) dX8_getsOf_45 rfl (by decide) rfl ?_
      refine v_iload_n C dX8_getsOf_46 rfl 3 rfl ?_
      refine v_iload_n C dX8_getsOf_47 rfl 0 rfl ?_
      refine v_isub C dX8_getsOf_48 rfl ?_
      refine v_istore_n C (lv1 := [(2, .int ((lfW t i) - 0)), (3, .int (0)), (0, .ref (a 0 0)), (1, .int (nI (j_x))), (4, .int (nI (i)))]) dX8_getsOf_49 rfl (by decide) rfl ?_
      refine v_iincN C (lv1 := [(4, .int (nI (i + 1))), (2, .int ((lfW t i) - 0)), (3, .int (0)), (0, .ref (a 0 0)), (1, .int (nI (j_x)))]) i rfl dX8_getsOf_50 rfl 4 rfl (by decide) rfl ?_
      refine v_goto C (q := 10) dX8_getsOf_53 rfl ?_
      refine xx_lv [3, 4, 1, 2, 0] (lv' := [(0, .ref (a 0 0)), (1, .int (nI (j_x))), (2, .int ((lfW t i) - 0)), (3, .int (0)), (4, .int (nI (i + 1)))]) rfl ?_
      refine xx_wc (w2 := wl a (E G.2.2.1 a s t) L) (lv' := [(0, .ref (a 0 0)), (1, .int (nI (j_x))), (2, .int (lfW t (i + 1))), (3, .int (gvW t (i + 1))), (4, .int (nI (i + 1)))]) (by rfl) (by first | rfl | (simp [h1, Nat.not_lt.mpr h1, eq_true h3, gvW, lfW, minF, Nat.add_assoc])) ?_
      exact ih_i (by omega)

abbrev r_X8_inchesOf : Room := { frames := 2, cells := 0, slots := 0, locals := 45 }
set_option maxRecDepth 4000 in
theorem c_X8_inchesOf {l : Launch} {G : GG} {a : AD} {s t s0 : SS} {L : List (Nat × Nat)} {nr : Nat} (hst : l.stackTraces = false) (hG : GOK G) (hL : Live L s0) (x : Int32) (hr : t 33 0 = nI nr) (hr20 : nr ≤ 20) (hro : ∀ i, i < nr → vp_in (t 34 i) 12) : Mth l yX8_inchesOf cX8_inchesOf 4 (Option.some Jvm.ClassFile.FieldType.int) r_X8_inchesOf G (wl a (E G.2.2.1 a s t) L) [.ref (a 0 0), .int x] (RI (.int (inW t x nr)) (wl a (E G.2.2.1 a s t) L) (True)) nX := by
  refine mth_of rfl (Nat.le_of_ble_eq_true rfl) hst hG (fun X hX C0 => ?_)
  subst hX
  have C : Cx X G cX8_inchesOf 4 RX8 (Option.some Jvm.ClassFile.FieldType.int) r_X8_inchesOf "inchesOf" [] := C0
  clear C0
  show V X G 4 _ 0 0 _ 0 [(0, .ref (a 0 0)), (1, .int (x))] []
  refine v_iconst C (v := 0) dX8_inchesOf_0 rfl rfl ?_
  refine v_istore_n C (lv1 := [(2, .int (0)), (0, .ref (a 0 0)), (1, .int (x))]) dX8_inchesOf_1 rfl (by decide) rfl ?_
  refine v_iconst C (v := 0) dX8_inchesOf_2 rfl rfl ?_
  refine v_istore_n C (lv1 := [(3, .int (0)), (2, .int (0)), (0, .ref (a 0 0)), (1, .int (x))]) dX8_inchesOf_3 rfl (by decide) rfl ?_
  refine xx_lv [2, 3, 1, 0] (lv' := [(0, .ref (a 0 0)), (1, .int (x)), (2, .int (0)), (3, .int (0))]) rfl ?_
  refine xx_wc (w2 := wl a (E G.2.2.1 a s t) L) (lv' := [(0, .ref (a 0 0)), (1, .int (x)), (2, .int (inW t x 0)), (3, .int (nI (0)))]) (by rfl) (by first | rfl | (simp [bI, inW, sumN]; done)) ?_
  refine xx_loop (nr) 0 (fun i => wl a (E G.2.2.1 a s t) L) (fun i => [(0, .ref (a 0 0)), (1, .int (x)), (2, .int (inW t x i)), (3, .int (nI (i)))]) (by omega) ?_
  intro i hi0 hiN ih_i
  refine v_iload_n C dX8_inchesOf_4 rfl 3 rfl ?_
  refine v_aload_n C dX8_inchesOf_5 rfl 0 rfl ?_
  refine v_get C (v := .int (t 33 0)) g_X8_183 (m0 (s := s) (t := t) (g := G.2.2.1) hL) (rg (by decide) rfl) dX8_inchesOf_6 rfl ?_
  refine xx_top (y := nI nr) hr ?_
  refine v_icN_ge C (t := 40) i nr rfl rfl (by omega) (by omega) dX8_inchesOf_9 rfl rfl (fun h1 => ?_) (fun h1 => ?_)
  · skip
    refine v_iload_n C dX8_inchesOf_40 rfl 2 rfl ?_
    exact v_iret C (by decide) (by decide) dX8_inchesOf_41 ⟨congrArg (fun z => some (Value.int z)) (by (have : i = nr := by omega); subst this; rfl), by rfl, by trivial⟩
  · skip
    refine v_iload_n C dX8_inchesOf_12 rfl 2 rfl ?_
    refine v_aload_n C dX8_inchesOf_13 rfl 0 rfl ?_
    refine v_get C (v := .ref (a 1 34)) g_X8_93 (m0 (s := s) (t := t) (g := G.2.2.1) hL) (rg (by decide) rfl) dX8_inchesOf_14 rfl ?_
    refine v_iload_n C dX8_inchesOf_17 rfl 3 rfl ?_
    refine v_ialdE C (len := 20) i (m1 (s := s) (t := t) (g := G.2.2.1) hL 34 rfl) (nI_clamp (by omega)) (pk_in i 20 (by omega)) dX8_inchesOf_18 rfl ?_
    refine v_iload_n C dX8_inchesOf_19 rfl 1 rfl ?_
    refine v_icmp_ne C (t := 31) dX8_inchesOf_20 rfl rfl (fun h2 => ?_) (fun h2 => ?_)
    · skip
      refine v_iconst C (v := 0) dX8_inchesOf_31 rfl rfl ?_
      refine v_iadd C dX8_inchesOf_32 rfl ?_
      refine v_istore_n C (lv1 := [(2, .int ((inW t x i) + 0)), (0, .ref (a 0 0)), (1, .int (x)), (3, .int (nI (i)))]) dX8_inchesOf_33 rfl (by decide) rfl ?_
      refine v_iincN C (lv1 := [(3, .int (nI (i + 1))), (2, .int ((inW t x i) + 0)), (0, .ref (a 0 0)), (1, .int (x))]) i rfl dX8_inchesOf_34 rfl 3 rfl (by decide) rfl ?_
      refine v_goto C (q := 4) dX8_inchesOf_37 rfl ?_
      refine xx_lv [2, 3, 1, 0] (lv' := [(0, .ref (a 0 0)), (1, .int (x)), (2, .int ((inW t x i) + 0)), (3, .int (nI (i + 1)))]) rfl ?_
      refine xx_wc (w2 := wl a (E G.2.2.1 a s t) L) (lv' := [(0, .ref (a 0 0)), (1, .int (x)), (2, .int (inW t x (i + 1))), (3, .int (nI (i + 1)))]) (by rfl) (by first | rfl | (simp [h1, Nat.not_le.mpr h1, h2, inW, sumN, Nat.add_assoc])) ?_
      exact ih_i (by omega)
    · skip
      refine v_aload_n C dX8_inchesOf_23 rfl 0 rfl ?_
      refine v_iload_n C dX8_inchesOf_24 rfl 3 rfl ?_
      refine w_invVr C [.int (nI (i))] 0 0 L_X8_186 (c_X8_getsOf (s := s) (t := t) (nr := nr) hst hG hL (nI (i)) i rfl (by omega) (by omega) hr hr20 hro) (m0 (s := s) (t := t) (g := G.2.2.1) hL) rfl rfl rfl rfl dX8_inchesOf_25 rfl kx_no (fun h3 => ?_)
      refine v_goto C (q := 32) dX8_inchesOf_28 rfl ?_
      refine v_iadd C dX8_inchesOf_32 rfl ?_
      refine v_istore_n C (lv1 := [(2, .int ((inW t x i) + (gvW t (i + 1)))), (0, .ref (a 0 0)), (1, .int (x)), (3, .int (nI (i)))]) dX8_inchesOf_33 rfl (by decide) rfl ?_
      refine v_iincN C (lv1 := [(3, .int (nI (i + 1))), (2, .int ((inW t x i) + (gvW t (i + 1)))), (0, .ref (a 0 0)), (1, .int (x))]) i rfl dX8_inchesOf_34 rfl 3 rfl (by decide) rfl ?_
      refine v_goto C (q := 4) dX8_inchesOf_37 rfl ?_
      refine xx_lv [2, 3, 1, 0] (lv' := [(0, .ref (a 0 0)), (1, .int (x)), (2, .int ((inW t x i) + (gvW t (i + 1)))), (3, .int (nI (i + 1)))]) rfl ?_
      refine xx_wc (w2 := wl a (E G.2.2.1 a s t) L) (lv' := [(0, .ref (a 0 0)), (1, .int (x)), (2, .int (inW t x (i + 1))), (3, .int (nI (i + 1)))]) (by rfl) (by first | rfl | (simp [h1, Nat.not_le.mpr h1, eq_true h2, inW, sumN, Nat.add_assoc])) ?_
      exact ih_i (by omega)

abbrev r_X8_needed : Room := { frames := 0, cells := 0, slots := 0, locals := 0 }
set_option maxRecDepth 4000 in
theorem c_X8_needed {l : Launch} {G : GG} {a : AD} {s t s0 : SS} {L : List (Nat × Nat)}  (hst : l.stackTraces = false) (hG : GOK G) (hL : Live L s0) (m : Int32)  : Mth l yX8_needed cX8_needed 1 (Option.some Jvm.ClassFile.FieldType.int) r_X8_needed G (wl a (E G.2.2.1 a s t) L) [.int m] (RI (.int (needF m)) (wl a (E G.2.2.1 a s t) L) (True)) nX := by
  refine mth_of rfl (Nat.le_of_ble_eq_true rfl) hst hG (fun X hX C0 => ?_)
  subst hX
  have C : Cx X G cX8_needed 1 RX8 (Option.some Jvm.ClassFile.FieldType.int) r_X8_needed "needed" [] := C0
  clear C0
  show V X G 1 _ 0 0 _ 0 [(0, .int (m))] []
  refine v_iload_n C dX8_needed_0 rfl 0 rfl ?_
  refine v_if_ne C (t := 8) dX8_needed_1 rfl rfl (fun h1 => ?_) (fun h1 => ?_)
  · skip
    refine v_iload_n C dX8_needed_8 rfl 0 rfl ?_
    refine v_iconst C (v := 1) dX8_needed_9 rfl rfl ?_
    refine v_icmp_ne C (t := 17) dX8_needed_10 rfl rfl (fun h2 => ?_) (fun h2 => ?_)
    · skip
      refine v_iload_n C dX8_needed_17 rfl 0 rfl ?_
      refine v_iconst C (v := 2) dX8_needed_18 rfl rfl ?_
      refine v_icmp_ne C (t := 27) dX8_needed_19 rfl rfl (fun h3 => ?_) (fun h3 => ?_)
      · skip
        refine v_bipush C (v := 40) dX8_needed_27 rfl rfl ?_
        exact v_iret C (by decide) (by decide) dX8_needed_29 ⟨congrArg (fun z => some (Value.int z)) (by first | rfl | (simp only [h1, h2, h3, needF, bI, pM, pU, n10, n20, n30, n0, if_true, if_false, ite_true, ite_false, not_true_eq_false, not_false_eq_true, and_true, true_and, and_false, false_and, or_true, true_or, or_false, false_or, reduceIte, and_self, or_self, ne_eq, eq_self_iff_true]; first | done | rfl) | (simp [bI, h1, h2, h3, needF]; done) | (simp only [needF, bI, ← Int32.not_le] at *; simp [h1, h2, h3]; done) | (simp_all [bI, h1, h2, h3, needF]; done) | (simp_all [bI, h1, h2, h3, needF]; rfl) | (exfalso; omega)), by rfl, by trivial⟩
      · skip
        refine v_bipush C (v := 10) dX8_needed_22 rfl rfl ?_
        refine v_goto C (q := 29) dX8_needed_24 rfl ?_
        exact v_iret C (by decide) (by decide) dX8_needed_29 ⟨congrArg (fun z => some (Value.int z)) (by first | rfl | (simp only [h1, h2, eq_true h3, needF, bI, pM, pU, n10, n20, n30, n0, if_true, if_false, ite_true, ite_false, not_true_eq_false, not_false_eq_true, and_true, true_and, and_false, false_and, or_true, true_or, or_false, false_or, reduceIte, and_self, or_self, ne_eq, eq_self_iff_true]; first | done | rfl) | (simp [bI, h1, h2, eq_true h3, needF]; done) | (simp only [needF, bI, ← Int32.not_le] at *; simp [h1, h2, eq_true h3]; done) | (simp_all [bI, h1, h2, eq_true h3, needF]; done) | (simp_all [bI, h1, h2, eq_true h3, needF]; rfl) | (exfalso; omega)), by rfl, by trivial⟩
    · skip
      refine v_iconst C (v := 2) dX8_needed_13 rfl rfl ?_
      refine v_goto C (q := 29) dX8_needed_14 rfl ?_
      exact v_iret C (by decide) (by decide) dX8_needed_29 ⟨congrArg (fun z => some (Value.int z)) (by first | rfl | (simp only [h1, eq_true h2, needF, bI, pM, pU, n10, n20, n30, n0, if_true, if_false, ite_true, ite_false, not_true_eq_false, not_false_eq_true, and_true, true_and, and_false, false_and, or_true, true_or, or_false, false_or, reduceIte, and_self, or_self, ne_eq, eq_self_iff_true]; first | done | rfl) | (simp [bI, h1, eq_true h2, needF]; done) | (simp only [needF, bI, ← Int32.not_le] at *; simp [h1, eq_true h2]; done) | (simp_all [bI, h1, eq_true h2, needF]; done) | (simp_all [bI, h1, eq_true h2, needF]; rfl) | (exfalso; omega)), by rfl, by trivial⟩
  · skip
    refine v_iconst C (v := 0) dX8_needed_4 rfl rfl ?_
    refine v_goto C (q := 29) dX8_needed_5 rfl ?_
    exact v_iret C (by decide) (by decide) dX8_needed_29 ⟨congrArg (fun z => some (Value.int z)) (by first | rfl | (simp only [eq_true h1, needF, bI, pM, pU, n10, n20, n30, n0, if_true, if_false, ite_true, ite_false, not_true_eq_false, not_false_eq_true, and_true, true_and, and_false, false_and, or_true, true_or, or_false, false_or, reduceIte, and_self, or_self, ne_eq, eq_self_iff_true]; first | done | rfl) | (simp [bI, eq_true h1, needF]; done) | (simp only [needF, bI, ← Int32.not_le] at *; simp [eq_true h1]; done) | (simp_all [bI, eq_true h1, needF]; done) | (simp_all [bI, eq_true h1, needF]; rfl) | (exfalso; omega)), by rfl, by trivial⟩

abbrev r_X8_takes : Room := { frames := 1, cells := 0, slots := 0, locals := 21 }
set_option maxRecDepth 4000 in
theorem c_X8_takes {l : Launch} {G : GG} {a : AD} {s t s0 : SS} {L : List (Nat × Nat)}  (hst : l.stackTraces = false) (hG : GOK G) (hL : Live L s0) (m : Int32) (g : Int32)  : Mth l yX8_takes cX8_takes 2 (Option.some Jvm.ClassFile.FieldType.int) r_X8_takes G (wl a (E G.2.2.1 a s t) L) [.int m, .int g] (RI (.int (takF m g)) (wl a (E G.2.2.1 a s t) L) (True)) nX := by
  refine mth_of rfl (Nat.le_of_ble_eq_true rfl) hst hG (fun X hX C0 => ?_)
  subst hX
  have C : Cx X G cX8_takes 2 RX8 (Option.some Jvm.ClassFile.FieldType.int) r_X8_takes "takes" [] := C0
  clear C0
  show V X G 2 _ 0 0 _ 0 [(0, .int (m)), (1, .int (g))] []
  refine v_iload_n C dX8_takes_0 rfl 1 rfl ?_
  refine v_iload_n C dX8_takes_1 rfl 0 rfl ?_
  refine v_if_ne C (t := 10) dX8_takes_2 rfl rfl (fun h1 => ?_) (fun h1 => ?_)
  · skip
    refine v_iload_n C dX8_takes_10 rfl 0 rfl ?_
    refine v_iconst C (v := 1) dX8_takes_11 rfl rfl ?_
    refine v_icmp_ne C (t := 20) dX8_takes_12 rfl rfl (fun h2 => ?_) (fun h2 => ?_)
    · skip
      refine v_iload_n C dX8_takes_20 rfl 0 rfl ?_
      refine v_iconst C (v := 2) dX8_takes_21 rfl rfl ?_
      refine v_icmp_ne C (t := 31) dX8_takes_22 rfl rfl (fun h3 => ?_) (fun h3 => ?_)
      · skip
        refine v_sipush C (v := 2000) dX8_takes_31 rfl rfl ?_
        refine w_invSr C [.int (g), .int (2000)] 0 0 L_X8_148 (c_X8_lesser (s := s) (t := t)  hst hG hL g 2000) rfl rfl rfl dX8_takes_34 rfl kx_no (fun h4 => ?_)
        exact v_iret C (by decide) (by decide) dX8_takes_37 ⟨congrArg (fun z => some (Value.int z)) (by first | rfl | (simp only [h1, h2, h3, takF, minF, mostF, bI, pM, pU, n10, n20, n30, n0, if_true, if_false, ite_true, ite_false, not_true_eq_false, not_false_eq_true, and_true, true_and, and_false, false_and, or_true, true_or, or_false, false_or, reduceIte, and_self, or_self, ne_eq, eq_self_iff_true]; first | done | rfl) | (simp [bI, h1, h2, h3, takF, minF, mostF]; done) | (simp only [takF, minF, mostF, bI, ← Int32.not_le] at *; simp [h1, h2, h3]; done) | (simp_all [bI, h1, h2, h3, takF, minF, mostF]; done) | (simp_all [bI, h1, h2, h3, takF, minF, mostF]; rfl) | (exfalso; omega)), by rfl, by trivial⟩
      · skip
        refine v_sipush C (v := 400) dX8_takes_25 rfl rfl ?_
        refine v_goto C (q := 34) dX8_takes_28 rfl ?_
        refine w_invSr C [.int (g), .int (400)] 0 0 L_X8_148 (c_X8_lesser (s := s) (t := t)  hst hG hL g 400) rfl rfl rfl dX8_takes_34 rfl kx_no (fun h5 => ?_)
        exact v_iret C (by decide) (by decide) dX8_takes_37 ⟨congrArg (fun z => some (Value.int z)) (by first | rfl | (simp only [h1, h2, eq_true h3, takF, minF, mostF, bI, pM, pU, n10, n20, n30, n0, if_true, if_false, ite_true, ite_false, not_true_eq_false, not_false_eq_true, and_true, true_and, and_false, false_and, or_true, true_or, or_false, false_or, reduceIte, and_self, or_self, ne_eq, eq_self_iff_true]; first | done | rfl) | (simp [bI, h1, h2, eq_true h3, takF, minF, mostF]; done) | (simp only [takF, minF, mostF, bI, ← Int32.not_le] at *; simp [h1, h2, eq_true h3]; done) | (simp_all [bI, h1, h2, eq_true h3, takF, minF, mostF]; done) | (simp_all [bI, h1, h2, eq_true h3, takF, minF, mostF]; rfl) | (exfalso; omega)), by rfl, by trivial⟩
    · skip
      refine v_bipush C (v := 100) dX8_takes_15 rfl rfl ?_
      refine v_goto C (q := 34) dX8_takes_17 rfl ?_
      refine w_invSr C [.int (g), .int (100)] 0 0 L_X8_148 (c_X8_lesser (s := s) (t := t)  hst hG hL g 100) rfl rfl rfl dX8_takes_34 rfl kx_no (fun h6 => ?_)
      exact v_iret C (by decide) (by decide) dX8_takes_37 ⟨congrArg (fun z => some (Value.int z)) (by first | rfl | (simp only [h1, eq_true h2, takF, minF, mostF, bI, pM, pU, n10, n20, n30, n0, if_true, if_false, ite_true, ite_false, not_true_eq_false, not_false_eq_true, and_true, true_and, and_false, false_and, or_true, true_or, or_false, false_or, reduceIte, and_self, or_self, ne_eq, eq_self_iff_true]; first | done | rfl) | (simp [bI, h1, eq_true h2, takF, minF, mostF]; done) | (simp only [takF, minF, mostF, bI, ← Int32.not_le] at *; simp [h1, eq_true h2]; done) | (simp_all [bI, h1, eq_true h2, takF, minF, mostF]; done) | (simp_all [bI, h1, eq_true h2, takF, minF, mostF]; rfl) | (exfalso; omega)), by rfl, by trivial⟩
  · skip
    refine v_bipush C (v := 20) dX8_takes_5 rfl rfl ?_
    refine v_goto C (q := 34) dX8_takes_7 rfl ?_
    refine w_invSr C [.int (g), .int (20)] 0 0 L_X8_148 (c_X8_lesser (s := s) (t := t)  hst hG hL g 20) rfl rfl rfl dX8_takes_34 rfl kx_no (fun h7 => ?_)
    exact v_iret C (by decide) (by decide) dX8_takes_37 ⟨congrArg (fun z => some (Value.int z)) (by first | rfl | (simp only [eq_true h1, takF, minF, mostF, bI, pM, pU, n10, n20, n30, n0, if_true, if_false, ite_true, ite_false, not_true_eq_false, not_false_eq_true, and_true, true_and, and_false, false_and, or_true, true_or, or_false, false_or, reduceIte, and_self, or_self, ne_eq, eq_self_iff_true]; first | done | rfl) | (simp [bI, eq_true h1, takF, minF, mostF]; done) | (simp only [takF, minF, mostF, bI, ← Int32.not_le] at *; simp [eq_true h1]; done) | (simp_all [bI, eq_true h1, takF, minF, mostF]; done) | (simp_all [bI, eq_true h1, takF, minF, mostF]; rfl) | (exfalso; omega)), by rfl, by trivial⟩

abbrev r_X8_recovers : Room := { frames := 1, cells := 0, slots := 0, locals := 21 }
set_option maxRecDepth 4000 in
theorem c_X8_recovers {l : Launch} {G : GG} {a : AD} {s t s0 : SS} {L : List (Nat × Nat)}  (hst : l.stackTraces = false) (hG : GOK G) (hL : Live L s0) (m : Int32) (g : Int32) (c : Int32)  : Mth l yX8_recovers cX8_recovers 5 (Option.some Jvm.ClassFile.FieldType.int) r_X8_recovers G (wl a (E G.2.2.1 a s t) L) [.int m, .int g, .int c] (RI (.int (recF m g c)) (wl a (E G.2.2.1 a s t) L) (True)) nX := by
  refine mth_of rfl (Nat.le_of_ble_eq_true rfl) hst hG (fun X hX C0 => ?_)
  subst hX
  have C : Cx X G cX8_recovers 5 RX8 (Option.some Jvm.ClassFile.FieldType.int) r_X8_recovers "recovers" [] := C0
  clear C0
  show V X G 5 _ 0 0 _ 0 [(0, .int (m)), (1, .int (g)), (2, .int (c))] []
  refine v_iload_n C dX8_recovers_0 rfl 0 rfl ?_
  refine v_if_ne C (t := 9) dX8_recovers_1 rfl rfl (fun h1 => ?_) (fun h1 => ?_)
  · skip
    refine v_iload_n C dX8_recovers_9 rfl 0 rfl ?_
    refine v_iconst C (v := 1) dX8_recovers_10 rfl rfl ?_
    refine v_icmp_ne C (t := 19) dX8_recovers_11 rfl rfl (fun h2 => ?_) (fun h2 => ?_)
    · skip
      refine v_iload_n C dX8_recovers_19 rfl 0 rfl ?_
      refine v_iconst C (v := 2) dX8_recovers_20 rfl rfl ?_
      refine v_icmp_ne C (t := 30) dX8_recovers_21 rfl rfl (fun h3 => ?_) (fun h3 => ?_)
      · skip
        refine v_sipush C (v := 2000) dX8_recovers_30 rfl rfl ?_
        refine v_istore_n C (lv1 := [(3, .int (2000)), (0, .int (m)), (1, .int (g)), (2, .int (c))]) dX8_recovers_33 rfl (by decide) rfl ?_
        refine v_iload_n C dX8_recovers_34 rfl 1 rfl ?_
        refine v_if_ne C (t := 43) dX8_recovers_35 rfl rfl (fun _ => ?_) (fun h => absurd h h1)
        refine v_iload_n C dX8_recovers_43 rfl 1 rfl ?_
        refine v_iconst C (v := 1) dX8_recovers_44 rfl rfl ?_
        refine v_icmp_ne C (t := 53) dX8_recovers_45 rfl rfl (fun _ => ?_) (fun h => absurd h h2)
        refine v_iload_n C dX8_recovers_53 rfl 1 rfl ?_
        refine v_iconst C (v := 2) dX8_recovers_54 rfl rfl ?_
        refine v_icmp_ne C (t := 63) dX8_recovers_55 rfl rfl (fun _ => ?_) (fun h => absurd h h3)
        refine v_bipush C (v := 50) dX8_recovers_63 rfl rfl ?_
        refine v_istore C (lv1 := [(4, .int (50)), (3, .int (2000)), (0, .int (m)), (1, .int (g)), (2, .int (c))]) dX8_recovers_65 rfl (by decide) rfl ?_
        refine v_iload_n C dX8_recovers_67 rfl 3 rfl ?_
        refine v_iload_n C dX8_recovers_68 rfl 1 rfl ?_
        refine w_invSr C [.int (g), .int (2000)] 0 0 L_X8_148 (c_X8_lesser (s := s) (t := t)  hst hG hL g 2000) rfl rfl rfl dX8_recovers_69 rfl kx_no (fun h4 => ?_)
        refine v_iload C dX8_recovers_72 rfl 0 rfl ?_
        refine v_iconst C (v := 3) dX8_recovers_74 rfl rfl ?_
        refine v_iload_n C dX8_recovers_75 rfl 4 rfl ?_
        refine v_imul C dX8_recovers_76 rfl ?_
        refine v_isub C dX8_recovers_77 rfl ?_
        refine v_imul C dX8_recovers_78 rfl ?_
        refine v_bipush C (v := 100) dX8_recovers_79 rfl rfl ?_
        refine v_idiv C dX8_recovers_81 rfl (by decide) ?_
        exact v_iret C (by decide) (by decide) dX8_recovers_82 ⟨congrArg (fun z => some (Value.int z)) (by first | rfl | (simp only [h1, h2, h3, recF, minF, mostF, hundF, bI, pM, pU, n10, n20, n30, n0, if_true, if_false, ite_true, ite_false, not_true_eq_false, not_false_eq_true, and_true, true_and, and_false, false_and, or_true, true_or, or_false, false_or, reduceIte, and_self, or_self, ne_eq, eq_self_iff_true]; first | done | rfl) | (simp [bI, h1, h2, h3, recF, minF, mostF, hundF]; done) | (simp only [recF, minF, mostF, hundF, bI, ← Int32.not_le] at *; simp [h1, h2, h3]; done) | (simp_all [bI, h1, h2, h3, recF, minF, mostF, hundF]; done) | (simp_all [bI, h1, h2, h3, recF, minF, mostF, hundF]; rfl) | (exfalso; omega)), by rfl, by trivial⟩
      · skip
        refine v_sipush C (v := 400) dX8_recovers_24 rfl rfl ?_
        refine v_goto C (q := 33) dX8_recovers_27 rfl ?_
        refine v_istore_n C (lv1 := [(3, .int (400)), (0, .int (m)), (1, .int (g)), (2, .int (c))]) dX8_recovers_33 rfl (by decide) rfl ?_
        refine v_iload_n C dX8_recovers_34 rfl 1 rfl ?_
        refine v_if_ne C (t := 43) dX8_recovers_35 rfl rfl (fun _ => ?_) (fun h => absurd h h1)
        refine v_iload_n C dX8_recovers_43 rfl 1 rfl ?_
        refine v_iconst C (v := 1) dX8_recovers_44 rfl rfl ?_
        refine v_icmp_ne C (t := 53) dX8_recovers_45 rfl rfl (fun _ => ?_) (fun h => absurd h h2)
        refine v_iload_n C dX8_recovers_53 rfl 1 rfl ?_
        refine v_iconst C (v := 2) dX8_recovers_54 rfl rfl ?_
        refine v_icmp_ne C (t := 63) dX8_recovers_55 rfl rfl (fun h => absurd h3 h) (fun _ => ?_)
        refine v_bipush C (v := 80) dX8_recovers_58 rfl rfl ?_
        refine v_goto C (q := 65) dX8_recovers_60 rfl ?_
        refine v_istore C (lv1 := [(4, .int (80)), (3, .int (400)), (0, .int (m)), (1, .int (g)), (2, .int (c))]) dX8_recovers_65 rfl (by decide) rfl ?_
        refine v_iload_n C dX8_recovers_67 rfl 3 rfl ?_
        refine v_iload_n C dX8_recovers_68 rfl 1 rfl ?_
        refine w_invSr C [.int (g), .int (400)] 0 0 L_X8_148 (c_X8_lesser (s := s) (t := t)  hst hG hL g 400) rfl rfl rfl dX8_recovers_69 rfl kx_no (fun h5 => ?_)
        refine v_iload C dX8_recovers_72 rfl 0 rfl ?_
        refine v_iconst C (v := 3) dX8_recovers_74 rfl rfl ?_
        refine v_iload_n C dX8_recovers_75 rfl 4 rfl ?_
        refine v_imul C dX8_recovers_76 rfl ?_
        refine v_isub C dX8_recovers_77 rfl ?_
        refine v_imul C dX8_recovers_78 rfl ?_
        refine v_bipush C (v := 100) dX8_recovers_79 rfl rfl ?_
        refine v_idiv C dX8_recovers_81 rfl (by decide) ?_
        exact v_iret C (by decide) (by decide) dX8_recovers_82 ⟨congrArg (fun z => some (Value.int z)) (by first | rfl | (simp only [h1, h2, eq_true h3, recF, minF, mostF, hundF, bI, pM, pU, n10, n20, n30, n0, if_true, if_false, ite_true, ite_false, not_true_eq_false, not_false_eq_true, and_true, true_and, and_false, false_and, or_true, true_or, or_false, false_or, reduceIte, and_self, or_self, ne_eq, eq_self_iff_true]; first | done | rfl) | (simp [bI, h1, h2, eq_true h3, recF, minF, mostF, hundF]; done) | (simp only [recF, minF, mostF, hundF, bI, ← Int32.not_le] at *; simp [h1, h2, eq_true h3]; done) | (simp_all [bI, h1, h2, eq_true h3, recF, minF, mostF, hundF]; done) | (simp_all [bI, h1, h2, eq_true h3, recF, minF, mostF, hundF]; rfl) | (exfalso; omega)), by rfl, by trivial⟩
    · skip
      refine v_bipush C (v := 100) dX8_recovers_14 rfl rfl ?_
      refine v_goto C (q := 33) dX8_recovers_16 rfl ?_
      refine v_istore_n C (lv1 := [(3, .int (100)), (0, .int (m)), (1, .int (g)), (2, .int (c))]) dX8_recovers_33 rfl (by decide) rfl ?_
      refine v_iload_n C dX8_recovers_34 rfl 1 rfl ?_
      refine v_if_ne C (t := 43) dX8_recovers_35 rfl rfl (fun _ => ?_) (fun h => absurd h h1)
      refine v_iload_n C dX8_recovers_43 rfl 1 rfl ?_
      refine v_iconst C (v := 1) dX8_recovers_44 rfl rfl ?_
      refine v_icmp_ne C (t := 53) dX8_recovers_45 rfl rfl (fun h => absurd h2 h) (fun _ => ?_)
      refine v_bipush C (v := 70) dX8_recovers_48 rfl rfl ?_
      refine v_goto C (q := 65) dX8_recovers_50 rfl ?_
      refine v_istore C (lv1 := [(4, .int (70)), (3, .int (100)), (0, .int (m)), (1, .int (g)), (2, .int (c))]) dX8_recovers_65 rfl (by decide) rfl ?_
      refine v_iload_n C dX8_recovers_67 rfl 3 rfl ?_
      refine v_iload_n C dX8_recovers_68 rfl 1 rfl ?_
      refine w_invSr C [.int (g), .int (100)] 0 0 L_X8_148 (c_X8_lesser (s := s) (t := t)  hst hG hL g 100) rfl rfl rfl dX8_recovers_69 rfl kx_no (fun h6 => ?_)
      refine v_iload C dX8_recovers_72 rfl 0 rfl ?_
      refine v_iconst C (v := 3) dX8_recovers_74 rfl rfl ?_
      refine v_iload_n C dX8_recovers_75 rfl 4 rfl ?_
      refine v_imul C dX8_recovers_76 rfl ?_
      refine v_isub C dX8_recovers_77 rfl ?_
      refine v_imul C dX8_recovers_78 rfl ?_
      refine v_bipush C (v := 100) dX8_recovers_79 rfl rfl ?_
      refine v_idiv C dX8_recovers_81 rfl (by decide) ?_
      exact v_iret C (by decide) (by decide) dX8_recovers_82 ⟨congrArg (fun z => some (Value.int z)) (by first | rfl | (simp only [h1, eq_true h2, recF, minF, mostF, hundF, bI, pM, pU, n10, n20, n30, n0, if_true, if_false, ite_true, ite_false, not_true_eq_false, not_false_eq_true, and_true, true_and, and_false, false_and, or_true, true_or, or_false, false_or, reduceIte, and_self, or_self, ne_eq, eq_self_iff_true]; first | done | rfl) | (simp [bI, h1, eq_true h2, recF, minF, mostF, hundF]; done) | (simp only [recF, minF, mostF, hundF, bI, ← Int32.not_le] at *; simp [h1, eq_true h2]; done) | (simp_all [bI, h1, eq_true h2, recF, minF, mostF, hundF]; done) | (simp_all [bI, h1, eq_true h2, recF, minF, mostF, hundF]; rfl) | (exfalso; omega)), by rfl, by trivial⟩
  · skip
    refine v_bipush C (v := 20) dX8_recovers_4 rfl rfl ?_
    refine v_goto C (q := 33) dX8_recovers_6 rfl ?_
    refine v_istore_n C (lv1 := [(3, .int (20)), (0, .int (m)), (1, .int (g)), (2, .int (c))]) dX8_recovers_33 rfl (by decide) rfl ?_
    refine v_iload_n C dX8_recovers_34 rfl 1 rfl ?_
    refine v_if_ne C (t := 43) dX8_recovers_35 rfl rfl (fun h => absurd h1 h) (fun _ => ?_)
    refine v_bipush C (v := 90) dX8_recovers_38 rfl rfl ?_
    refine v_goto C (q := 65) dX8_recovers_40 rfl ?_
    refine v_istore C (lv1 := [(4, .int (90)), (3, .int (20)), (0, .int (m)), (1, .int (g)), (2, .int (c))]) dX8_recovers_65 rfl (by decide) rfl ?_
    refine v_iload_n C dX8_recovers_67 rfl 3 rfl ?_
    refine v_iload_n C dX8_recovers_68 rfl 1 rfl ?_
    refine w_invSr C [.int (g), .int (20)] 0 0 L_X8_148 (c_X8_lesser (s := s) (t := t)  hst hG hL g 20) rfl rfl rfl dX8_recovers_69 rfl kx_no (fun h7 => ?_)
    refine v_iload C dX8_recovers_72 rfl 0 rfl ?_
    refine v_iconst C (v := 3) dX8_recovers_74 rfl rfl ?_
    refine v_iload_n C dX8_recovers_75 rfl 4 rfl ?_
    refine v_imul C dX8_recovers_76 rfl ?_
    refine v_isub C dX8_recovers_77 rfl ?_
    refine v_imul C dX8_recovers_78 rfl ?_
    refine v_bipush C (v := 100) dX8_recovers_79 rfl rfl ?_
    refine v_idiv C dX8_recovers_81 rfl (by decide) ?_
    exact v_iret C (by decide) (by decide) dX8_recovers_82 ⟨congrArg (fun z => some (Value.int z)) (by first | rfl | (simp only [eq_true h1, recF, minF, mostF, hundF, bI, pM, pU, n10, n20, n30, n0, if_true, if_false, ite_true, ite_false, not_true_eq_false, not_false_eq_true, and_true, true_and, and_false, false_and, or_true, true_or, or_false, false_or, reduceIte, and_self, or_self, ne_eq, eq_self_iff_true]; first | done | rfl) | (simp [bI, eq_true h1, recF, minF, mostF, hundF]; done) | (simp only [recF, minF, mostF, hundF, bI, ← Int32.not_le] at *; simp [eq_true h1]; done) | (simp_all [bI, eq_true h1, recF, minF, mostF, hundF]; done) | (simp_all [bI, eq_true h1, recF, minF, mostF, hundF]; rfl) | (exfalso; omega)), by rfl, by trivial⟩

abbrev r_X8_backed : Room := { frames := 0, cells := 0, slots := 0, locals := 0 }
set_option maxRecDepth 4000 in
theorem c_X8_backed {l : Launch} {G : GG} {a : AD} {s t s0 : SS} {L : List (Nat × Nat)} {nm : Nat} (hst : l.stackTraces = false) (hG : GOK G) (hL : Live L s0) (x : Int32) (j_x : Nat) (e_x : x = nI j_x) (l_x : j_x < 12) (hm : t 12 0 = nI nm) (hm12 : nm ≤ 12) : Mth l yX8_backed cX8_backed 4 (Option.some Jvm.ClassFile.FieldType.int) r_X8_backed G (wl a (E G.2.2.1 a s t) L) [.ref (a 0 0), .int x] (RI (.int (sumN (fun b => t 20 (12 * j_x + b)) nm)) (wl a (E G.2.2.1 a s t) L) (True)) nX := by
  refine mth_of rfl (Nat.le_of_ble_eq_true rfl) hst hG (fun X hX C0 => ?_)
  subst hX
  have C : Cx X G cX8_backed 4 RX8 (Option.some Jvm.ClassFile.FieldType.int) r_X8_backed "backed" [] := C0
  clear C0
  show V X G 4 _ 0 0 _ 0 [(0, .ref (a 0 0)), (1, .int (x))] []
  subst e_x
  refine v_iconst C (v := 0) dX8_backed_0 rfl rfl ?_
  refine v_istore_n C (lv1 := [(2, .int (0)), (0, .ref (a 0 0)), (1, .int (nI (j_x)))]) dX8_backed_1 rfl (by decide) rfl ?_
  refine v_iconst C (v := 0) dX8_backed_2 rfl rfl ?_
  refine v_istore_n C (lv1 := [(3, .int (0)), (2, .int (0)), (0, .ref (a 0 0)), (1, .int (nI (j_x)))]) dX8_backed_3 rfl (by decide) rfl ?_
  refine xx_lv [2, 3, 1, 0] (lv' := [(0, .ref (a 0 0)), (1, .int (nI (j_x))), (2, .int (0)), (3, .int (0))]) rfl ?_
  refine xx_wc (w2 := wl a (E G.2.2.1 a s t) L) (lv' := [(0, .ref (a 0 0)), (1, .int (nI (j_x))), (2, .int (sumN (fun b => t 20 (12 * j_x + b)) (0))), (3, .int (nI (0)))]) (by rfl) (by first | rfl | (simp [bI, sumN]; done)) ?_
  refine xx_loop (nm) 0 (fun i => wl a (E G.2.2.1 a s t) L) (fun i => [(0, .ref (a 0 0)), (1, .int (nI (j_x))), (2, .int (sumN (fun b => t 20 (12 * j_x + b)) (i))), (3, .int (nI (i)))]) (by omega) ?_
  intro i hi0 hiN ih_i
  refine v_iload_n C dX8_backed_4 rfl 3 rfl ?_
  refine v_aload_n C dX8_backed_5 rfl 0 rfl ?_
  refine v_get C (v := .int (t 12 0)) g_X8_127 (m0 (s := s) (t := t) (g := G.2.2.1) hL) (rg (by decide) rfl) dX8_backed_6 rfl ?_
  refine xx_top (y := nI nm) hm ?_
  refine v_icN_ge C (t := 32) i nm rfl rfl (by omega) (by omega) dX8_backed_9 rfl rfl (fun h1 => ?_) (fun h1 => ?_)
  · skip
    refine v_iload_n C dX8_backed_32 rfl 2 rfl ?_
    exact v_iret C (by decide) (by decide) dX8_backed_33 ⟨congrArg (fun z => some (Value.int z)) (by (have : i = nm := by omega); subst this; rfl), by rfl, by trivial⟩
  · skip
    refine v_iload_n C dX8_backed_12 rfl 2 rfl ?_
    refine v_aload_n C dX8_backed_13 rfl 0 rfl ?_
    refine v_get C (v := .ref (a 1 20)) g_X8_56 (m0 (s := s) (t := t) (g := G.2.2.1) hL) (rg (by decide) rfl) dX8_backed_14 rfl ?_
    refine v_bipush C (v := 12) dX8_backed_17 rfl rfl ?_
    refine v_iload_n C dX8_backed_19 rfl 1 rfl ?_
    refine v_imulN C 12 j_x rfl rfl dX8_backed_20 rfl ?_
    refine v_iload_n C dX8_backed_21 rfl 3 rfl ?_
    refine v_iaddN C (12 * j_x) i rfl rfl dX8_backed_22 rfl ?_
    refine v_ialdE C (len := 144) ((12 * j_x) + i) (m1 (s := s) (t := t) (g := G.2.2.1) hL 20 rfl) (nI_clamp (by omega)) (pk_in ((12 * j_x) + i) 144 (by omega)) dX8_backed_23 rfl ?_
    refine v_iadd C dX8_backed_24 rfl ?_
    refine v_istore_n C (lv1 := [(2, .int ((sumN (fun b => t 20 (12 * j_x + b)) (i)) + (t 20 ((12 * j_x) + i)))), (0, .ref (a 0 0)), (1, .int (nI (j_x))), (3, .int (nI (i)))]) dX8_backed_25 rfl (by decide) rfl ?_
    refine v_iincN C (lv1 := [(3, .int (nI (i + 1))), (2, .int ((sumN (fun b => t 20 (12 * j_x + b)) (i)) + (t 20 ((12 * j_x) + i)))), (0, .ref (a 0 0)), (1, .int (nI (j_x)))]) i rfl dX8_backed_26 rfl 3 rfl (by decide) rfl ?_
    refine v_goto C (q := 4) dX8_backed_29 rfl ?_
    refine xx_lv [2, 3, 1, 0] (lv' := [(0, .ref (a 0 0)), (1, .int (nI (j_x))), (2, .int ((sumN (fun b => t 20 (12 * j_x + b)) (i)) + (t 20 ((12 * j_x) + i)))), (3, .int (nI (i + 1)))]) rfl ?_
    refine xx_wc (w2 := wl a (E G.2.2.1 a s t) L) (lv' := [(0, .ref (a 0 0)), (1, .int (nI (j_x))), (2, .int (sumN (fun b => t 20 (12 * j_x + b)) ((i + 1)))), (3, .int (nI (i + 1)))]) (by rfl) (by first | rfl | (simp [h1, Nat.not_le.mpr h1, sumN, Nat.add_assoc])) ?_
    exact ih_i (by omega)

abbrev r_X8_inGround : Room := { frames := 0, cells := 0, slots := 0, locals := 0 }
set_option maxRecDepth 4000 in
theorem c_X8_inGround {l : Launch} {G : GG} {a : AD} {s t s0 : SS} {L : List (Nat × Nat)}  (hst : l.stackTraces = false) (hG : GOK G) (hL : Live L s0)   : Mth l yX8_inGround cX8_inGround 3 (Option.some Jvm.ClassFile.FieldType.int) r_X8_inGround G (wl a (E G.2.2.1 a s t) L) [.ref (a 0 0)] (RI (.int (sumN (t 9) 40)) (wl a (E G.2.2.1 a s t) L) (True)) nX := by
  refine mth_of rfl (Nat.le_of_ble_eq_true rfl) hst hG (fun X hX C0 => ?_)
  subst hX
  have C : Cx X G cX8_inGround 3 RX8 (Option.some Jvm.ClassFile.FieldType.int) r_X8_inGround "inGround" [] := C0
  clear C0
  show V X G 3 _ 0 0 _ 0 [(0, .ref (a 0 0))] []
  refine v_iconst C (v := 0) dX8_inGround_0 rfl rfl ?_
  refine v_istore_n C (lv1 := [(1, .int (0)), (0, .ref (a 0 0))]) dX8_inGround_1 rfl (by decide) rfl ?_
  refine v_iconst C (v := 0) dX8_inGround_2 rfl rfl ?_
  refine v_istore_n C (lv1 := [(2, .int (0)), (1, .int (0)), (0, .ref (a 0 0))]) dX8_inGround_3 rfl (by decide) rfl ?_
  refine xx_lv [2, 1, 0] (lv' := [(0, .ref (a 0 0)), (1, .int (0)), (2, .int (0))]) rfl ?_
  refine xx_wc (w2 := wl a (E G.2.2.1 a s t) L) (lv' := [(0, .ref (a 0 0)), (1, .int (sumN (t 9) (0))), (2, .int (nI (0)))]) (by rfl) (by first | rfl | (simp [bI, sumN]; done)) ?_
  refine xx_loop (40) 0 (fun i => wl a (E G.2.2.1 a s t) L) (fun i => [(0, .ref (a 0 0)), (1, .int (sumN (t 9) (i))), (2, .int (nI (i)))]) (by omega) ?_
  intro i hi0 hiN ih_i
  refine v_iload_n C dX8_inGround_4 rfl 2 rfl ?_
  refine v_bipush C (v := 40) dX8_inGround_5 rfl rfl ?_
  refine v_icN_ge C (t := 25) i 40 rfl rfl (by omega) (by omega) dX8_inGround_7 rfl rfl (fun h1 => ?_) (fun h1 => ?_)
  · skip
    refine v_iload_n C dX8_inGround_25 rfl 1 rfl ?_
    exact v_iret C (by decide) (by decide) dX8_inGround_26 ⟨congrArg (fun z => some (Value.int z)) (by (have : i = 40 := by omega); subst this; rfl), by rfl, by trivial⟩
  · skip
    refine v_iload_n C dX8_inGround_10 rfl 1 rfl ?_
    refine v_aload_n C dX8_inGround_11 rfl 0 rfl ?_
    refine v_get C (v := .ref (a 1 9)) g_X8_25 (m0 (s := s) (t := t) (g := G.2.2.1) hL) (rg (by decide) rfl) dX8_inGround_12 rfl ?_
    refine v_iload_n C dX8_inGround_15 rfl 2 rfl ?_
    refine v_ialdE C (len := 40) i (m1 (s := s) (t := t) (g := G.2.2.1) hL 9 rfl) (nI_clamp (by omega)) (pk_in i 40 (by omega)) dX8_inGround_16 rfl ?_
    refine v_iadd C dX8_inGround_17 rfl ?_
    refine v_istore_n C (lv1 := [(1, .int ((sumN (t 9) (i)) + (t 9 i))), (0, .ref (a 0 0)), (2, .int (nI (i)))]) dX8_inGround_18 rfl (by decide) rfl ?_
    refine v_iincN C (lv1 := [(2, .int (nI (i + 1))), (1, .int ((sumN (t 9) (i)) + (t 9 i))), (0, .ref (a 0 0))]) i rfl dX8_inGround_19 rfl 2 rfl (by decide) rfl ?_
    refine v_goto C (q := 4) dX8_inGround_22 rfl ?_
    refine xx_lv [2, 1, 0] (lv' := [(0, .ref (a 0 0)), (1, .int ((sumN (t 9) (i)) + (t 9 i))), (2, .int (nI (i + 1)))]) rfl ?_
    refine xx_wc (w2 := wl a (E G.2.2.1 a s t) L) (lv' := [(0, .ref (a 0 0)), (1, .int (sumN (t 9) ((i + 1)))), (2, .int (nI (i + 1)))]) (by rfl) (by first | rfl | (simp [h1, Nat.not_le.mpr h1, sumN, Nat.add_assoc])) ?_
    exact ih_i (by omega)

abbrev r_X8_withMiners : Room := { frames := 0, cells := 0, slots := 0, locals := 0 }
set_option maxRecDepth 4000 in
theorem c_X8_withMiners {l : Launch} {G : GG} {a : AD} {s t s0 : SS} {L : List (Nat × Nat)} {nm : Nat} (hst : l.stackTraces = false) (hG : GOK G) (hL : Live L s0)  (hm : t 12 0 = nI nm) (hm12 : nm ≤ 12) : Mth l yX8_withMiners cX8_withMiners 3 (Option.some Jvm.ClassFile.FieldType.int) r_X8_withMiners G (wl a (E G.2.2.1 a s t) L) [.ref (a 0 0)] (RI (.int (sumN (t 13) nm)) (wl a (E G.2.2.1 a s t) L) (True)) nX := by
  refine mth_of rfl (Nat.le_of_ble_eq_true rfl) hst hG (fun X hX C0 => ?_)
  subst hX
  have C : Cx X G cX8_withMiners 3 RX8 (Option.some Jvm.ClassFile.FieldType.int) r_X8_withMiners "withMiners" [] := C0
  clear C0
  show V X G 3 _ 0 0 _ 0 [(0, .ref (a 0 0))] []
  refine v_iconst C (v := 0) dX8_withMiners_0 rfl rfl ?_
  refine v_istore_n C (lv1 := [(1, .int (0)), (0, .ref (a 0 0))]) dX8_withMiners_1 rfl (by decide) rfl ?_
  refine v_iconst C (v := 0) dX8_withMiners_2 rfl rfl ?_
  refine v_istore_n C (lv1 := [(2, .int (0)), (1, .int (0)), (0, .ref (a 0 0))]) dX8_withMiners_3 rfl (by decide) rfl ?_
  refine xx_lv [2, 1, 0] (lv' := [(0, .ref (a 0 0)), (1, .int (0)), (2, .int (0))]) rfl ?_
  refine xx_wc (w2 := wl a (E G.2.2.1 a s t) L) (lv' := [(0, .ref (a 0 0)), (1, .int (sumN (t 13) (0))), (2, .int (nI (0)))]) (by rfl) (by first | rfl | (simp [bI, sumN]; done)) ?_
  refine xx_loop (nm) 0 (fun i => wl a (E G.2.2.1 a s t) L) (fun i => [(0, .ref (a 0 0)), (1, .int (sumN (t 13) (i))), (2, .int (nI (i)))]) (by omega) ?_
  intro i hi0 hiN ih_i
  refine v_iload_n C dX8_withMiners_4 rfl 2 rfl ?_
  refine v_aload_n C dX8_withMiners_5 rfl 0 rfl ?_
  refine v_get C (v := .int (t 12 0)) g_X8_127 (m0 (s := s) (t := t) (g := G.2.2.1) hL) (rg (by decide) rfl) dX8_withMiners_6 rfl ?_
  refine xx_top (y := nI nm) hm ?_
  refine v_icN_ge C (t := 27) i nm rfl rfl (by omega) (by omega) dX8_withMiners_9 rfl rfl (fun h1 => ?_) (fun h1 => ?_)
  · skip
    refine v_iload_n C dX8_withMiners_27 rfl 1 rfl ?_
    exact v_iret C (by decide) (by decide) dX8_withMiners_28 ⟨congrArg (fun z => some (Value.int z)) (by (have : i = nm := by omega); subst this; rfl), by rfl, by trivial⟩
  · skip
    refine v_iload_n C dX8_withMiners_12 rfl 1 rfl ?_
    refine v_aload_n C dX8_withMiners_13 rfl 0 rfl ?_
    refine v_get C (v := .ref (a 1 13)) g_X8_35 (m0 (s := s) (t := t) (g := G.2.2.1) hL) (rg (by decide) rfl) dX8_withMiners_14 rfl ?_
    refine v_iload_n C dX8_withMiners_17 rfl 2 rfl ?_
    refine v_ialdE C (len := 12) i (m1 (s := s) (t := t) (g := G.2.2.1) hL 13 rfl) (nI_clamp (by omega)) (pk_in i 12 (by omega)) dX8_withMiners_18 rfl ?_
    refine v_iadd C dX8_withMiners_19 rfl ?_
    refine v_istore_n C (lv1 := [(1, .int ((sumN (t 13) (i)) + (t 13 i))), (0, .ref (a 0 0)), (2, .int (nI (i)))]) dX8_withMiners_20 rfl (by decide) rfl ?_
    refine v_iincN C (lv1 := [(2, .int (nI (i + 1))), (1, .int ((sumN (t 13) (i)) + (t 13 i))), (0, .ref (a 0 0))]) i rfl dX8_withMiners_21 rfl 2 rfl (by decide) rfl ?_
    refine v_goto C (q := 4) dX8_withMiners_24 rfl ?_
    refine xx_lv [2, 1, 0] (lv' := [(0, .ref (a 0 0)), (1, .int ((sumN (t 13) (i)) + (t 13 i))), (2, .int (nI (i + 1)))]) rfl ?_
    refine xx_wc (w2 := wl a (E G.2.2.1 a s t) L) (lv' := [(0, .ref (a 0 0)), (1, .int (sumN (t 13) ((i + 1)))), (2, .int (nI (i + 1)))]) (by rfl) (by first | rfl | (simp [h1, Nat.not_le.mpr h1, sumN, Nat.add_assoc])) ?_
    exact ih_i (by omega)

abbrev r_X8_shares : Room := { frames := 0, cells := 0, slots := 0, locals := 0 }
set_option maxRecDepth 4000 in
theorem c_X8_shares {l : Launch} {G : GG} {a : AD} {s t s0 : SS} {L : List (Nat × Nat)} {nm : Nat} (hst : l.stackTraces = false) (hG : GOK G) (hL : Live L s0) (x : Int32) (j_x : Nat) (e_x : x = nI j_x) (l_x : j_x < 12) (m : Int32) (hm : t 12 0 = nI nm) (hm12 : nm ≤ 12) : Mth l yX8_shares cX8_shares 6 (Option.none : Option Jvm.ClassFile.FieldType) r_X8_shares G (wl a (E G.2.2.1 a s t) L) [.ref (a 0 0), .int x, .int m] (RV (wl a (E G.2.2.1 a s (shaF t j_x m nm)) L) (True)) nX := by
  refine mth_of rfl (Nat.le_of_ble_eq_true rfl) hst hG (fun X hX C0 => ?_)
  subst hX
  have C : Cx X G cX8_shares 6 RX8 (Option.none : Option Jvm.ClassFile.FieldType) r_X8_shares "shares" [] := C0
  clear C0
  show V X G 6 _ 0 0 _ 0 [(0, .ref (a 0 0)), (1, .int (x)), (2, .int (m))] []
  subst e_x
  refine v_iload_n C dX8_shares_0 rfl 2 rfl ?_
  refine v_istore_n C (lv1 := [(3, .int (m)), (0, .ref (a 0 0)), (1, .int (nI (j_x))), (2, .int (m))]) dX8_shares_1 rfl (by decide) rfl ?_
  refine v_iconst C (v := 0) dX8_shares_2 rfl rfl ?_
  refine v_istore C (lv1 := [(4, .int (0)), (3, .int (m)), (0, .ref (a 0 0)), (1, .int (nI (j_x))), (2, .int (m))]) dX8_shares_3 rfl (by decide) rfl ?_
  refine xx_lv [2, 3, 4, 1, 0] (lv' := [(0, .ref (a 0 0)), (1, .int (nI (j_x))), (2, .int (m)), (3, .int (m)), (4, .int (0))]) rfl ?_
  refine xx_wc (w2 := wl a (E G.2.2.1 a s (shW t j_x m (0))) L) (lv' := [(0, .ref (a 0 0)), (1, .int (nI (j_x))), (2, .int (m)), (3, .int (shL t j_x m (0))), (4, .int (nI (0)))]) (by rfl) (by first | rfl | (simp [bI, shW, shL]; done)) ?_
  refine xx_loop (nm) 0 (fun i => wl a (E G.2.2.1 a s (shW t j_x m (i))) L) (fun i => [(0, .ref (a 0 0)), (1, .int (nI (j_x))), (2, .int (m)), (3, .int (shL t j_x m (i))), (4, .int (nI (i)))]) (by omega) ?_
  intro i hi0 hiN ih_i
  refine v_iload C dX8_shares_5 rfl 4 rfl ?_
  refine v_aload_n C dX8_shares_7 rfl 0 rfl ?_
  refine v_get C (v := .int ((shW t j_x m (i)) 12 0)) g_X8_127 (m0 (s := s) (t := ((shW t j_x m (i)))) (g := G.2.2.1) hL) (rg (by decide) rfl) dX8_shares_8 rfl ?_
  refine xx_top (y := t 12 0) (congrFun (shW_o (k := 12) (by decide) _) _) ?_
  refine xx_top (y := nI nm) hm ?_
  refine v_icN_ge C (t := 56) i nm rfl rfl (by omega) (by omega) dX8_shares_11 rfl rfl (fun h1 => ?_) (fun h1 => ?_)
  · skip
    refine v_aload_n C dX8_shares_56 rfl 0 rfl ?_
    refine v_get C (v := .ref (a 1 13)) g_X8_35 (m0 (s := s) (t := ((shW t j_x m (i)))) (g := G.2.2.1) hL) (rg (by decide) rfl) dX8_shares_57 rfl ?_
    refine v_iload_n C dX8_shares_60 rfl 1 rfl ?_
    refine v_dup2 C dX8_shares_61 rfl rfl rfl ?_
    refine v_ialdE C (len := 12) j_x (m1 (s := s) (t := ((shW t j_x m (i)))) (g := G.2.2.1) hL 13 rfl) (nI_clamp (by omega)) (pk_in j_x 12 (by omega)) dX8_shares_62 rfl ?_
    refine v_iload_n C dX8_shares_63 rfl 3 rfl ?_
    refine v_iadd C dX8_shares_64 rfl ?_
    refine v_iastE C (len := 12) j_x (put_m1 (s := s) (t := ((shW t j_x m (i)))) (g := G.2.2.1) hL 13 rfl j_x (((shW t j_x m (i)) 13 j_x) + (shL t j_x m (i)))) (nI_clamp (by omega)) (pk_in j_x 12 (by omega)) dX8_shares_65 rfl ?_
    exact v_vret C (by decide) (by decide) dX8_shares_66 ⟨rfl, by (have : i = nm := by omega); subst this; rfl, by trivial⟩
  · skip
    refine v_iload_n C dX8_shares_14 rfl 2 rfl ?_
    refine v_aload_n C dX8_shares_15 rfl 0 rfl ?_
    refine v_get C (v := .ref (a 1 20)) g_X8_56 (m0 (s := s) (t := ((shW t j_x m (i)))) (g := G.2.2.1) hL) (rg (by decide) rfl) dX8_shares_16 rfl ?_
    refine v_bipush C (v := 12) dX8_shares_19 rfl rfl ?_
    refine v_iload_n C dX8_shares_21 rfl 1 rfl ?_
    refine v_imulN C 12 j_x rfl rfl dX8_shares_22 rfl ?_
    refine v_iload C dX8_shares_23 rfl 4 rfl ?_
    refine v_iaddN C (12 * j_x) i rfl rfl dX8_shares_25 rfl ?_
    refine v_ialdE C (len := 144) ((12 * j_x) + i) (m1 (s := s) (t := ((shW t j_x m (i)))) (g := G.2.2.1) hL 20 rfl) (nI_clamp (by omega)) (pk_in ((12 * j_x) + i) 144 (by omega)) dX8_shares_26 rfl ?_
    refine xx_top (y := t 20 ((12 * j_x) + i)) (congrFun (shW_o (k := 20) (by decide) _) _) ?_
    refine v_imul C dX8_shares_27 rfl ?_
    refine v_bipush C (v := 100) dX8_shares_28 rfl rfl ?_
    refine v_idiv C dX8_shares_30 rfl (by decide) ?_
    refine v_istore C (lv1 := [(5, .int ((m * (t 20 ((12 * j_x) + i))) / 100)), (0, .ref (a 0 0)), (1, .int (nI (j_x))), (2, .int (m)), (3, .int (shL t j_x m (i))), (4, .int (nI (i)))]) dX8_shares_31 rfl (by decide) rfl ?_
    refine v_aload_n C dX8_shares_33 rfl 1 rfl ?_
    refine v_get C (v := .ref (a 1 13)) g_X8_35 (m0 (s := s) (t := ((shW t j_x m (i)))) (g := G.2.2.1) hL) (rg (by decide) rfl) dX8_shares_34 rfl ?_
    refine v_iload C dX8_shares_37 rfl 5 rfl ?_
    refine v_dup2 C dX8_shares_39 rfl rfl rfl ?_
    refine v_ialdE C (len := 12) i (m1 (s := s) (t := ((shW t j_x m (i)))) (g := G.2.2.1) hL 13 rfl) (nI_clamp (by omega)) (pk_in i 12 (by omega)) dX8_shares_40 rfl ?_
    refine v_iload C dX8_shares_41 rfl 0 rfl ?_
    refine v_iadd C dX8_shares_43 rfl ?_
    refine v_iastE C (len := 12) i (put_m1 (s := s) (t := ((shW t j_x m (i)))) (g := G.2.2.1) hL 13 rfl i (((shW t j_x m (i)) 13 i) + ((m * (t 20 ((12 * j_x) + i))) / 100))) (nI_clamp (by omega)) (pk_in i 12 (by omega)) dX8_shares_44 rfl ?_
    refine v_iload_n C dX8_shares_45 rfl 4 rfl ?_
    refine v_iload C dX8_shares_46 rfl 0 rfl ?_
    refine v_isub C dX8_shares_48 rfl ?_
    refine v_istore_n C (lv1 := [(3, .int ((shL t j_x m (i)) - ((m * (t 20 ((12 * j_x) + i))) / 100))), (5, .int ((m * (t 20 ((12 * j_x) + i))) / 100)), (0, .ref (a 0 0)), (1, .int (nI (j_x))), (2, .int (m)), (4, .int (nI (i)))]) dX8_shares_49 rfl (by decide) rfl ?_
    refine v_iincN C (lv1 := [(4, .int (nI (i + 1))), (3, .int ((shL t j_x m (i)) - ((m * (t 20 ((12 * j_x) + i))) / 100))), (5, .int ((m * (t 20 ((12 * j_x) + i))) / 100)), (0, .ref (a 0 0)), (1, .int (nI (j_x))), (2, .int (m))]) i rfl dX8_shares_50 rfl 5 rfl (by decide) rfl ?_
    refine v_goto C (q := 5) dX8_shares_53 rfl ?_
    refine xx_lv [3, 4, 5, 1, 0] (lv' := [(0, .ref (a 0 0)), (1, .int (nI (j_x))), (2, .int (m)), (3, .int ((shL t j_x m (i)) - ((m * (t 20 ((12 * j_x) + i))) / 100))), (4, .int (nI (i + 1)))]) rfl ?_
    refine xx_wc (w2 := wl a (E G.2.2.1 a s (shW t j_x m ((i + 1)))) L) (lv' := [(0, .ref (a 0 0)), (1, .int (nI (j_x))), (2, .int (m)), (3, .int (shL t j_x m ((i + 1)))), (4, .int (nI (i + 1)))]) (by first | rfl | (simp [h1, Nat.not_le.mpr h1, shW, shL])) (by first | rfl | (simp [h1, Nat.not_le.mpr h1, shW, shL, Nat.add_assoc])) ?_
    exact ih_i (by omega)

abbrev r_X8_mayWork : Room := { frames := 2, cells := 0, slots := 0, locals := 45 }
set_option maxRecDepth 4000 in
theorem c_X8_mayWork {l : Launch} {G : GG} {a : AD} {s t s0 : SS} {L : List (Nat × Nat)} {nc : Nat} (hst : l.stackTraces = false) (hG : GOK G) (hL : Live L s0) (x : Int32) (c : Int32) (m : Int32) (hc : t 21 0 = nI nc) (hc30 : nc ≤ 30) : Mth l yX8_mayWork cX8_mayWork 5 (Option.some Jvm.ClassFile.FieldType.boolean) r_X8_mayWork G (wl a (E G.2.2.1 a s t) L) [.ref (a 0 0), .int x, .int c, .int m] (RI (.int (mayF t nc x c m)) (wl a (E G.2.2.1 a s t) L) (True)) nX := by
  refine mth_of rfl (Nat.le_of_ble_eq_true rfl) hst hG (fun X hX C0 => ?_)
  subst hX
  have C : Cx X G cX8_mayWork 5 RX8 (Option.some Jvm.ClassFile.FieldType.boolean) r_X8_mayWork "mayWork" [] := C0
  clear C0
  show V X G 5 _ 0 0 _ 0 [(0, .ref (a 0 0)), (1, .int (x)), (2, .int (c)), (3, .int (m))] []
  refine v_aload_n C dX8_mayWork_0 rfl 0 rfl ?_
  refine v_iload_n C dX8_mayWork_1 rfl 2 rfl ?_
  refine w_invVr C [.int (c)] 0 0 L_X8_172 (c_X8_heldAt (s := s) (t := t) (nc := nc) hst hG hL c hc hc30) (m0 (s := s) (t := t) (g := G.2.2.1) hL) rfl rfl rfl rfl dX8_mayWork_2 rfl kx_no (fun h1 => ?_)
  refine v_istore C (lv1 := [(4, .int (heldM t c nc)), (0, .ref (a 0 0)), (1, .int (x)), (2, .int (c)), (3, .int (m))]) dX8_mayWork_5 rfl (by decide) rfl ?_
  refine v_iload C dX8_mayWork_7 rfl 0 rfl ?_
  refine v_iconst C (v := (-1)) dX8_mayWork_9 rfl rfl ?_
  refine v_icmp_ne C (t := 25) dX8_mayWork_10 rfl rfl (fun h2 => ?_) (fun h2 => ?_)
  · skip
    refine v_aload_n C dX8_mayWork_25 rfl 1 rfl ?_
    refine v_get C (v := .ref (a 1 22)) g_X8_59 (m0 (s := s) (t := t) (g := G.2.2.1) hL) (rg (by decide) rfl) dX8_mayWork_26 rfl ?_
    refine v_iload C dX8_mayWork_29 rfl 0 rfl ?_
    refine v_iald C (len := 30) (m1 (s := s) (t := t) (g := G.2.2.1) hL 22 rfl) (heldM_vp (by assumption) hc30) dX8_mayWork_31 rfl ?_
    refine v_iload_n C dX8_mayWork_32 rfl 2 rfl ?_
    refine v_icmp_ne C (t := 40) dX8_mayWork_33 rfl rfl (fun h3 => ?_) (fun h3 => ?_)
    · skip
      refine v_iconst C (v := 0) dX8_mayWork_40 rfl rfl ?_
      exact v_zret C rfl (by decide) (by decide) dX8_mayWork_41 ⟨congrArg (fun z => some (Value.int z)) (by first | rfl | (simp only [h2, h3, mayF, bI, pM, pU, n10, n20, n30, n0, if_true, if_false, ite_true, ite_false, not_true_eq_false, not_false_eq_true, and_true, true_and, and_false, false_and, or_true, true_or, or_false, false_or, reduceIte, and_self, or_self, ne_eq, eq_self_iff_true]; first | done | rfl) | (simp [bI, h2, h3, mayF]; done) | (simp only [mayF, bI, ← Int32.not_le] at *; simp [h2, h3]; done) | (simp_all [bI, h2, h3, mayF]; done) | (simp_all [bI, h2, h3, mayF]; rfl) | (exfalso; omega)), by rfl, by trivial⟩
    · skip
      refine v_iconst C (v := 1) dX8_mayWork_36 rfl rfl ?_
      refine v_goto C (q := 41) dX8_mayWork_37 rfl ?_
      exact v_zret C rfl (by decide) (by decide) dX8_mayWork_41 ⟨congrArg (fun z => some (Value.int z)) (by first | rfl | (simp only [h2, eq_true h3, mayF, bI, pM, pU, n10, n20, n30, n0, if_true, if_false, ite_true, ite_false, not_true_eq_false, not_false_eq_true, and_true, true_and, and_false, false_and, or_true, true_or, or_false, false_or, reduceIte, and_self, or_self, ne_eq, eq_self_iff_true]; first | done | rfl) | (simp [bI, h2, eq_true h3, mayF]; done) | (simp only [mayF, bI, ← Int32.not_le] at *; simp [h2, eq_true h3]; done) | (simp_all [bI, h2, eq_true h3, mayF]; done) | (simp_all [bI, h2, eq_true h3, mayF]; rfl) | (exfalso; omega)), by rfl, by trivial⟩
  · skip
    refine v_iload_n C dX8_mayWork_13 rfl 4 rfl ?_
    refine v_if_ne C (t := 21) dX8_mayWork_14 rfl rfl (fun h4 => ?_) (fun h4 => ?_)
    · skip
      refine v_iconst C (v := 0) dX8_mayWork_21 rfl rfl ?_
      refine v_goto C (q := 41) dX8_mayWork_22 rfl ?_
      exact v_zret C rfl (by decide) (by decide) dX8_mayWork_41 ⟨congrArg (fun z => some (Value.int z)) (by first | rfl | (simp only [eq_true h2, h4, mayF, bI, pM, pU, n10, n20, n30, n0, if_true, if_false, ite_true, ite_false, not_true_eq_false, not_false_eq_true, and_true, true_and, and_false, false_and, or_true, true_or, or_false, false_or, reduceIte, and_self, or_self, ne_eq, eq_self_iff_true]; first | done | rfl) | (simp [bI, eq_true h2, h4, mayF]; done) | (simp only [mayF, bI, ← Int32.not_le] at *; simp [eq_true h2, h4]; done) | (simp_all [bI, eq_true h2, h4, mayF]; done) | (simp_all [bI, eq_true h2, h4, mayF]; rfl) | (exfalso; omega)), by rfl, by trivial⟩
    · skip
      refine v_iconst C (v := 1) dX8_mayWork_17 rfl rfl ?_
      refine v_goto C (q := 41) dX8_mayWork_18 rfl ?_
      exact v_zret C rfl (by decide) (by decide) dX8_mayWork_41 ⟨congrArg (fun z => some (Value.int z)) (by first | rfl | (simp only [eq_true h2, eq_true h4, mayF, bI, pM, pU, n10, n20, n30, n0, if_true, if_false, ite_true, ite_false, not_true_eq_false, not_false_eq_true, and_true, true_and, and_false, false_and, or_true, true_or, or_false, false_or, reduceIte, and_self, or_self, ne_eq, eq_self_iff_true]; first | done | rfl) | (simp [bI, eq_true h2, eq_true h4, mayF]; done) | (simp only [mayF, bI, ← Int32.not_le] at *; simp [eq_true h2, eq_true h4]; done) | (simp_all [bI, eq_true h2, eq_true h4, mayF]; done) | (simp_all [bI, eq_true h2, eq_true h4, mayF]; rfl) | (exfalso; omega)), by rfl, by trivial⟩

abbrev r_X8_eats : Room := { frames := 1, cells := 0, slots := 0, locals := 21 }
set_option maxRecDepth 4000 in
theorem c_X8_eats {l : Launch} {G : GG} {a : AD} {s t s0 : SS} {L : List (Nat × Nat)}  (hst : l.stackTraces = false) (hG : GOK G) (hL : Live L s0) (x : Int32) (j_x : Nat) (e_x : x = nI j_x) (l_x : j_x < 12)  : Mth l yX8_eats cX8_eats 2 (Option.none : Option Jvm.ClassFile.FieldType) r_X8_eats G (wl a (E G.2.2.1 a s t) L) [.ref (a 0 0), .int x] (RV (wl a (E G.2.2.1 a s (eatF t j_x)) L) (True)) nX := by
  refine mth_of rfl (Nat.le_of_ble_eq_true rfl) hst hG (fun X hX C0 => ?_)
  subst hX
  have C : Cx X G cX8_eats 2 RX8 (Option.none : Option Jvm.ClassFile.FieldType) r_X8_eats "eats" [] := C0
  clear C0
  show V X G 2 _ 0 0 _ 0 [(0, .ref (a 0 0)), (1, .int (x))] []
  subst e_x
  refine v_aload_n C dX8_eats_0 rfl 0 rfl ?_
  refine v_get C (v := .ref (a 1 15)) g_X8_41 (m0 (s := s) (t := t) (g := G.2.2.1) hL) (rg (by decide) rfl) dX8_eats_1 rfl ?_
  refine v_iload_n C dX8_eats_4 rfl 1 rfl ?_
  refine v_ialdE C (len := 12) j_x (m1 (s := s) (t := t) (g := G.2.2.1) hL 15 rfl) (nI_clamp (by omega)) (pk_in j_x 12 (by omega)) dX8_eats_5 rfl ?_
  refine v_if_le C (t := 41) dX8_eats_6 rfl rfl (fun h1 => ?_) (fun h1 => ?_)
  · skip
    refine v_aload_n C dX8_eats_41 rfl 0 rfl ?_
    refine v_get C (v := .ref (a 1 17)) g_X8_47 (m0 (s := s) (t := t) (g := G.2.2.1) hL) (rg (by decide) rfl) dX8_eats_42 rfl ?_
    refine v_iload_n C dX8_eats_45 rfl 1 rfl ?_
    refine v_aload_n C dX8_eats_46 rfl 0 rfl ?_
    refine v_get C (v := .ref (a 1 17)) g_X8_47 (m0 (s := s) (t := t) (g := G.2.2.1) hL) (rg (by decide) rfl) dX8_eats_47 rfl ?_
    refine v_iload_n C dX8_eats_50 rfl 1 rfl ?_
    refine v_ialdE C (len := 12) j_x (m1 (s := s) (t := t) (g := G.2.2.1) hL 17 rfl) (nI_clamp (by omega)) (pk_in j_x 12 (by omega)) dX8_eats_51 rfl ?_
    refine v_iconst C (v := 2) dX8_eats_52 rfl rfl ?_
    refine v_icmp_ge C (t := 60) dX8_eats_53 rfl rfl (fun h2 => ?_) (fun h2 => ?_)
    · skip
      refine v_aload_n C dX8_eats_60 rfl 0 rfl ?_
      refine v_get C (v := .ref (a 1 17)) g_X8_47 (m0 (s := s) (t := t) (g := G.2.2.1) hL) (rg (by decide) rfl) dX8_eats_61 rfl ?_
      refine v_iload_n C dX8_eats_64 rfl 1 rfl ?_
      refine v_ialdE C (len := 12) j_x (m1 (s := s) (t := t) (g := G.2.2.1) hL 17 rfl) (nI_clamp (by omega)) (pk_in j_x 12 (by omega)) dX8_eats_65 rfl ?_
      refine v_iconst C (v := 2) dX8_eats_66 rfl rfl ?_
      refine v_isub C dX8_eats_67 rfl ?_
      refine v_iastE C (len := 12) j_x (put_m1 (s := s) (t := t) (g := G.2.2.1) hL 17 rfl j_x ((t 17 j_x) - 2)) (nI_clamp (by omega)) (pk_in j_x 12 (by omega)) dX8_eats_68 rfl ?_
      exact v_vret C (by decide) (by decide) dX8_eats_69 ⟨rfl, by first | rfl | (simp [h1, Int32.not_lt.mpr h1, h2, Int32.not_lt.mpr h2, eatF, minF]; done) | (simp only [eatF, minF, ← Int32.not_le] at *; simp [h1, Int32.not_lt.mpr h1, h2, Int32.not_lt.mpr h2]; done), by trivial⟩
    · skip
      refine v_iconst C (v := 0) dX8_eats_56 rfl rfl ?_
      refine v_goto C (q := 68) dX8_eats_57 rfl ?_
      refine v_iastE C (len := 12) j_x (put_m1 (s := s) (t := t) (g := G.2.2.1) hL 17 rfl j_x 0) (nI_clamp (by omega)) (pk_in j_x 12 (by omega)) dX8_eats_68 rfl ?_
      exact v_vret C (by decide) (by decide) dX8_eats_69 ⟨rfl, by first | rfl | (simp [h1, Int32.not_lt.mpr h1, h2, Int32.not_le.mp h2, eatF, minF]; done) | (simp only [eatF, minF, ← Int32.not_le] at *; simp [h1, Int32.not_lt.mpr h1, h2, Int32.not_le.mp h2]; done), by trivial⟩
  · skip
    refine v_aload_n C dX8_eats_9 rfl 0 rfl ?_
    refine v_get C (v := .ref (a 1 15)) g_X8_41 (m0 (s := s) (t := t) (g := G.2.2.1) hL) (rg (by decide) rfl) dX8_eats_10 rfl ?_
    refine v_iload_n C dX8_eats_13 rfl 1 rfl ?_
    refine v_dup2 C dX8_eats_14 rfl rfl rfl ?_
    refine v_ialdE C (len := 12) j_x (m1 (s := s) (t := t) (g := G.2.2.1) hL 15 rfl) (nI_clamp (by omega)) (pk_in j_x 12 (by omega)) dX8_eats_15 rfl ?_
    refine v_iconst C (v := 1) dX8_eats_16 rfl rfl ?_
    refine v_isub C dX8_eats_17 rfl ?_
    refine v_iastE C (len := 12) j_x (put_m1 (s := s) (t := t) (g := G.2.2.1) hL 15 rfl j_x ((t 15 j_x) - 1)) (nI_clamp (by omega)) (pk_in j_x 12 (by omega)) dX8_eats_18 rfl ?_
    refine v_aload_n C dX8_eats_19 rfl 0 rfl ?_
    refine v_get C (v := .ref (a 1 17)) g_X8_47 (m0 (s := s) (t := ((su t 15 j_x ((t 15 j_x) - 1)))) (g := G.2.2.1) hL) (rg (by decide) rfl) dX8_eats_20 rfl ?_
    refine v_iload_n C dX8_eats_23 rfl 1 rfl ?_
    refine v_aload_n C dX8_eats_24 rfl 0 rfl ?_
    refine v_get C (v := .ref (a 1 17)) g_X8_47 (m0 (s := s) (t := ((su t 15 j_x ((t 15 j_x) - 1)))) (g := G.2.2.1) hL) (rg (by decide) rfl) dX8_eats_25 rfl ?_
    refine v_iload_n C dX8_eats_28 rfl 1 rfl ?_
    refine v_ialdE C (len := 12) j_x (m1 (s := s) (t := ((su t 15 j_x ((t 15 j_x) - 1)))) (g := G.2.2.1) hL 17 rfl) (nI_clamp (by omega)) (pk_in j_x 12 (by omega)) dX8_eats_29 rfl ?_
    refine xx_top (y := t 17 j_x) rfl ?_
    refine v_iconst C (v := 1) dX8_eats_30 rfl rfl ?_
    refine v_iadd C dX8_eats_31 rfl ?_
    refine v_bipush C (v := 10) dX8_eats_32 rfl rfl ?_
    refine w_invSr C [.int ((t 17 j_x) + 1), .int (10)] 0 0 L_X8_148 (c_X8_lesser (s := s) (t := ((su t 15 j_x ((t 15 j_x) - 1))))  hst hG hL ((t 17 j_x) + 1) 10) rfl rfl rfl dX8_eats_34 rfl kx_no (fun h3 => ?_)
    refine v_iastE C (len := 12) j_x (put_m1 (s := s) (t := ((su t 15 j_x ((t 15 j_x) - 1)))) (g := G.2.2.1) hL 17 rfl j_x (if ((t 17 j_x) + 1) < 10 then ((t 17 j_x) + 1) else 10)) (nI_clamp (by omega)) (pk_in j_x 12 (by omega)) dX8_eats_37 rfl ?_
    refine v_goto C (q := 69) dX8_eats_38 rfl ?_
    exact v_vret C (by decide) (by decide) dX8_eats_69 ⟨rfl, by first | rfl | (simp [h1, Int32.not_le.mp h1, eatF, minF]; done) | (simp only [eatF, minF, ← Int32.not_le] at *; simp [h1, Int32.not_le.mp h1]; done), by trivial⟩

abbrev r_X8_isSalted : Room := { frames := 1, cells := 0, slots := 0, locals := 22 }
set_option maxRecDepth 4000 in
theorem c_X8_isSalted {l : Launch} {G : GG} {a : AD} {s t s0 : SS} {L : List (Nat × Nat)} {ns : Nat} (hst : l.stackTraces = false) (hG : GOK G) (hL : Live L s0) (x : Int32) (j_x : Nat) (e_x : x = nI j_x) (l_x : j_x < 30) (hs : t 39 0 = nI ns) (hs600 : ns ≤ 600) : Mth l yX8_isSalted cX8_isSalted 5 (Option.some Jvm.ClassFile.FieldType.boolean) r_X8_isSalted G (wl a (E G.2.2.1 a s t) L) [.ref (a 0 0), .int x] (RI (.int (sltW t j_x ns)) (wl a (E G.2.2.1 a s t) L) (True)) nX := by
  refine mth_of rfl (Nat.le_of_ble_eq_true rfl) hst hG (fun X hX C0 => ?_)
  subst hX
  have C : Cx X G cX8_isSalted 5 RX8 (Option.some Jvm.ClassFile.FieldType.boolean) r_X8_isSalted "isSalted" [] := C0
  clear C0
  show V X G 5 _ 0 0 _ 0 [(0, .ref (a 0 0)), (1, .int (x))] []
  subst e_x
  refine v_iconst C (v := 0) dX8_isSalted_0 rfl rfl ?_
  refine v_istore_n C (lv1 := [(2, .int (0)), (0, .ref (a 0 0)), (1, .int (nI (j_x)))]) dX8_isSalted_1 rfl (by decide) rfl ?_
  refine v_iconst C (v := 0) dX8_isSalted_2 rfl rfl ?_
  refine v_istore_n C (lv1 := [(3, .int (0)), (2, .int (0)), (0, .ref (a 0 0)), (1, .int (nI (j_x)))]) dX8_isSalted_3 rfl (by decide) rfl ?_
  refine xx_lv [2, 3, 1, 0] (lv' := [(0, .ref (a 0 0)), (1, .int (nI (j_x))), (2, .int (0)), (3, .int (0))]) rfl ?_
  refine xx_wc (w2 := wl a (E G.2.2.1 a s t) L) (lv' := [(0, .ref (a 0 0)), (1, .int (nI (j_x))), (2, .int (sltW t j_x 0)), (3, .int (nI (0)))]) (by rfl) (by first | rfl | (simp [bI, sltW]; done)) ?_
  refine xx_loop (ns) 0 (fun i => wl a (E G.2.2.1 a s t) L) (fun i => [(0, .ref (a 0 0)), (1, .int (nI (j_x))), (2, .int (sltW t j_x i)), (3, .int (nI (i)))]) (by omega) ?_
  intro i hi0 hiN ih_i
  refine v_iload_n C dX8_isSalted_4 rfl 3 rfl ?_
  refine v_aload_n C dX8_isSalted_5 rfl 0 rfl ?_
  refine v_get C (v := .int (t 39 0)) g_X8_215 (m0 (s := s) (t := t) (g := G.2.2.1) hL) (rg (by decide) rfl) dX8_isSalted_6 rfl ?_
  refine xx_top (y := nI ns) hs ?_
  refine v_icN_ge C (t := 115) i ns rfl rfl (by omega) (by omega) dX8_isSalted_9 rfl rfl (fun h1 => ?_) (fun h1 => ?_)
  · skip
    refine v_iload_n C dX8_isSalted_115 rfl 2 rfl ?_
    exact v_zret C sltW_z (by decide) (by decide) dX8_isSalted_116 ⟨congrArg (fun z => some (Value.int z)) (by (have : i = ns := by omega); subst this; rfl), by rfl, by trivial⟩
  · skip
    refine v_aload_n C dX8_isSalted_12 rfl 0 rfl ?_
    refine v_get C (v := .ref (a 1 40)) g_X8_105 (m0 (s := s) (t := t) (g := G.2.2.1) hL) (rg (by decide) rfl) dX8_isSalted_13 rfl ?_
    refine v_iload_n C dX8_isSalted_16 rfl 3 rfl ?_
    refine v_ialdE C (len := 600) i (m1 (s := s) (t := t) (g := G.2.2.1) hL 40 rfl) (nI_clamp (by omega)) (pk_in i 600 (by omega)) dX8_isSalted_17 rfl ?_
    refine v_aload_n C dX8_isSalted_18 rfl 0 rfl ?_
    refine v_get C (v := .ref (a 1 29)) g_X8_81 (m0 (s := s) (t := t) (g := G.2.2.1) hL) (rg (by decide) rfl) dX8_isSalted_19 rfl ?_
    refine v_iload_n C dX8_isSalted_22 rfl 1 rfl ?_
    refine v_ialdE C (len := 30) j_x (m1 (s := s) (t := t) (g := G.2.2.1) hL 29 rfl) (nI_clamp (by omega)) (pk_in j_x 30 (by omega)) dX8_isSalted_23 rfl ?_
    refine v_icmp_ne C (t := 64) dX8_isSalted_24 rfl rfl (fun h2 => ?_) (fun h2 => ?_)
    · skip
      refine v_iconst C (v := 0) dX8_isSalted_64 rfl rfl ?_
      refine v_istore C (lv1 := [(4, .int (0)), (0, .ref (a 0 0)), (1, .int (nI (j_x))), (2, .int (sltW t j_x i)), (3, .int (nI (i)))]) dX8_isSalted_65 rfl (by decide) rfl ?_
      refine v_iload_n C dX8_isSalted_67 rfl 3 rfl ?_
      refine v_if_ne C (t := 103) dX8_isSalted_68 rfl rfl (fun h3 => ?_) (fun h3 => ?_)
      · skip
        refine v_iconst C (v := 1) dX8_isSalted_103 rfl rfl ?_
        refine v_goto C (q := 108) dX8_isSalted_104 rfl ?_
        refine v_istore_n C (lv1 := [(2, .int (1)), (4, .int (0)), (0, .ref (a 0 0)), (1, .int (nI (j_x))), (3, .int (nI (i)))]) dX8_isSalted_108 rfl (by decide) rfl ?_
        refine v_iincN C (lv1 := [(3, .int (nI (i + 1))), (2, .int (1)), (4, .int (0)), (0, .ref (a 0 0)), (1, .int (nI (j_x)))]) i rfl dX8_isSalted_109 rfl 4 rfl (by decide) rfl ?_
        refine v_goto C (q := 4) dX8_isSalted_112 rfl ?_
        refine xx_lv [3, 4, 1, 0] (lv' := [(0, .ref (a 0 0)), (1, .int (nI (j_x))), (2, .int (1)), (3, .int (nI (i + 1)))]) rfl ?_
        refine xx_wc (w2 := wl a (E G.2.2.1 a s t) L) (lv' := [(0, .ref (a 0 0)), (1, .int (nI (j_x))), (2, .int (sltW t j_x (i + 1))), (3, .int (nI (i + 1)))]) (by rfl) (by first | rfl | (simp [h1, Nat.not_le.mpr h1, h2, h3, sltW, Nat.add_assoc])) ?_
        exact ih_i (by omega)
      · skip
        refine v_iload C dX8_isSalted_71 rfl 0 rfl ?_
        refine v_if_eq C (t := 107) dX8_isSalted_73 rfl rfl (fun _ => ?_) (fun h => absurd h (by decide))
        refine v_iconst C (v := 0) dX8_isSalted_107 rfl rfl ?_
        refine v_istore_n C (lv1 := [(2, .int (0)), (4, .int (0)), (0, .ref (a 0 0)), (1, .int (nI (j_x))), (3, .int (nI (i)))]) dX8_isSalted_108 rfl (by decide) rfl ?_
        refine v_iincN C (lv1 := [(3, .int (nI (i + 1))), (2, .int (0)), (4, .int (0)), (0, .ref (a 0 0)), (1, .int (nI (j_x)))]) i rfl dX8_isSalted_109 rfl 4 rfl (by decide) rfl ?_
        refine v_goto C (q := 4) dX8_isSalted_112 rfl ?_
        refine xx_lv [3, 4, 1, 0] (lv' := [(0, .ref (a 0 0)), (1, .int (nI (j_x))), (2, .int (0)), (3, .int (nI (i + 1)))]) rfl ?_
        refine xx_wc (w2 := wl a (E G.2.2.1 a s t) L) (lv' := [(0, .ref (a 0 0)), (1, .int (nI (j_x))), (2, .int (sltW t j_x (i + 1))), (3, .int (nI (i + 1)))]) (by rfl) (by first | rfl | (simp [h1, Nat.not_le.mpr h1, h2, eq_true h3, sltW, Nat.add_assoc])) ?_
        exact ih_i (by omega)
    · skip
      refine v_aload_n C dX8_isSalted_27 rfl 0 rfl ?_
      refine v_get C (v := .ref (a 1 41)) g_X8_108 (m0 (s := s) (t := t) (g := G.2.2.1) hL) (rg (by decide) rfl) dX8_isSalted_28 rfl ?_
      refine v_iload_n C dX8_isSalted_31 rfl 3 rfl ?_
      refine v_ialdE C (len := 600) i (m1 (s := s) (t := t) (g := G.2.2.1) hL 41 rfl) (nI_clamp (by omega)) (pk_in i 600 (by omega)) dX8_isSalted_32 rfl ?_
      refine v_aload_n C dX8_isSalted_33 rfl 0 rfl ?_
      refine v_get C (v := .ref (a 1 23)) g_X8_62 (m0 (s := s) (t := t) (g := G.2.2.1) hL) (rg (by decide) rfl) dX8_isSalted_34 rfl ?_
      refine v_iload_n C dX8_isSalted_37 rfl 1 rfl ?_
      refine v_ialdE C (len := 30) j_x (m1 (s := s) (t := t) (g := G.2.2.1) hL 23 rfl) (nI_clamp (by omega)) (pk_in j_x 30 (by omega)) dX8_isSalted_38 rfl ?_
      refine v_aload_n C dX8_isSalted_39 rfl 0 rfl ?_
      refine v_get C (v := .ref (a 1 23)) g_X8_62 (m0 (s := s) (t := t) (g := G.2.2.1) hL) (rg (by decide) rfl) dX8_isSalted_40 rfl ?_
      refine v_iload_n C dX8_isSalted_43 rfl 1 rfl ?_
      refine v_ialdE C (len := 30) j_x (m1 (s := s) (t := t) (g := G.2.2.1) hL 23 rfl) (nI_clamp (by omega)) (pk_in j_x 30 (by omega)) dX8_isSalted_44 rfl ?_
      refine v_aload_n C dX8_isSalted_45 rfl 0 rfl ?_
      refine v_get C (v := .ref (a 1 24)) g_X8_65 (m0 (s := s) (t := t) (g := G.2.2.1) hL) (rg (by decide) rfl) dX8_isSalted_46 rfl ?_
      refine v_iload_n C dX8_isSalted_49 rfl 1 rfl ?_
      refine v_ialdE C (len := 30) j_x (m1 (s := s) (t := t) (g := G.2.2.1) hL 24 rfl) (nI_clamp (by omega)) (pk_in j_x 30 (by omega)) dX8_isSalted_50 rfl ?_
      refine v_iadd C dX8_isSalted_51 rfl ?_
      refine v_iconst C (v := 1) dX8_isSalted_52 rfl rfl ?_
      refine v_isub C dX8_isSalted_53 rfl ?_
      refine w_invSr C [.int (t 41 i), .int (t 23 j_x), .int (((t 23 j_x) + (t 24 j_x)) - 1)] 0 0 L_X8_123 (c_X8_isIn (s := s) (t := t)  hst hG hL (t 41 i) (t 23 j_x) (((t 23 j_x) + (t 24 j_x)) - 1)) rfl rfl rfl dX8_isSalted_54 rfl kx_no (fun h4 => ?_)
      refine v_ifB_eq C (t := 64) dX8_isSalted_57 rfl rfl (fun h5 => ?_) (fun h5 => ?_)
      · skip
        refine v_iconst C (v := 0) dX8_isSalted_64 rfl rfl ?_
        refine v_istore C (lv1 := [(4, .int (0)), (0, .ref (a 0 0)), (1, .int (nI (j_x))), (2, .int (sltW t j_x i)), (3, .int (nI (i)))]) dX8_isSalted_65 rfl (by decide) rfl ?_
        refine v_iload_n C dX8_isSalted_67 rfl 3 rfl ?_
        refine v_if_ne C (t := 103) dX8_isSalted_68 rfl rfl (fun h6 => ?_) (fun h6 => ?_)
        · skip
          refine v_iconst C (v := 1) dX8_isSalted_103 rfl rfl ?_
          refine v_goto C (q := 108) dX8_isSalted_104 rfl ?_
          refine v_istore_n C (lv1 := [(2, .int (1)), (4, .int (0)), (0, .ref (a 0 0)), (1, .int (nI (j_x))), (3, .int (nI (i)))]) dX8_isSalted_108 rfl (by decide) rfl ?_
          refine v_iincN C (lv1 := [(3, .int (nI (i + 1))), (2, .int (1)), (4, .int (0)), (0, .ref (a 0 0)), (1, .int (nI (j_x)))]) i rfl dX8_isSalted_109 rfl 4 rfl (by decide) rfl ?_
          refine v_goto C (q := 4) dX8_isSalted_112 rfl ?_
          refine xx_lv [3, 4, 1, 0] (lv' := [(0, .ref (a 0 0)), (1, .int (nI (j_x))), (2, .int (1)), (3, .int (nI (i + 1)))]) rfl ?_
          refine xx_wc (w2 := wl a (E G.2.2.1 a s t) L) (lv' := [(0, .ref (a 0 0)), (1, .int (nI (j_x))), (2, .int (sltW t j_x (i + 1))), (3, .int (nI (i + 1)))]) (by rfl) (by first | rfl | (simp [h1, Nat.not_le.mpr h1, eq_true h2, h5, h6, sltW, Nat.add_assoc])) ?_
          exact ih_i (by omega)
        · skip
          refine v_iload C dX8_isSalted_71 rfl 0 rfl ?_
          refine v_if_eq C (t := 107) dX8_isSalted_73 rfl rfl (fun _ => ?_) (fun h => absurd h (by decide))
          refine v_iconst C (v := 0) dX8_isSalted_107 rfl rfl ?_
          refine v_istore_n C (lv1 := [(2, .int (0)), (4, .int (0)), (0, .ref (a 0 0)), (1, .int (nI (j_x))), (3, .int (nI (i)))]) dX8_isSalted_108 rfl (by decide) rfl ?_
          refine v_iincN C (lv1 := [(3, .int (nI (i + 1))), (2, .int (0)), (4, .int (0)), (0, .ref (a 0 0)), (1, .int (nI (j_x)))]) i rfl dX8_isSalted_109 rfl 4 rfl (by decide) rfl ?_
          refine v_goto C (q := 4) dX8_isSalted_112 rfl ?_
          refine xx_lv [3, 4, 1, 0] (lv' := [(0, .ref (a 0 0)), (1, .int (nI (j_x))), (2, .int (0)), (3, .int (nI (i + 1)))]) rfl ?_
          refine xx_wc (w2 := wl a (E G.2.2.1 a s t) L) (lv' := [(0, .ref (a 0 0)), (1, .int (nI (j_x))), (2, .int (sltW t j_x (i + 1))), (3, .int (nI (i + 1)))]) (by rfl) (by first | rfl | (simp [h1, Nat.not_le.mpr h1, eq_true h2, h5, eq_true h6, sltW, Nat.add_assoc])) ?_
          exact ih_i (by omega)
      · skip
        refine v_iconst C (v := 1) dX8_isSalted_60 rfl rfl ?_
        refine v_goto C (q := 65) dX8_isSalted_61 rfl ?_
        refine v_istore C (lv1 := [(4, .int (1)), (0, .ref (a 0 0)), (1, .int (nI (j_x))), (2, .int (sltW t j_x i)), (3, .int (nI (i)))]) dX8_isSalted_65 rfl (by decide) rfl ?_
        refine v_iload_n C dX8_isSalted_67 rfl 3 rfl ?_
        refine v_if_ne C (t := 103) dX8_isSalted_68 rfl rfl (fun h7 => ?_) (fun h7 => ?_)
        · skip
          refine v_iconst C (v := 1) dX8_isSalted_103 rfl rfl ?_
          refine v_goto C (q := 108) dX8_isSalted_104 rfl ?_
          refine v_istore_n C (lv1 := [(2, .int (1)), (4, .int (1)), (0, .ref (a 0 0)), (1, .int (nI (j_x))), (3, .int (nI (i)))]) dX8_isSalted_108 rfl (by decide) rfl ?_
          refine v_iincN C (lv1 := [(3, .int (nI (i + 1))), (2, .int (1)), (4, .int (1)), (0, .ref (a 0 0)), (1, .int (nI (j_x)))]) i rfl dX8_isSalted_109 rfl 4 rfl (by decide) rfl ?_
          refine v_goto C (q := 4) dX8_isSalted_112 rfl ?_
          refine xx_lv [3, 4, 1, 0] (lv' := [(0, .ref (a 0 0)), (1, .int (nI (j_x))), (2, .int (1)), (3, .int (nI (i + 1)))]) rfl ?_
          refine xx_wc (w2 := wl a (E G.2.2.1 a s t) L) (lv' := [(0, .ref (a 0 0)), (1, .int (nI (j_x))), (2, .int (sltW t j_x (i + 1))), (3, .int (nI (i + 1)))]) (by rfl) (by first | rfl | (simp [h1, Nat.not_le.mpr h1, eq_true h2, h5, h7, sltW, Nat.add_assoc])) ?_
          exact ih_i (by omega)
        · skip
          refine v_iload C dX8_isSalted_71 rfl 0 rfl ?_
          refine v_if_eq C (t := 107) dX8_isSalted_73 rfl rfl (fun h => absurd h (by decide)) (fun _ => ?_)
          refine v_aload_n C dX8_isSalted_76 rfl 1 rfl ?_
          refine v_get C (v := .ref (a 1 42)) g_X8_111 (m0 (s := s) (t := t) (g := G.2.2.1) hL) (rg (by decide) rfl) dX8_isSalted_77 rfl ?_
          refine v_iload_n C dX8_isSalted_80 rfl 4 rfl ?_
          refine v_ialdE C (len := 600) i (m1 (s := s) (t := t) (g := G.2.2.1) hL 42 rfl) (nI_clamp (by omega)) (pk_in i 600 (by omega)) dX8_isSalted_81 rfl ?_
          refine v_aload_n C dX8_isSalted_82 rfl 1 rfl ?_
          refine v_get C (v := .ref (a 1 32)) g_X8_90 (m0 (s := s) (t := t) (g := G.2.2.1) hL) (rg (by decide) rfl) dX8_isSalted_83 rfl ?_
          refine v_iload_n C dX8_isSalted_86 rfl 2 rfl ?_
          refine v_ialdE C (len := 30) j_x (m1 (s := s) (t := t) (g := G.2.2.1) hL 32 rfl) (nI_clamp (by omega)) (pk_in j_x 30 (by omega)) dX8_isSalted_87 rfl ?_
          refine v_bipush C (v := 30) dX8_isSalted_88 rfl rfl ?_
          refine v_isub C dX8_isSalted_90 rfl ?_
          refine v_aload_n C dX8_isSalted_91 rfl 1 rfl ?_
          refine v_get C (v := .ref (a 1 32)) g_X8_90 (m0 (s := s) (t := t) (g := G.2.2.1) hL) (rg (by decide) rfl) dX8_isSalted_92 rfl ?_
          refine v_iload_n C dX8_isSalted_95 rfl 2 rfl ?_
          refine v_ialdE C (len := 30) j_x (m1 (s := s) (t := t) (g := G.2.2.1) hL 32 rfl) (nI_clamp (by omega)) (pk_in j_x 30 (by omega)) dX8_isSalted_96 rfl ?_
          refine w_invSr C [.int (t 42 i), .int ((t 32 j_x) - 30), .int (t 32 j_x)] 0 0 L_X8_123 (c_X8_isIn (s := s) (t := t)  hst hG hL (t 42 i) ((t 32 j_x) - 30) (t 32 j_x)) rfl rfl rfl dX8_isSalted_97 rfl kx_no (fun h8 => ?_)
          refine v_ifB_eq C (t := 107) dX8_isSalted_100 rfl rfl (fun h9 => ?_) (fun h9 => ?_)
          · skip
            refine v_iconst C (v := 0) dX8_isSalted_107 rfl rfl ?_
            refine v_istore_n C (lv1 := [(2, .int (0)), (4, .int (1)), (0, .ref (a 0 0)), (1, .int (nI (j_x))), (3, .int (nI (i)))]) dX8_isSalted_108 rfl (by decide) rfl ?_
            refine v_iincN C (lv1 := [(3, .int (nI (i + 1))), (2, .int (0)), (4, .int (1)), (0, .ref (a 0 0)), (1, .int (nI (j_x)))]) i rfl dX8_isSalted_109 rfl 4 rfl (by decide) rfl ?_
            refine v_goto C (q := 4) dX8_isSalted_112 rfl ?_
            refine xx_lv [3, 4, 1, 0] (lv' := [(0, .ref (a 0 0)), (1, .int (nI (j_x))), (2, .int (0)), (3, .int (nI (i + 1)))]) rfl ?_
            refine xx_wc (w2 := wl a (E G.2.2.1 a s t) L) (lv' := [(0, .ref (a 0 0)), (1, .int (nI (j_x))), (2, .int (sltW t j_x (i + 1))), (3, .int (nI (i + 1)))]) (by rfl) (by first | rfl | (simp [h1, Nat.not_le.mpr h1, eq_true h2, h5, eq_true h7, h9, sltW, Nat.add_assoc])) ?_
            exact ih_i (by omega)
          · skip
            refine v_iconst C (v := 1) dX8_isSalted_103 rfl rfl ?_
            refine v_goto C (q := 108) dX8_isSalted_104 rfl ?_
            refine v_istore_n C (lv1 := [(2, .int (1)), (4, .int (1)), (0, .ref (a 0 0)), (1, .int (nI (j_x))), (3, .int (nI (i)))]) dX8_isSalted_108 rfl (by decide) rfl ?_
            refine v_iincN C (lv1 := [(3, .int (nI (i + 1))), (2, .int (1)), (4, .int (1)), (0, .ref (a 0 0)), (1, .int (nI (j_x)))]) i rfl dX8_isSalted_109 rfl 4 rfl (by decide) rfl ?_
            refine v_goto C (q := 4) dX8_isSalted_112 rfl ?_
            refine xx_lv [3, 4, 1, 0] (lv' := [(0, .ref (a 0 0)), (1, .int (nI (j_x))), (2, .int (1)), (3, .int (nI (i + 1)))]) rfl ?_
            refine xx_wc (w2 := wl a (E G.2.2.1 a s t) L) (lv' := [(0, .ref (a 0 0)), (1, .int (nI (j_x))), (2, .int (sltW t j_x (i + 1))), (3, .int (nI (i + 1)))]) (by rfl) (by first | rfl | (simp [h1, Nat.not_le.mpr h1, eq_true h2, h5, eq_true h7, h9, sltW, Nat.add_assoc])) ?_
            exact ih_i (by omega)

