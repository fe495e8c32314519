def maxF (x y : Int32) : Int32 := if x < y then y else x
theorem i32_tri {x y : Int32} (h1 : ¬ x < y) (h2 : ¬ y < x) : x = y := by
  rw [Int32.lt_iff_toInt_lt] at h1 h2
  exact Int32.toInt_inj.mp (by omega)
theorem mn_c {x y : Int32} : (if y < x then y else x) = minF x y := by
  unfold minF
  by_cases h : y < x
  · have : ¬ x < y := by rw [Int32.lt_iff_toInt_lt] at h ⊢; omega
    rw [if_pos h, if_neg this]
  · by_cases h2 : x < y
    · rw [if_neg h, if_pos h2]
    · rw [if_neg h, if_neg h2, i32_tri h2 h]
theorem mx_c {x y : Int32} : (if x < y then y else x) = maxF x y := rfl
theorem mx_0 {n : Nat} (h : n < 2 ^ 31) : maxF 0 (nI n) = nI n := by
  unfold maxF
  split
  · rfl
  · rename_i h2
    have := nI_toInt h
    have h0 : (0 : Int32).toInt = 0 := by decide
    rw [Int32.lt_iff_toInt_lt] at h2
    exact Int32.toInt_inj.mp (by omega)
theorem minF_comm {x y : Int32} : minF x y = minF y x := by
  rw [← mn_c]
  rfl
section GE
variable {X : XS} {G : GG} {cc : ByteArray} {nL : Nat} {own : String} {ret : Option FieldType} {rm : Room} {nm : String} {tb : List ExceptionTableEntry}
theorem gear_all (C : Cx X G cc nL own ret rm nm tb) : va_En "NuggetCamp$Gear" "LNuggetCamp$Gear;" ["PAN", "ROCKER", "SLUICE", "MONITOR"] gF (fun j => G.2.2.1 (20 + j)) (gA G) X.2.2.2.2.1 X.2.2.2.2.1.heap := by
  obtain ⟨-, -, -, -, -, -, -, -, -, h, -⟩ := cx_sf C
  exact h
theorem gear_inches (C : Cx X G cc nL own ret rm nm tb) {g : Nat} (hg : g < 4) : va_OF "NuggetCamp$Gear" "inches" "I" (.int (needF (nI g))) (G.2.2.1 (20 + g)) (gA G) X.2.2.2.2.1 X.2.2.2.2.1.heap := by
  have h := ((gear_all C).1 g hg).2.2 ("NuggetCamp$Gear", "inches", "I", [0, 2, 10, 40]) (List.Mem.head _)
  have e : ([0, 2, 10, 40] : List Int32).getD g 0 = needF (nI g) := (by decide : ∀ g, g < 4 → ([0, 2, 10, 40] : List Int32).getD g 0 = needF (nI g)) g hg
  rw [← e]
  exact h
theorem gear_mostTaken (C : Cx X G cc nL own ret rm nm tb) {g : Nat} (hg : g < 4) : va_OF "NuggetCamp$Gear" "mostTaken" "I" (.int (mostF (nI g))) (G.2.2.1 (20 + g)) (gA G) X.2.2.2.2.1 X.2.2.2.2.1.heap := by
  have h := ((gear_all C).1 g hg).2.2 ("NuggetCamp$Gear", "mostTaken", "I", [20, 100, 400, 2000]) (List.Mem.tail _ (List.Mem.head _))
  have e : ([20, 100, 400, 2000] : List Int32).getD g 0 = mostF (nI g) := (by decide : ∀ g, g < 4 → ([20, 100, 400, 2000] : List Int32).getD g 0 = mostF (nI g)) g hg
  rw [← e]
  exact h
theorem gear_hundredths (C : Cx X G cc nL own ret rm nm tb) {g : Nat} (hg : g < 4) : va_OF "NuggetCamp$Gear" "hundredths" "I" (.int (hundF (nI g))) (G.2.2.1 (20 + g)) (gA G) X.2.2.2.2.1 X.2.2.2.2.1.heap := by
  have h := ((gear_all C).1 g hg).2.2 ("NuggetCamp$Gear", "hundredths", "I", [90, 70, 80, 50]) (List.Mem.tail _ (List.Mem.tail _ (List.Mem.head _)))
  have e : ([90, 70, 80, 50] : List Int32).getD g 0 = hundF (nI g) := (by decide : ∀ g, g < 4 → ([90, 70, 80, 50] : List Int32).getD g 0 = hundF (nI g)) g hg
  rw [← e]
  exact h
end GE
section VCO
variable {X : XS} {G : GG} {cc : ByteArray} {nL : Nat} {own : String} {ret : Option FieldType} {rm : Room} {nm : String} {tb : List ExceptionTableEntry} {w w2 : va_W} {k n : Nat} {Q : State → Prop} {pc q : Nat} {lv : List (Nat × Value)} {st : List Value}
theorem v_invVO (C : Cx X G cc nL own ret rm nm tb) {i nL1 np : Nat} {y : MethodName} {cc1 : ByteArray} {ret1 : Option FieldType} {rm1 : Room} {R : Option Value → va_W → Prop} {XP : String → va_W → Prop} {b : Nat} {As st0 : List Value} (L : LkV own i y cc1 nL1 ret1 np) (hM : Mth X.2.1 y cc1 nL1 ret1 rm1 G w (.ref b :: As) R XP) (hO : va_O y.cls b (gA G) X.2.2.2.2.1 X.2.2.2.2.1.heap)
    (hnp : As.length = np) (hst0 : st0 = As.reverse ++ .ref b :: st) (hroom : rm1.frames + 1 ≤ rm.frames ∧ 8 + (nL1 + 11) + rm1.locals ≤ rm.locals) (hcs : k + rm1.cells ≤ rm.cells ∧ n + rm1.slots ≤ rm.slots) (hsum : (st.map fun v => v.category).sum ≤ 8) (d : decode cc pc = .ok (.invokevirtual i, 3)) (hq : pc + 3 = q)
    (kx : ∀ (E : String) (w1 : va_W), XP E w1 → VX X G nL w1 (k + rm1.cells) (n + rm1.slots) Q pc lv E) (kk : ∀ (v : Option Value) (w1 : va_W), R v w1 → V X G nL w1 (k + rm1.cells) (n + rm1.slots) Q q lv (v.toList ++ st)) : V X G nL w k n Q pc lv st0 := by
  subst hq hst0
  obtain ⟨p, l, e, R0, s, m, args, below, meth, c⟩ := X
  obtain ⟨hx, hb, hml, hown, hts, hst, hlk, hr, hR, hG, hF, hz, hK, hnm, htb⟩ := C
  have hR : R0 = rm := hR
  subst hR
  intro H locs ls hP hD hS hl
  obtain ⟨⟨hini, hcode, hy1, hy2, hlen⟩, hlink, hinst, hsel⟩ := L
  have hrec : ∃ cell : Cell, H[b]? = some cell ∧ cell.vm.isStatics = false ∧ s.vm.findClass y.cls = some cell.cls := by
    obtain ⟨cell, h1, h2, h3, -⟩ := hO.kept hS.2.1
    exact ⟨cell, h1, h2, h3⟩
  have hr9 : vx_Run p l e R0 s m args below meth c H locs k n rm1.cells rm1.slots (F0 m pc ls (As.reverse ++ .ref b :: st)) st (cQ G R (Value.ref b :: As).toArray) (cX G XP) (gA G) := vx_runV (XC := cX G XP) (rest := st) (g := F0 m pc ls (As.reverse ++ .ref b :: st)) ⟨hx, hb, hml, hown, hts⟩ hM (C := y.cls) (n := np) (bytes := cc1) (maxL := nL1) (ret := ret1)
    ⟨⟨rfl, rfl, hroom.1, hroom.2, fun x hx a' U hW => by
      rcases List.mem_cons.mp hx with rfl | hx
      · exact word_at hW (wA_good hcode) (hts _ hcode)
      · exact word_at hW (wA_good hx) (hts _ hx), List.mem_cons_self, hts _ hcode, hts _ hini, ⟨hy1, hy2⟩, fun sig h => by rw [h] at hlen; exact (Option.some.inj hlen).symm, hts _ hlink⟩, hts _ hinst, hts _ hsel⟩
    ⟨cP_blind hG, hrec, fun U hU hW => cP_here hG hF hz hK hP hD hS hU hW⟩ rfl hnp hl.1 rfl (lv_room hsum) d hcs
  intro T hT X
  rcases hr9 T hT X with ⟨v, st₀, t, T', L, h0, X', hL, e1, e2, ⟨⟨v', w1, hv, hR1, hP1, hD1⟩, hFr⟩, hst9⟩ | ⟨q9, st₀, t, T', L, E, ce, h0, X', hL, e1, e2, ⟨⟨w1, hX1, hP1, hD1⟩, hFr⟩, hce, hcv, hcl9, hst9⟩
  · cases hv
    obtain ⟨k1, k2, k3⟩ := vx_keep h0 e1 hS (fun q _ h => h) (fun q h => h) hL hFr
    obtain ⟨t2, a1, b1⟩ := kk v w1 hR1 T'.heap (locs ++ L) ls (by rw [e1]; exact hP1) hD1 k3 hl T' rfl X'
    exact ⟨t2, hst9 t2 a1, b1⟩
  · obtain ⟨k1, k2, k3⟩ := vx_keep h0 e1 hS (fun q _ h => h) (fun q h => h) hL hFr
    obtain ⟨t2, a1, b1⟩ := kx E w1 hX1 T'.heap (locs ++ L) ls q9 ce st (by rw [e1]; exact hP1) hD1 k3 hl (by rw [e1]; exact hce) hcv hcl9 T' rfl X'
    exact ⟨t2, hst9.trans a1, b1⟩
theorem w_invVOr (C : Cx X G cc nL own ret rm nm tb) {i nL1 np : Nat} {y : MethodName} {cc1 : ByteArray} {ret1 : Option FieldType} {rm1 : Room} {x : Value} {P : Prop} {XP : String → va_W → Prop} {b : Nat} {st0 : List Value} (As : List Value) (k1 n1 : Nat) (L : LkV own i y cc1 nL1 ret1 np) (hM : Mth X.2.1 y cc1 nL1 ret1 rm1 G w (.ref b :: As) (RI x w2 P) XP) (hO : va_O y.cls b (gA G) X.2.2.2.2.1 X.2.2.2.2.1.heap)
    (hnp : As.length = np) (hst0 : st0 = As.reverse ++ .ref b :: st) (hc : nck rm1 rm nL1 k n k1 n1 st = true) (d : decode cc pc = .ok (.invokevirtual i, 3)) (hq : pc + 3 = q)
    (kx : ∀ (E : String) (w1 : va_W), XP E w1 → VX X G nL w1 k1 n1 Q pc lv E) (kk : P → V X G nL w2 k1 n1 Q q lv (x :: st)) : V X G nL w k n Q pc lv st0 := by
  obtain ⟨h1, ⟨h2, h3⟩, h4, h5⟩ := nck_of hc
  exact v_invVO C L hM hO hnp hst0 h1 h4 h5 d hq (fun E w1 h => xx_monoX h2 h3 (kx E w1 h)) (fun v w1 h => by obtain ⟨rfl, rfl, h⟩ := h; exact xx_mono h2 h3 (kk h))
theorem gear_O (C : Cx X G cc nL own ret rm nm tb) {g : Nat} (hg : g < 4) : va_O "NuggetCamp$Gear" (G.2.2.1 (20 + g)) (gA G) X.2.2.2.2.1 X.2.2.2.2.1.heap := ((gear_all C).1 g hg).2.1
end VCO
theorem lt40 {x : Int32} : x < 40 ↔ x ≤ 39 := by
  rw [Int32.lt_iff_toInt_lt, Int32.le_iff_toInt_le]
  have h1 : (40 : Int32).toInt = 40 := by decide
  have h2 : (39 : Int32).toInt = 39 := by decide
  omega
def dropF (z : SS) (x v : Int32) : SS := if (0 : Int32) ≤ x ∧ x ≤ 39 then su z 9 (tn x) (z 9 (tn x) + v) else su z 6 0 (z 6 0 + v)
def layF (z : SS) (x m g : Int32) : SS := if (0 : Int32) ≤ x ∧ x ≤ 39 then su (su z 9 (tn x) m) 10 (tn x) g else z
def grF (z : SS) (x : Int32) : Int32 := if (0 : Int32) ≤ x ∧ x ≤ 39 then z 9 (tn x) else 0
def claF (z : SS) (x : Int32) : Int32 := if (0 : Int32) ≤ x ∧ x ≤ 39 then z 10 (tn x) else 0
def belF (z : SS) (x : Int32) : Int32 := if (0 : Int32) ≤ x ∧ x ≤ 39 then z 11 (tn x) else 0
def tellF (z : SS) (x v : Int32) : SS := if (0 : Int32) ≤ x ∧ x ≤ 39 then su z 11 (tn x) v else z
def rcF (m taken c : Int32) : Int32 := taken * (hundF m - 3 * c) / 100
def digC (z : SS) (c m : Int32) : SS := dropF (dropF z c (-(minF (grF z c) (mostF m)))) (c + 1) (minF (grF z c) (mostF m) - rcF m (minF (grF z c) (mostF m)) (claF z c))
def frN (z : SS) : Nat → Nat
  | 0 => 0
  | i + 1 => if 0 < z 50 i then frN z i + 1 else frN z i
theorem frN_le {z : SS} : ∀ n, frN z n ≤ n
  | 0 => Nat.le_refl _
  | n + 1 => by
    have := frN_le (z := z) n
    unfold frN
    split <;> omega
/-- the first place with no freight -/
def fsE (z : SS) : Nat → Nat
  | 0 => 0
  | n + 1 => if fsE z n < n then fsE z n else if z 50 n = 0 then n else n + 1
theorem fsE_up {z : SS} {i : Nat} (h : fsE z i = i) (h0 : z 50 i = 0) : ∀ d, fsE z (i + 1 + d) = i
  | 0 => by
    show fsE z (i + 1) = i
    unfold fsE
    rw [if_neg (by omega), if_pos h0]
  | d + 1 => by
    show fsE z (i + 1 + d + 1) = i
    unfold fsE
    rw [if_pos (by rw [fsE_up h h0 d]; omega), fsE_up h h0 d]
def sndF (z : SS) (m d : Int32) : SS := if fsE z 20 < 20 then su (su z 50 (fsE z 20) m) 51 (fsE z 20) d else z
def ulW (z : SS) (d : Int32) : Nat → SS
  | 0 => z
  | i + 1 => if 0 < ulW z d i 50 i ∧ z 51 i = d then su (su (ulW z d i) 5 0 (ulW z d i 5 0 + ulW z d i 50 i)) 50 i 0 else ulW z d i
theorem ulW_o {z : SS} {d : Int32} {k : Nat} (h5 : k ≠ 5) (h50 : k ≠ 50) : ∀ n, ulW z d n k = z k
  | 0 => rfl
  | n + 1 => by
    unfold ulW
    split
    · rw [su_o h50, su_o h5, ulW_o h5 h50 n]
    · exact ulW_o h5 h50 n
def fdV (z : SS) : Nat → SS
  | 0 => z
  | i + 1 => su (fdV z i) 11 i (maxF 0 (fdV z i 11 i - fdV z i 11 i / 10 - 1))
def slC (z : SS) (i c : Nat) (d : Int32) : Nat → Int32
  | 0 => 0
  | k + 1 => if slC z i c d k = 0 then (if ¬ z 52 (40 * i + (c + k)) = -1 ∧ d - z 52 (40 * i + (c + k)) ≤ 30 then 1 else 0) else 1
theorem slC_up {z : SS} {i c k : Nat} {d : Int32} (h : slC z i c d (k + 1) = 1) : ∀ n, slC z i c d (k + 1 + n) = 1
  | 0 => h
  | n + 1 => by
    show slC z i c d (k + 1 + n + 1) = 1
    unfold slC
    rw [slC_up h n, if_neg (by decide)]
def eatC (z : SS) (j : Nat) : SS := if z 17 j = 0 then z else if 0 < z 15 j then su (su z 15 j (z 15 j - 1)) 17 j (minF 10 (z 17 j + 1)) else su z 17 j (maxF 0 (z 17 j - 2))
def brC (z : SS) (i : Nat) (d : Int32) : Int32 := if 0 < z 13 i + z 14 i then brF d (z 14 i) (z 13 i + z 14 i) else 0
def slT (z : SS) (i : Nat) (b m d f : Int32) : SS := su (su (su (su (su (su z 53 i (z 22 i)) 22 i b) 32 i d) 31 i m) 54 i f) 28 i 0
theorem i64_ne0 {x : Int32} (h : 0 < x) : ¬ x.toInt64 = 0 := by
  intro h2
  have h3 : x.toInt64.toInt = 0 := by rw [h2]; rfl
  rw [Int32.toInt_toInt64] at h3
  have h4 := Int32.lt_iff_toInt_lt.mp h
  have h6 : (0 : Int32).toInt = 0 := by decide
  omega
theorem f01 {f : Int32} (h : f = 0 ∨ f = 1) : narrow .boolean (.int f) = .int f ∧ fits .boolean (.int f) = true := by
  rcases h with rfl | rfl
  · exact ⟨rfl, rfl⟩
  · exact ⟨rfl, rfl⟩

abbrev r_X7_isCell : Room := { frames := 0, cells := 0, slots := 0, locals := 0 }
set_option maxRecDepth 4000 in
theorem c_X7_isCell {l : Launch} {G : GG} {a : AD} {s t s0 : SS} {L : List (Nat × Nat)}  (hst : l.stackTraces = false) (hG : GOK G) (hL : Live L s0) (x : Int32)  : Mth l yX7_isCell cX7_isCell 1 (Option.some Jvm.ClassFile.FieldType.boolean) r_X7_isCell G (wl a (E G.2.2.1 a s t) L) [.int x] (RI (.int (bI ((0 : Int32) ≤ x ∧ x ≤ 39))) (wl a (E G.2.2.1 a s t) L) (True)) nX := by
  refine mth_of rfl (Nat.le_of_ble_eq_true rfl) hst hG (fun X hX C0 => ?_)
  subst hX
  have C : Cx X G cX7_isCell 1 RX7 (Option.some Jvm.ClassFile.FieldType.boolean) r_X7_isCell "isCell" [] := C0
  clear C0
  show V X G 1 _ 0 0 _ 0 [(0, .int (x))] []
  refine v_iload_n C dX7_isCell_0 rfl 0 rfl ?_
  refine v_if_lt C (t := 14) dX7_isCell_1 rfl rfl (fun h1 => ?_) (fun h1 => ?_)
  · skip
    refine v_iconst C (v := 0) dX7_isCell_14 rfl rfl ?_
    exact v_zret C rfl (by decide) (by decide) dX7_isCell_15 ⟨congrArg (fun z => some (Value.int z)) (by first | rfl | (simp only [bI, ← lt40, h1, Int32.not_le.mpr h1, true_and, and_true, and_false, false_and, if_true, if_false]; done)), by rfl, by trivial⟩
  · skip
    refine v_iload_n C dX7_isCell_4 rfl 0 rfl ?_
    refine v_bipush C (v := 40) dX7_isCell_5 rfl rfl ?_
    refine v_icmp_ge C (t := 14) dX7_isCell_7 rfl rfl (fun h2 => ?_) (fun h2 => ?_)
    · skip
      refine v_iconst C (v := 0) dX7_isCell_14 rfl rfl ?_
      exact v_zret C rfl (by decide) (by decide) dX7_isCell_15 ⟨congrArg (fun z => some (Value.int z)) (by first | rfl | (simp only [bI, ← lt40, h1, Int32.not_lt.mp h1, h2, Int32.not_lt.mpr h2, true_and, and_true, and_false, false_and, if_true, if_false]; done)), by rfl, by trivial⟩
    · skip
      refine v_iconst C (v := 1) dX7_isCell_10 rfl rfl ?_
      refine v_goto C (q := 15) dX7_isCell_11 rfl ?_
      exact v_zret C rfl (by decide) (by decide) dX7_isCell_15 ⟨congrArg (fun z => some (Value.int z)) (by first | rfl | (simp only [bI, ← lt40, h1, Int32.not_lt.mp h1, h2, Int32.not_le.mp h2, true_and, and_true, and_false, false_and, if_true, if_false]; done)), by rfl, by trivial⟩

abbrev r_X0_covers : Room := { frames := 0, cells := 0, slots := 0, locals := 0 }
set_option maxRecDepth 4000 in
theorem c_X0_covers {l : Launch} {G : GG} {a : AD} {s t s0 : SS} {L : List (Nat × Nat)}  (hst : l.stackTraces = false) (hG : GOK G) (hL : Live L s0) (i_this : Nat) (x : Int32) (hv : i_this < tn (s0 21 0)) : Mth l yX0_covers cX0_covers 2 (Option.some Jvm.ClassFile.FieldType.boolean) r_X0_covers G (wl a (E G.2.2.1 a s t) L) [.ref (a 12 i_this), .int x] (RI (.int (bI (s 23 i_this ≤ x ∧ x < s 23 i_this + s 24 i_this))) (wl a (E G.2.2.1 a s t) L) (True)) nX := by
  refine mth_of rfl (Nat.le_of_ble_eq_true rfl) hst hG (fun X hX C0 => ?_)
  subst hX
  have C : Cx X G cX0_covers 2 RX0 (Option.some Jvm.ClassFile.FieldType.boolean) r_X0_covers "covers" [] := C0
  clear C0
  show V X G 2 _ 0 0 _ 0 [(0, .ref (a 12 i_this)), (1, .int (x))] []
  refine v_iload_n C dX0_covers_0 rfl 1 rfl ?_
  refine v_aload_n C dX0_covers_1 rfl 0 rfl ?_
  refine v_get C (v := .int (s 23 i_this)) g_X0_34 (m12 (s := s) (t := t) (g := G.2.2.1) hL i_this hv) (rg (by decide) rfl) dX0_covers_2 rfl ?_
  refine v_icmp_lt C (t := 25) dX0_covers_5 rfl rfl (fun h1 => ?_) (fun h1 => ?_)
  · skip
    refine v_iconst C (v := 0) dX0_covers_25 rfl rfl ?_
    exact v_zret C rfl (by decide) (by decide) dX0_covers_26 ⟨congrArg (fun z => some (Value.int z)) (by first | rfl | (simp only [h1, Int32.not_le.mpr h1, bI, pM, pU, n10, n20, n30, n0, if_true, if_false, ite_true, ite_false, not_true_eq_false, not_false_eq_true, and_true, true_and, and_false, false_and, or_true, true_or, or_false, false_or, reduceIte, and_self, or_self, ne_eq, eq_self_iff_true]; first | done | rfl) | (simp [bI, h1, Int32.not_le.mpr h1]; done) | (simp only [bI, ← Int32.not_le] at *; simp [h1, Int32.not_le.mpr h1]; done) | (simp_all [bI, h1, Int32.not_le.mpr h1]; done) | (simp_all [bI, h1, Int32.not_le.mpr h1]; rfl) | (exfalso; omega)), by rfl, by trivial⟩
  · skip
    refine v_iload_n C dX0_covers_8 rfl 1 rfl ?_
    refine v_aload_n C dX0_covers_9 rfl 0 rfl ?_
    refine v_get C (v := .int (s 23 i_this)) g_X0_34 (m12 (s := s) (t := t) (g := G.2.2.1) hL i_this hv) (rg (by decide) rfl) dX0_covers_10 rfl ?_
    refine v_aload_n C dX0_covers_13 rfl 0 rfl ?_
    refine v_get C (v := .int (s 24 i_this)) g_X0_37 (m12 (s := s) (t := t) (g := G.2.2.1) hL i_this hv) (rg (by decide) rfl) dX0_covers_14 rfl ?_
    refine v_iadd C dX0_covers_17 rfl ?_
    refine v_icmp_ge C (t := 25) dX0_covers_18 rfl rfl (fun h2 => ?_) (fun h2 => ?_)
    · skip
      refine v_iconst C (v := 0) dX0_covers_25 rfl rfl ?_
      exact v_zret C rfl (by decide) (by decide) dX0_covers_26 ⟨congrArg (fun z => some (Value.int z)) (by first | rfl | (simp only [h1, Int32.not_lt.mp h1, h2, Int32.not_lt.mpr h2, bI, pM, pU, n10, n20, n30, n0, if_true, if_false, ite_true, ite_false, not_true_eq_false, not_false_eq_true, and_true, true_and, and_false, false_and, or_true, true_or, or_false, false_or, reduceIte, and_self, or_self, ne_eq, eq_self_iff_true]; first | done | rfl) | (simp [bI, h1, Int32.not_lt.mp h1, h2, Int32.not_lt.mpr h2]; done) | (simp only [bI, ← Int32.not_le] at *; simp [h1, Int32.not_lt.mp h1, h2, Int32.not_lt.mpr h2]; done) | (simp_all [bI, h1, Int32.not_lt.mp h1, h2, Int32.not_lt.mpr h2]; done) | (simp_all [bI, h1, Int32.not_lt.mp h1, h2, Int32.not_lt.mpr h2]; rfl) | (exfalso; omega)), by rfl, by trivial⟩
    · skip
      refine v_iconst C (v := 1) dX0_covers_21 rfl rfl ?_
      refine v_goto C (q := 26) dX0_covers_22 rfl ?_
      exact v_zret C rfl (by decide) (by decide) dX0_covers_26 ⟨congrArg (fun z => some (Value.int z)) (by first | rfl | (simp only [h1, Int32.not_lt.mp h1, h2, Int32.not_le.mp h2, bI, pM, pU, n10, n20, n30, n0, if_true, if_false, ite_true, ite_false, not_true_eq_false, not_false_eq_true, and_true, true_and, and_false, false_and, or_true, true_or, or_false, false_or, reduceIte, and_self, or_self, ne_eq, eq_self_iff_true]; first | done | rfl) | (simp [bI, h1, Int32.not_lt.mp h1, h2, Int32.not_le.mp h2]; done) | (simp only [bI, ← Int32.not_le] at *; simp [h1, Int32.not_lt.mp h1, h2, Int32.not_le.mp h2]; done) | (simp_all [bI, h1, Int32.not_lt.mp h1, h2, Int32.not_le.mp h2]; done) | (simp_all [bI, h1, Int32.not_lt.mp h1, h2, Int32.not_le.mp h2]; rfl) | (exfalso; omega)), by rfl, by trivial⟩

abbrev r_X0_sellTo : Room := { frames := 0, cells := 0, slots := 0, locals := 0 }
set_option maxRecDepth 4000 in
theorem c_X0_sellTo {l : Launch} {G : GG} {a : AD} {s t s0 : SS} {L : List (Nat × Nat)}  (hst : l.stackTraces = false) (hG : GOK G) (hL : Live L s0) (i_this : Nat) (b : Int32) (m : Int32) (d : Int32) (f : Int32) (hv : i_this < tn (s0 21 0)) (hf : f = 0 ∨ f = 1) : Mth l yX0_sellTo cX0_sellTo 5 (Option.none : Option Jvm.ClassFile.FieldType) r_X0_sellTo G (wl a (E G.2.2.1 a s t) L) [.ref (a 12 i_this), .int b, .int m, .int d, .int f] (RV (wl a (E G.2.2.1 a (slT s i_this b m d f) t) L) (True)) nX := by
  refine mth_of rfl (Nat.le_of_ble_eq_true rfl) hst hG (fun X hX C0 => ?_)
  subst hX
  have C : Cx X G cX0_sellTo 5 RX0 (Option.none : Option Jvm.ClassFile.FieldType) r_X0_sellTo "sellTo" [] := C0
  clear C0
  show V X G 5 _ 0 0 _ 0 [(0, .ref (a 12 i_this)), (1, .int (b)), (2, .int (m)), (3, .int (d)), (4, .int (f))] []
  refine v_aload_n C dX0_sellTo_0 rfl 0 rfl ?_
  refine v_aload_n C dX0_sellTo_1 rfl 0 rfl ?_
  refine v_get C (v := .int (s 22 i_this)) g_X0_31 (m12 (s := s) (t := t) (g := G.2.2.1) hL i_this hv) (rg (by decide) rfl) dX0_sellTo_2 rfl ?_
  refine v_put C f_X0_15 (put_k (s := s) (t := t) (g := G.2.2.1) hL 6 (by decide) i_this hv (s 22 i_this)) rfl rfl (rg_len (by decide)) dX0_sellTo_5 rfl ?_
  refine xx_w (w' := wl a (E G.2.2.1 a (su s 53 i_this (s 22 i_this)) t) L) rfl ?_
  refine v_aload_n C dX0_sellTo_8 rfl 0 rfl ?_
  refine v_iload_n C dX0_sellTo_9 rfl 1 rfl ?_
  refine v_put C f_X0_31 (put_k (s := ((su s 53 i_this (s 22 i_this)))) (t := t) (g := G.2.2.1) hL 3 (by decide) i_this hv b) rfl rfl (rg_len (by decide)) dX0_sellTo_10 rfl ?_
  refine xx_w (w' := wl a (E G.2.2.1 a (su (su s 53 i_this (s 22 i_this)) 22 i_this b) t) L) rfl ?_
  refine v_aload_n C dX0_sellTo_13 rfl 0 rfl ?_
  refine v_iload_n C dX0_sellTo_14 rfl 3 rfl ?_
  refine v_put C f_X0_19 (put_k (s := ((su (su s 53 i_this (s 22 i_this)) 22 i_this b))) (t := t) (g := G.2.2.1) hL 7 (by decide) i_this hv d) rfl rfl (rg_len (by decide)) dX0_sellTo_15 rfl ?_
  refine xx_w (w' := wl a (E G.2.2.1 a (su (su (su s 53 i_this (s 22 i_this)) 22 i_this b) 32 i_this d) t) L) rfl ?_
  refine v_aload_n C dX0_sellTo_18 rfl 0 rfl ?_
  refine v_iload_n C dX0_sellTo_19 rfl 2 rfl ?_
  refine v_put C f_X0_22 (put_k (s := ((su (su (su s 53 i_this (s 22 i_this)) 22 i_this b) 32 i_this d))) (t := t) (g := G.2.2.1) hL 8 (by decide) i_this hv m) rfl rfl (rg_len (by decide)) dX0_sellTo_20 rfl ?_
  refine xx_w (w' := wl a (E G.2.2.1 a (su (su (su (su s 53 i_this (s 22 i_this)) 22 i_this b) 32 i_this d) 31 i_this m) t) L) rfl ?_
  refine v_aload_n C dX0_sellTo_23 rfl 0 rfl ?_
  refine v_iload C dX0_sellTo_24 rfl 4 rfl ?_
  refine v_put C f_X0_25 (put_k (s := ((su (su (su (su s 53 i_this (s 22 i_this)) 22 i_this b) 32 i_this d) 31 i_this m))) (t := t) (g := G.2.2.1) hL 9 (by decide) i_this hv f) (f01 hf).1 (f01 hf).2 (rg_len (by decide)) dX0_sellTo_26 rfl ?_
  refine xx_w (w' := wl a (E G.2.2.1 a (su (su (su (su (su s 53 i_this (s 22 i_this)) 22 i_this b) 32 i_this d) 31 i_this m) 54 i_this f) t) L) rfl ?_
  refine v_aload_n C dX0_sellTo_29 rfl 0 rfl ?_
  refine v_iconst C (v := 0) dX0_sellTo_30 rfl rfl ?_
  refine v_put C f_X0_28 (put_k (s := ((su (su (su (su (su s 53 i_this (s 22 i_this)) 22 i_this b) 32 i_this d) 31 i_this m) 54 i_this f))) (t := t) (g := G.2.2.1) hL 10 (by decide) i_this hv 0) rfl rfl (rg_len (by decide)) dX0_sellTo_31 rfl ?_
  refine xx_w (w' := wl a (E G.2.2.1 a (su (su (su (su (su (su s 53 i_this (s 22 i_this)) 22 i_this b) 32 i_this d) 31 i_this m) 54 i_this f) 28 i_this 0) t) L) rfl ?_
  exact v_vret C (by decide) (by decide) dX0_sellTo_34 ⟨rfl, by first | rfl | (simp only [slT, bI, pM, pU, n10, n20, n30, n0, if_true, if_false, ite_true, ite_false, not_true_eq_false, not_false_eq_true, and_true, true_and, and_false, false_and, or_true, true_or, or_false, false_or, reduceIte, and_self, or_self, ne_eq, eq_self_iff_true]; first | done | rfl) | (simp [bI, slT]; done) | (simp only [slT, bI, ← Int32.not_le] at *; simp []; done) | (simp_all [bI, slT]; done) | (simp_all [bI, slT]; rfl) | (exfalso; omega), by trivial⟩

abbrev r_X1_grainsAt : Room := { frames := 1, cells := 0, slots := 0, locals := 20 }
set_option maxRecDepth 4000 in
theorem c_X1_grainsAt {l : Launch} {G : GG} {a : AD} {s t s0 : SS} {L : List (Nat × Nat)}  (hst : l.stackTraces = false) (hG : GOK G) (hL : Live L s0) (x : Int32)  : Mth l yX1_grainsAt cX1_grainsAt 2 (Option.some Jvm.ClassFile.FieldType.int) r_X1_grainsAt G (wl a (E G.2.2.1 a s t) L) [.ref (a 3 0), .int x] (RI (.int (grF s x)) (wl a (E G.2.2.1 a s t) L) (True)) nX := by
  refine mth_of rfl (Nat.le_of_ble_eq_true rfl) hst hG (fun X hX C0 => ?_)
  subst hX
  have C : Cx X G cX1_grainsAt 2 RX1 (Option.some Jvm.ClassFile.FieldType.int) r_X1_grainsAt "grainsAt" [] := C0
  clear C0
  show V X G 2 _ 0 0 _ 0 [(0, .ref (a 3 0)), (1, .int (x))] []
  refine v_iload_n C dX1_grainsAt_0 rfl 1 rfl ?_
  refine w_invSNr C [.int (x)] 0 0 L_X1_26 (c_X7_isCell (s := s) (t := t)  hst hG hL x) rfl rfl rfl dX1_grainsAt_1 rfl (fun h1 => ?_)
  refine v_ifB_eq C (t := 16) dX1_grainsAt_4 rfl rfl (fun h2 => ?_) (fun h2 => ?_)
  · skip
    refine v_iconst C (v := 0) dX1_grainsAt_16 rfl rfl ?_
    exact v_iret C (by decide) (by decide) dX1_grainsAt_17 ⟨congrArg (fun z => some (Value.int z)) (by first | rfl | (simp only [h2, grF, bI, pM, pU, n10, n20, n30, n0, if_true, if_false, ite_true, ite_false, not_true_eq_false, not_false_eq_true, and_true, true_and, and_false, false_and, or_true, true_or, or_false, false_or, reduceIte, and_self, or_self, ne_eq, eq_self_iff_true]; first | done | rfl) | (simp [bI, h2, grF]; done) | (simp only [grF, bI, ← Int32.not_le] at *; simp [h2]; done) | (simp_all [bI, h2, grF]; done) | (simp_all [bI, h2, grF]; rfl) | (exfalso; omega)), by rfl, by trivial⟩
  · skip
    refine v_aload_n C dX1_grainsAt_7 rfl 0 rfl ?_
    refine v_get C (v := .ref (a 8 0)) g_X1_9 (m3 (s := s) (t := t) (g := G.2.2.1) hL) rfl dX1_grainsAt_8 rfl ?_
    refine v_iload_n C dX1_grainsAt_11 rfl 1 rfl ?_
    refine v_iald C (len := 40) (m8 (s := s) (t := t) (g := G.2.2.1) hL 0 (by decide)) (vp_rng (n := 39) rfl (by decide) (by assumption)) dX1_grainsAt_12 rfl ?_
    refine xx_top (y := s 9 (tn x)) rfl ?_
    refine v_goto C (q := 17) dX1_grainsAt_13 rfl ?_
    exact v_iret C (by decide) (by decide) dX1_grainsAt_17 ⟨congrArg (fun z => some (Value.int z)) (by first | rfl | (simp only [h2, grF, bI, pM, pU, n10, n20, n30, n0, if_true, if_false, ite_true, ite_false, not_true_eq_false, not_false_eq_true, and_true, true_and, and_false, false_and, or_true, true_or, or_false, false_or, reduceIte, and_self, or_self, ne_eq, eq_self_iff_true]; first | done | rfl) | (simp [bI, h2, grF]; done) | (simp only [grF, bI, ← Int32.not_le] at *; simp [h2]; done) | (simp_all [bI, h2, grF]; done) | (simp_all [bI, h2, grF]; rfl) | (exfalso; omega)), by rfl, by trivial⟩

abbrev r_X1_clayAt : Room := { frames := 1, cells := 0, slots := 0, locals := 20 }
set_option maxRecDepth 4000 in
theorem c_X1_clayAt {l : Launch} {G : GG} {a : AD} {s t s0 : SS} {L : List (Nat × Nat)}  (hst : l.stackTraces = false) (hG : GOK G) (hL : Live L s0) (x : Int32)  : Mth l yX1_clayAt cX1_clayAt 2 (Option.some Jvm.ClassFile.FieldType.int) r_X1_clayAt G (wl a (E G.2.2.1 a s t) L) [.ref (a 3 0), .int x] (RI (.int (claF s x)) (wl a (E G.2.2.1 a s t) L) (True)) nX := by
  refine mth_of rfl (Nat.le_of_ble_eq_true rfl) hst hG (fun X hX C0 => ?_)
  subst hX
  have C : Cx X G cX1_clayAt 2 RX1 (Option.some Jvm.ClassFile.FieldType.int) r_X1_clayAt "clayAt" [] := C0
  clear C0
  show V X G 2 _ 0 0 _ 0 [(0, .ref (a 3 0)), (1, .int (x))] []
  refine v_iload_n C dX1_clayAt_0 rfl 1 rfl ?_
  refine w_invSNr C [.int (x)] 0 0 L_X1_26 (c_X7_isCell (s := s) (t := t)  hst hG hL x) rfl rfl rfl dX1_clayAt_1 rfl (fun h1 => ?_)
  refine v_ifB_eq C (t := 16) dX1_clayAt_4 rfl rfl (fun h2 => ?_) (fun h2 => ?_)
  · skip
    refine v_iconst C (v := 0) dX1_clayAt_16 rfl rfl ?_
    exact v_iret C (by decide) (by decide) dX1_clayAt_17 ⟨congrArg (fun z => some (Value.int z)) (by first | rfl | (simp only [h2, claF, bI, pM, pU, n10, n20, n30, n0, if_true, if_false, ite_true, ite_false, not_true_eq_false, not_false_eq_true, and_true, true_and, and_false, false_and, or_true, true_or, or_false, false_or, reduceIte, and_self, or_self, ne_eq, eq_self_iff_true]; first | done | rfl) | (simp [bI, h2, claF]; done) | (simp only [claF, bI, ← Int32.not_le] at *; simp [h2]; done) | (simp_all [bI, h2, claF]; done) | (simp_all [bI, h2, claF]; rfl) | (exfalso; omega)), by rfl, by trivial⟩
  · skip
    refine v_aload_n C dX1_clayAt_7 rfl 0 rfl ?_
    refine v_get C (v := .ref (a 8 1)) g_X1_15 (m3 (s := s) (t := t) (g := G.2.2.1) hL) rfl dX1_clayAt_8 rfl ?_
    refine v_iload_n C dX1_clayAt_11 rfl 1 rfl ?_
    refine v_iald C (len := 40) (m8 (s := s) (t := t) (g := G.2.2.1) hL 1 (by decide)) (vp_rng (n := 39) rfl (by decide) (by assumption)) dX1_clayAt_12 rfl ?_
    refine xx_top (y := s 10 (tn x)) rfl ?_
    refine v_goto C (q := 17) dX1_clayAt_13 rfl ?_
    exact v_iret C (by decide) (by decide) dX1_clayAt_17 ⟨congrArg (fun z => some (Value.int z)) (by first | rfl | (simp only [h2, claF, bI, pM, pU, n10, n20, n30, n0, if_true, if_false, ite_true, ite_false, not_true_eq_false, not_false_eq_true, and_true, true_and, and_false, false_and, or_true, true_or, or_false, false_or, reduceIte, and_self, or_self, ne_eq, eq_self_iff_true]; first | done | rfl) | (simp [bI, h2, claF]; done) | (simp only [claF, bI, ← Int32.not_le] at *; simp [h2]; done) | (simp_all [bI, h2, claF]; done) | (simp_all [bI, h2, claF]; rfl) | (exfalso; omega)), by rfl, by trivial⟩

abbrev r_X1_lay : Room := { frames := 1, cells := 0, slots := 0, locals := 20 }
set_option maxRecDepth 4000 in
theorem c_X1_lay {l : Launch} {G : GG} {a : AD} {s t s0 : SS} {L : List (Nat × Nat)}  (hst : l.stackTraces = false) (hG : GOK G) (hL : Live L s0) (x : Int32) (m : Int32) (g : Int32)  : Mth l yX1_lay cX1_lay 4 (Option.none : Option Jvm.ClassFile.FieldType) r_X1_lay G (wl a (E G.2.2.1 a s t) L) [.ref (a 3 0), .int x, .int m, .int g] (RV (wl a (E G.2.2.1 a (layF s x m g) t) L) (True)) nX := by
  refine mth_of rfl (Nat.le_of_ble_eq_true rfl) hst hG (fun X hX C0 => ?_)
  subst hX
  have C : Cx X G cX1_lay 4 RX1 (Option.none : Option Jvm.ClassFile.FieldType) r_X1_lay "lay" [] := C0
  clear C0
  show V X G 4 _ 0 0 _ 0 [(0, .ref (a 3 0)), (1, .int (x)), (2, .int (m)), (3, .int (g))] []
  refine v_iload_n C dX1_lay_0 rfl 1 rfl ?_
  refine w_invSNr C [.int (x)] 0 0 L_X1_26 (c_X7_isCell (s := s) (t := t)  hst hG hL x) rfl rfl rfl dX1_lay_1 rfl (fun h1 => ?_)
  refine v_ifB_eq C (t := 21) dX1_lay_4 rfl rfl (fun h2 => ?_) (fun h2 => ?_)
  · skip
    exact v_vret C (by decide) (by decide) dX1_lay_21 ⟨rfl, by first | rfl | (simp only [h2, layF, bI, pM, pU, n10, n20, n30, n0, if_true, if_false, ite_true, ite_false, not_true_eq_false, not_false_eq_true, and_true, true_and, and_false, false_and, or_true, true_or, or_false, false_or, reduceIte, and_self, or_self, ne_eq, eq_self_iff_true]; first | done | rfl) | (simp [bI, h2, layF]; done) | (simp only [layF, bI, ← Int32.not_le] at *; simp [h2]; done) | (simp_all [bI, h2, layF]; done) | (simp_all [bI, h2, layF]; rfl) | (exfalso; omega), by trivial⟩
  · skip
    refine v_aload_n C dX1_lay_7 rfl 0 rfl ?_
    refine v_get C (v := .ref (a 8 0)) g_X1_9 (m3 (s := s) (t := t) (g := G.2.2.1) hL) rfl dX1_lay_8 rfl ?_
    refine v_iload_n C dX1_lay_11 rfl 1 rfl ?_
    refine v_iload_n C dX1_lay_12 rfl 2 rfl ?_
    refine v_iastE C (len := 40) (tn x) (put_g (s := s) (t := t) (g := G.2.2.1) hL 0 (by decide) (tn x) m) rfl (vp_rng (n := 39) rfl (by decide) (by assumption)) dX1_lay_13 rfl ?_
    refine xx_w (w' := wl a (E G.2.2.1 a (su s 9 (tn x) m) t) L) rfl ?_
    refine v_aload_n C dX1_lay_14 rfl 0 rfl ?_
    refine v_get C (v := .ref (a 8 1)) g_X1_15 (m3 (s := ((su s 9 (tn x) m))) (t := t) (g := G.2.2.1) hL) rfl dX1_lay_15 rfl ?_
    refine v_iload_n C dX1_lay_18 rfl 1 rfl ?_
    refine v_iload_n C dX1_lay_19 rfl 3 rfl ?_
    refine v_iastE C (len := 40) (tn x) (put_g (s := ((su s 9 (tn x) m))) (t := t) (g := G.2.2.1) hL 1 (by decide) (tn x) g) rfl (vp_rng (n := 39) rfl (by decide) (by assumption)) dX1_lay_20 rfl ?_
    refine xx_w (w' := wl a (E G.2.2.1 a (su (su s 9 (tn x) m) 10 (tn x) g) t) L) rfl ?_
    exact v_vret C (by decide) (by decide) dX1_lay_21 ⟨rfl, by first | rfl | (simp only [h2, layF, bI, pM, pU, n10, n20, n30, n0, if_true, if_false, ite_true, ite_false, not_true_eq_false, not_false_eq_true, and_true, true_and, and_false, false_and, or_true, true_or, or_false, false_or, reduceIte, and_self, or_self, ne_eq, eq_self_iff_true]; first | done | rfl) | (simp [bI, h2, layF]; done) | (simp only [layF, bI, ← Int32.not_le] at *; simp [h2]; done) | (simp_all [bI, h2, layF]; done) | (simp_all [bI, h2, layF]; rfl) | (exfalso; omega), by trivial⟩

abbrev r_X1_drop : Room := { frames := 1, cells := 0, slots := 0, locals := 20 }
set_option maxRecDepth 4000 in
theorem c_X1_drop {l : Launch} {G : GG} {a : AD} {s t s0 : SS} {L : List (Nat × Nat)}  (hst : l.stackTraces = false) (hG : GOK G) (hL : Live L s0) (x : Int32) (v_ : Int32)  : Mth l yX1_drop cX1_drop 3 (Option.none : Option Jvm.ClassFile.FieldType) r_X1_drop G (wl a (E G.2.2.1 a s t) L) [.ref (a 3 0), .int x, .int v_] (RV (wl a (E G.2.2.1 a (dropF s x v_) t) L) (True)) nX := by
  refine mth_of rfl (Nat.le_of_ble_eq_true rfl) hst hG (fun X hX C0 => ?_)
  subst hX
  have C : Cx X G cX1_drop 3 RX1 (Option.none : Option Jvm.ClassFile.FieldType) r_X1_drop "drop" [] := C0
  clear C0
  show V X G 3 _ 0 0 _ 0 [(0, .ref (a 3 0)), (1, .int (x)), (2, .int (v_))] []
  refine v_iload_n C dX1_drop_0 rfl 1 rfl ?_
  refine w_invSNr C [.int (x)] 0 0 L_X1_26 (c_X7_isCell (s := s) (t := t)  hst hG hL x) rfl rfl rfl dX1_drop_1 rfl (fun h1 => ?_)
  refine v_ifB_eq C (t := 20) dX1_drop_4 rfl rfl (fun h2 => ?_) (fun h2 => ?_)
  · skip
    refine v_aload_n C dX1_drop_20 rfl 0 rfl ?_
    refine v_dup C dX1_drop_21 rfl rfl ?_
    refine v_get C (v := .int (s 6 0)) g_X1_18 (m3 (s := s) (t := t) (g := G.2.2.1) hL) rfl dX1_drop_22 rfl ?_
    refine v_iload_n C dX1_drop_25 rfl 2 rfl ?_
    refine v_iadd C dX1_drop_26 rfl ?_
    refine v_put C f_X1_18 (put_sea (s := s) (t := t) (g := G.2.2.1) hL ((s 6 0) + v_)) rfl rfl (Nat.le_of_ble_eq_true rfl) dX1_drop_27 rfl ?_
    exact v_vret C (by decide) (by decide) dX1_drop_30 ⟨rfl, by first | rfl | (simp only [h2, dropF, bI, pM, pU, n10, n20, n30, n0, if_true, if_false, ite_true, ite_false, not_true_eq_false, not_false_eq_true, and_true, true_and, and_false, false_and, or_true, true_or, or_false, false_or, reduceIte, and_self, or_self, ne_eq, eq_self_iff_true]; first | done | rfl) | (simp [bI, h2, dropF]; done) | (simp only [dropF, bI, ← Int32.not_le] at *; simp [h2]; done) | (simp_all [bI, h2, dropF]; done) | (simp_all [bI, h2, dropF]; rfl) | (exfalso; omega), by trivial⟩
  · skip
    refine v_aload_n C dX1_drop_7 rfl 0 rfl ?_
    refine v_get C (v := .ref (a 8 0)) g_X1_9 (m3 (s := s) (t := t) (g := G.2.2.1) hL) rfl dX1_drop_8 rfl ?_
    refine v_iload_n C dX1_drop_11 rfl 1 rfl ?_
    refine v_dup2 C dX1_drop_12 rfl rfl rfl ?_
    refine v_iald C (len := 40) (m8 (s := s) (t := t) (g := G.2.2.1) hL 0 (by decide)) (vp_rng (n := 39) rfl (by decide) (by assumption)) dX1_drop_13 rfl ?_
    refine xx_top (y := s 9 (tn x)) rfl ?_
    refine v_iload_n C dX1_drop_14 rfl 2 rfl ?_
    refine v_iadd C dX1_drop_15 rfl ?_
    refine v_iastE C (len := 40) (tn x) (put_g (s := s) (t := t) (g := G.2.2.1) hL 0 (by decide) (tn x) ((s 9 (tn x)) + v_)) rfl (vp_rng (n := 39) rfl (by decide) (by assumption)) dX1_drop_16 rfl ?_
    refine xx_w (w' := wl a (E G.2.2.1 a (su s 9 (tn x) ((s 9 (tn x)) + v_)) t) L) rfl ?_
    refine v_goto C (q := 30) dX1_drop_17 rfl ?_
    exact v_vret C (by decide) (by decide) dX1_drop_30 ⟨rfl, by first | rfl | (simp only [h2, dropF, bI, pM, pU, n10, n20, n30, n0, if_true, if_false, ite_true, ite_false, not_true_eq_false, not_false_eq_true, and_true, true_and, and_false, false_and, or_true, true_or, or_false, false_or, reduceIte, and_self, or_self, ne_eq, eq_self_iff_true]; first | done | rfl) | (simp [bI, h2, dropF]; done) | (simp only [dropF, bI, ← Int32.not_le] at *; simp [h2]; done) | (simp_all [bI, h2, dropF]; done) | (simp_all [bI, h2, dropF]; rfl) | (exfalso; omega), by trivial⟩

abbrev r_X2_recoveredOf : Room := { frames := 0, cells := 0, slots := 0, locals := 0 }
set_option maxRecDepth 4000 in
theorem c_X2_recoveredOf {l : Launch} {G : GG} {a : AD} {s t s0 : SS} {L : List (Nat × Nat)}  (hst : l.stackTraces = false) (hG : GOK G) (hL : Live L s0) (g_this : Nat) (l_this : g_this < 4) (tk : Int32) (c : Int32)  : Mth l yX2_recoveredOf cX2_recoveredOf 3 (Option.some Jvm.ClassFile.FieldType.int) r_X2_recoveredOf G (wl a (E G.2.2.1 a s t) L) [.ref (G.2.2.1 (20 + g_this)), .int tk, .int c] (RI (.int (rcF (nI g_this) tk c)) (wl a (E G.2.2.1 a s t) L) (True)) nX := by
  refine mth_of rfl (Nat.le_of_ble_eq_true rfl) hst hG (fun X hX C0 => ?_)
  subst hX
  have C : Cx X G cX2_recoveredOf 3 RX2 (Option.some Jvm.ClassFile.FieldType.int) r_X2_recoveredOf "recoveredOf" [] := C0
  clear C0
  show V X G 3 _ 0 0 _ 0 [(0, .ref (G.2.2.1 (20 + g_this))), (1, .int (tk)), (2, .int (c))] []
  refine v_iload_n C dX2_recoveredOf_0 rfl 1 rfl ?_
  refine v_aload_n C dX2_recoveredOf_1 rfl 0 rfl ?_
  refine v_getO C (v := .int (hundF (nI g_this))) (Or.inl (q4 121 rfl rfl)) (gear_hundredths C (by omega)) dX2_recoveredOf_2 rfl ?_
  refine v_iconst C (v := 3) dX2_recoveredOf_5 rfl rfl ?_
  refine v_iload_n C dX2_recoveredOf_6 rfl 2 rfl ?_
  refine v_imul C dX2_recoveredOf_7 rfl ?_
  refine v_isub C dX2_recoveredOf_8 rfl ?_
  refine v_imul C dX2_recoveredOf_9 rfl ?_
  refine v_bipush C (v := 100) dX2_recoveredOf_10 rfl rfl ?_
  refine v_idiv C dX2_recoveredOf_12 rfl (by decide) ?_
  exact v_iret C (by decide) (by decide) dX2_recoveredOf_13 ⟨congrArg (fun z => some (Value.int z)) (by first | rfl | (simp only [rcF, bI, pM, pU, n10, n20, n30, n0, if_true, if_false, ite_true, ite_false, not_true_eq_false, not_false_eq_true, and_true, true_and, and_false, false_and, or_true, true_or, or_false, false_or, reduceIte, and_self, or_self, ne_eq, eq_self_iff_true]; first | done | rfl) | (simp [bI, rcF]; done) | (simp only [rcF, bI, ← Int32.not_le] at *; simp []; done) | (simp_all [bI, rcF]; done) | (simp_all [bI, rcF]; rfl) | (exfalso; omega)), by rfl, by trivial⟩

abbrev r_X1_dig : Room := { frames := 2, cells := 0, slots := 0, locals := 42 }
set_option maxRecDepth 4000 in
theorem c_X1_dig {l : Launch} {G : GG} {a : AD} {s t s0 : SS} {L : List (Nat × Nat)}  (hst : l.stackTraces = false) (hG : GOK G) (hL : Live L s0) (c : Int32) (g_g : Nat) (l_g : g_g < 4)  : Mth l yX1_dig cX1_dig 5 (Option.some Jvm.ClassFile.FieldType.int) r_X1_dig G (wl a (E G.2.2.1 a s t) L) [.ref (a 3 0), .int c, .ref (G.2.2.1 (20 + g_g))] (RI (.int (rcF (nI g_g) (minF (grF s c) (mostF (nI g_g))) (claF s c))) (wl a (E G.2.2.1 a (digC s c (nI g_g)) t) L) (True)) nX := by
  refine mth_of rfl (Nat.le_of_ble_eq_true rfl) hst hG (fun X hX C0 => ?_)
  subst hX
  have C : Cx X G cX1_dig 5 RX1 (Option.some Jvm.ClassFile.FieldType.int) r_X1_dig "dig" [] := C0
  clear C0
  show V X G 5 _ 0 0 _ 0 [(0, .ref (a 3 0)), (1, .int (c)), (2, .ref (G.2.2.1 (20 + g_g)))] []
  refine v_aload_n C dX1_dig_0 rfl 0 rfl ?_
  refine v_iload_n C dX1_dig_1 rfl 1 rfl ?_
  refine w_invVr C [.int (c)] 0 0 L_X1_30 (c_X1_grainsAt (s := s) (t := t)  hst hG hL c) (m3 (s := s) (t := t) (g := G.2.2.1) hL) rfl rfl rfl rfl dX1_dig_2 rfl kx_no (fun h1 => ?_)
  refine v_aload_n C dX1_dig_5 rfl 2 rfl ?_
  refine v_getO C (v := .int (mostF (nI g_g))) (Or.inr ⟨"NuggetCamp", (qn4 120 rfl rfl)⟩) (gear_mostTaken C (by omega)) dX1_dig_6 rfl ?_
  refine v_mmin C L_X1_39.2.1 L_X1_39.2.2 L_X1_39.1.1 L_X1_39.1.2.1 (by decide) (Nat.le_of_ble_eq_true rfl) (by decide) (by decide) dX1_dig_9 rfl ?_
  refine xx_top (y := minF (grF s c) (mostF (nI g_g))) mn_c ?_
  refine v_istore_n C (lv1 := [(3, .int (minF (grF s c) (mostF (nI g_g)))), (0, .ref (a 3 0)), (1, .int (c)), (2, .ref (G.2.2.1 (20 + g_g)))]) dX1_dig_12 rfl (by decide) rfl ?_
  refine v_aload_n C dX1_dig_13 rfl 3 rfl ?_
  refine v_iload_n C dX1_dig_14 rfl 0 rfl ?_
  refine v_aload_n C dX1_dig_15 rfl 1 rfl ?_
  refine v_iload_n C dX1_dig_16 rfl 2 rfl ?_
  refine w_invVr C [.int (c)] 0 0 L_X1_45 (c_X1_clayAt (s := s) (t := t)  hst hG hL c) (m3 (s := s) (t := t) (g := G.2.2.1) hL) rfl rfl rfl rfl dX1_dig_17 rfl kx_no (fun h2 => ?_)
  refine w_invVOr C [.int (minF (grF s c) (mostF (nI g_g))), .int (claF s c)] 0 0 L_X1_48 (c_X2_recoveredOf (s := s) (t := t)  hst hG hL g_g (by omega) (minF (grF s c) (mostF (nI g_g))) (claF s c)) (gear_O C (by omega)) rfl rfl rfl dX1_dig_20 rfl kx_no (fun h3 => ?_)
  refine v_istore C (lv1 := [(4, .int (rcF (nI g_g) (minF (grF s c) (mostF (nI g_g))) (claF s c))), (3, .int (minF (grF s c) (mostF (nI g_g)))), (0, .ref (a 3 0)), (1, .int (c)), (2, .ref (G.2.2.1 (20 + g_g)))]) dX1_dig_23 rfl (by decide) rfl ?_
  refine v_aload_n C dX1_dig_25 rfl 2 rfl ?_
  refine v_iload_n C dX1_dig_26 rfl 3 rfl ?_
  refine v_iload_n C dX1_dig_27 rfl 1 rfl ?_
  refine v_ineg C dX1_dig_28 rfl ?_
  refine w_invVv C [.int (c), .int (-(minF (grF s c) (mostF (nI g_g))))] 0 0 L_X1_51 (c_X1_drop (s := s) (t := t)  hst hG hL c (-(minF (grF s c) (mostF (nI g_g))))) (m3 (s := s) (t := t) (g := G.2.2.1) hL) rfl rfl rfl rfl dX1_dig_29 rfl kx_no (fun h4 => ?_)
  refine v_aload_n C dX1_dig_32 rfl 2 rfl ?_
  refine v_iload_n C dX1_dig_33 rfl 3 rfl ?_
  refine v_iconst C (v := 1) dX1_dig_34 rfl rfl ?_
  refine v_iadd C dX1_dig_35 rfl ?_
  refine v_iload_n C dX1_dig_36 rfl 1 rfl ?_
  refine v_iload C dX1_dig_37 rfl 0 rfl ?_
  refine v_isub C dX1_dig_39 rfl ?_
  refine w_invVv C [.int (c + 1), .int ((minF (grF s c) (mostF (nI g_g))) - (rcF (nI g_g) (minF (grF s c) (mostF (nI g_g))) (claF s c)))] 0 0 L_X1_51 (c_X1_drop (s := ((dropF s c ((-(minF (grF s c) (mostF (nI g_g)))))))) (t := t)  hst hG hL (c + 1) ((minF (grF s c) (mostF (nI g_g))) - (rcF (nI g_g) (minF (grF s c) (mostF (nI g_g))) (claF s c)))) (m3 (s := ((dropF s c ((-(minF (grF s c) (mostF (nI g_g)))))))) (t := t) (g := G.2.2.1) hL) rfl rfl rfl rfl dX1_dig_40 rfl kx_no (fun h5 => ?_)
  refine v_iload C dX1_dig_43 rfl 0 rfl ?_
  exact v_iret C (by decide) (by decide) dX1_dig_45 ⟨congrArg (fun z => some (Value.int z)) (by first | rfl | (simp only [digC, bI, pM, pU, n10, n20, n30, n0, if_true, if_false, ite_true, ite_false, not_true_eq_false, not_false_eq_true, and_true, true_and, and_false, false_and, or_true, true_or, or_false, false_or, reduceIte, and_self, or_self, ne_eq, eq_self_iff_true]; first | done | rfl) | (simp [bI, digC]; done) | (simp only [digC, bI, ← Int32.not_le] at *; simp []; done) | (simp_all [bI, digC]; done) | (simp_all [bI, digC]; rfl) | (exfalso; omega)), by first | rfl | (simp only [digC, bI, pM, pU, n10, n20, n30, n0, if_true, if_false, ite_true, ite_false, not_true_eq_false, not_false_eq_true, and_true, true_and, and_false, false_and, or_true, true_or, or_false, false_or, reduceIte, and_self, or_self, ne_eq, eq_self_iff_true]; first | done | rfl) | (simp [bI, digC]; done) | (simp only [digC, bI, ← Int32.not_le] at *; simp []; done) | (simp_all [bI, digC]; done) | (simp_all [bI, digC]; rfl) | (exfalso; omega), by trivial⟩

abbrev r_X1_goldInGround : Room := { frames := 0, cells := 0, slots := 0, locals := 0 }
set_option maxRecDepth 4000 in
theorem c_X1_goldInGround {l : Launch} {G : GG} {a : AD} {s t s0 : SS} {L : List (Nat × Nat)}  (hst : l.stackTraces = false) (hG : GOK G) (hL : Live L s0)   : Mth l yX1_goldInGround cX1_goldInGround 3 (Option.some Jvm.ClassFile.FieldType.int) r_X1_goldInGround G (wl a (E G.2.2.1 a s t) L) [.ref (a 3 0)] (RI (.int (sumN (s 9) 40)) (wl a (E G.2.2.1 a s t) L) (True)) nX := by
  refine mth_of rfl (Nat.le_of_ble_eq_true rfl) hst hG (fun X hX C0 => ?_)
  subst hX
  have C : Cx X G cX1_goldInGround 3 RX1 (Option.some Jvm.ClassFile.FieldType.int) r_X1_goldInGround "goldInGround" [] := C0
  clear C0
  show V X G 3 _ 0 0 _ 0 [(0, .ref (a 3 0))] []
  refine v_iconst C (v := 0) dX1_goldInGround_0 rfl rfl ?_
  refine v_istore_n C (lv1 := [(1, .int (0)), (0, .ref (a 3 0))]) dX1_goldInGround_1 rfl (by decide) rfl ?_
  refine v_iconst C (v := 0) dX1_goldInGround_2 rfl rfl ?_
  refine v_istore_n C (lv1 := [(2, .int (0)), (1, .int (0)), (0, .ref (a 3 0))]) dX1_goldInGround_3 rfl (by decide) rfl ?_
  refine xx_lv [2, 1, 0] (lv' := [(0, .ref (a 3 0)), (1, .int (0)), (2, .int (0))]) rfl ?_
  refine xx_wc (w2 := wl a (E G.2.2.1 a s t) L) (lv' := [(0, .ref (a 3 0)), (1, .int (sumN (s 9) 0)), (2, .int (nI (0)))]) (by rfl) (by first | rfl | (simp [bI, sumN]; done)) ?_
  refine xx_loop (40) 0 (fun i => wl a (E G.2.2.1 a s t) L) (fun i => [(0, .ref (a 3 0)), (1, .int (sumN (s 9) i)), (2, .int (nI (i)))]) (by omega) ?_
  intro i hi0 hiN ih_i
  refine v_iload_n C dX1_goldInGround_4 rfl 2 rfl ?_
  refine v_aload_n C dX1_goldInGround_5 rfl 0 rfl ?_
  refine v_get C (v := .ref (a 8 0)) g_X1_9 (m3 (s := s) (t := t) (g := G.2.2.1) hL) rfl dX1_goldInGround_6 rfl ?_
  refine v_alen C (t := 0) (v := 40) (m8 (s := s) (t := t) (g := G.2.2.1) hL 0 (by decide)) (by decide) rfl dX1_goldInGround_9 rfl ?_
  refine v_icN_ge C (t := 28) i 40 rfl rfl (by omega) (by omega) dX1_goldInGround_10 rfl rfl (fun h1 => ?_) (fun h1 => ?_)
  · skip
    refine v_iload_n C dX1_goldInGround_28 rfl 1 rfl ?_
    exact v_iret C (by decide) (by decide) dX1_goldInGround_29 ⟨congrArg (fun z => some (Value.int z)) (by (have : i = 40 := by omega); subst this; rfl), by rfl, by trivial⟩
  · skip
    refine v_iload_n C dX1_goldInGround_13 rfl 1 rfl ?_
    refine v_aload_n C dX1_goldInGround_14 rfl 0 rfl ?_
    refine v_get C (v := .ref (a 8 0)) g_X1_9 (m3 (s := s) (t := t) (g := G.2.2.1) hL) rfl dX1_goldInGround_15 rfl ?_
    refine v_iload_n C dX1_goldInGround_18 rfl 2 rfl ?_
    refine v_ialdE C (len := 40) i (m8 (s := s) (t := t) (g := G.2.2.1) hL 0 (by decide)) (nI_clamp (by omega)) (pk_in i 40 (by omega)) dX1_goldInGround_19 rfl ?_
    refine xx_top (y := s 9 i) rfl ?_
    refine v_iadd C dX1_goldInGround_20 rfl ?_
    refine v_istore_n C (lv1 := [(1, .int ((sumN (s 9) i) + (s 9 i))), (0, .ref (a 3 0)), (2, .int (nI (i)))]) dX1_goldInGround_21 rfl (by decide) rfl ?_
    refine v_iincN C (lv1 := [(2, .int (nI (i + 1))), (1, .int ((sumN (s 9) i) + (s 9 i))), (0, .ref (a 3 0))]) i rfl dX1_goldInGround_22 rfl 2 rfl (by decide) rfl ?_
    refine v_goto C (q := 4) dX1_goldInGround_25 rfl ?_
    refine xx_lv [2, 1, 0] (lv' := [(0, .ref (a 3 0)), (1, .int ((sumN (s 9) i) + (s 9 i))), (2, .int (nI (i + 1)))]) rfl ?_
    refine xx_wc (w2 := wl a (E G.2.2.1 a s t) L) (lv' := [(0, .ref (a 3 0)), (1, .int (sumN (s 9) (i + 1))), (2, .int (nI (i + 1)))]) (by rfl) (by first | rfl | (simp [h1, Nat.not_le.mpr h1, sumN, Nat.add_assoc])) ?_
    exact ih_i (by omega)

abbrev r_X3_isDead : Room := { frames := 0, cells := 0, slots := 0, locals := 0 }
set_option maxRecDepth 4000 in
theorem c_X3_isDead {l : Launch} {G : GG} {a : AD} {s t s0 : SS} {L : List (Nat × Nat)}  (hst : l.stackTraces = false) (hG : GOK G) (hL : Live L s0) (i_this : Nat) (hv : i_this < tn (s0 12 0)) : Mth l yX3_isDead cX3_isDead 1 (Option.some Jvm.ClassFile.FieldType.boolean) r_X3_isDead G (wl a (E G.2.2.1 a s t) L) [.ref (a 9 i_this)] (RI (.int (bI (s 17 i_this = 0))) (wl a (E G.2.2.1 a s t) L) (True)) nX := by
  refine mth_of rfl (Nat.le_of_ble_eq_true rfl) hst hG (fun X hX C0 => ?_)
  subst hX
  have C : Cx X G cX3_isDead 1 RX3 (Option.some Jvm.ClassFile.FieldType.boolean) r_X3_isDead "isDead" [] := C0
  clear C0
  show V X G 1 _ 0 0 _ 0 [(0, .ref (a 9 i_this))] []
  refine v_aload_n C dX3_isDead_0 rfl 0 rfl ?_
  refine v_get C (v := .int (s 17 i_this)) g_X3_25 (m9 (s := s) (t := t) (g := G.2.2.1) hL i_this hv) (rg (by decide) rfl) dX3_isDead_1 rfl ?_
  refine v_if_ne C (t := 11) dX3_isDead_4 rfl rfl (fun h1 => ?_) (fun h1 => ?_)
  · skip
    refine v_iconst C (v := 0) dX3_isDead_11 rfl rfl ?_
    exact v_zret C rfl (by decide) (by decide) dX3_isDead_12 ⟨congrArg (fun z => some (Value.int z)) (by first | rfl | (simp only [h1, bI, pM, pU, n10, n20, n30, n0, if_true, if_false, ite_true, ite_false, not_true_eq_false, not_false_eq_true, and_true, true_and, and_false, false_and, or_true, true_or, or_false, false_or, reduceIte, and_self, or_self, ne_eq, eq_self_iff_true]; first | done | rfl) | (simp [bI, h1]; done) | (simp only [bI, ← Int32.not_le] at *; simp [h1]; done) | (simp_all [bI, h1]; done) | (simp_all [bI, h1]; rfl) | (exfalso; omega)), by rfl, by trivial⟩
  · skip
    refine v_iconst C (v := 1) dX3_isDead_7 rfl rfl ?_
    refine v_goto C (q := 12) dX3_isDead_8 rfl ?_
    exact v_zret C rfl (by decide) (by decide) dX3_isDead_12 ⟨congrArg (fun z => some (Value.int z)) (by first | rfl | (simp only [eq_true h1, bI, pM, pU, n10, n20, n30, n0, if_true, if_false, ite_true, ite_false, not_true_eq_false, not_false_eq_true, and_true, true_and, and_false, false_and, or_true, true_or, or_false, false_or, reduceIte, and_self, or_self, ne_eq, eq_self_iff_true]; first | done | rfl) | (simp [bI, eq_true h1]; done) | (simp only [bI, ← Int32.not_le] at *; simp [eq_true h1]; done) | (simp_all [bI, eq_true h1]; done) | (simp_all [bI, eq_true h1]; rfl) | (exfalso; omega)), by rfl, by trivial⟩

abbrev r_X3_dust : Room := { frames := 0, cells := 0, slots := 0, locals := 0 }
set_option maxRecDepth 4000 in
theorem c_X3_dust {l : Launch} {G : GG} {a : AD} {s t s0 : SS} {L : List (Nat × Nat)}  (hst : l.stackTraces = false) (hG : GOK G) (hL : Live L s0) (i_this : Nat) (hv : i_this < tn (s0 12 0)) : Mth l yX3_dust cX3_dust 1 (Option.some Jvm.ClassFile.FieldType.int) r_X3_dust G (wl a (E G.2.2.1 a s t) L) [.ref (a 9 i_this)] (RI (.int (s 13 i_this + s 14 i_this)) (wl a (E G.2.2.1 a s t) L) (True)) nX := by
  refine mth_of rfl (Nat.le_of_ble_eq_true rfl) hst hG (fun X hX C0 => ?_)
  subst hX
  have C : Cx X G cX3_dust 1 RX3 (Option.some Jvm.ClassFile.FieldType.int) r_X3_dust "dust" [] := C0
  clear C0
  show V X G 1 _ 0 0 _ 0 [(0, .ref (a 9 i_this))] []
  refine v_aload_n C dX3_dust_0 rfl 0 rfl ?_
  refine v_get C (v := .int (s 13 i_this)) g_X3_18 (m9 (s := s) (t := t) (g := G.2.2.1) hL i_this hv) (rg (by decide) rfl) dX3_dust_1 rfl ?_
  refine v_aload_n C dX3_dust_4 rfl 0 rfl ?_
  refine v_get C (v := .int (s 14 i_this)) g_X3_22 (m9 (s := s) (t := t) (g := G.2.2.1) hL i_this hv) (rg (by decide) rfl) dX3_dust_5 rfl ?_
  refine v_iadd C dX3_dust_8 rfl ?_
  exact v_iret C (by decide) (by decide) dX3_dust_9 ⟨congrArg (fun z => some (Value.int z)) (by first | rfl | (simp only [bI, pM, pU, n10, n20, n30, n0, if_true, if_false, ite_true, ite_false, not_true_eq_false, not_false_eq_true, and_true, true_and, and_false, false_and, or_true, true_or, or_false, false_or, reduceIte, and_self, or_self, ne_eq, eq_self_iff_true]; first | done | rfl) | (simp [bI, ]; done) | (simp only [bI, ← Int32.not_le] at *; simp []; done) | (simp_all [bI, ]; done) | (simp_all [bI, ]; rfl) | (exfalso; omega)), by rfl, by trivial⟩

abbrev r_X3_isSuspect : Room := { frames := 1, cells := 0, slots := 0, locals := 20 }
set_option maxRecDepth 4000 in
theorem c_X3_isSuspect {l : Launch} {G : GG} {a : AD} {s t s0 : SS} {L : List (Nat × Nat)}  (hst : l.stackTraces = false) (hG : GOK G) (hL : Live L s0) (i_this : Nat) (hv : i_this < tn (s0 12 0)) : Mth l yX3_isSuspect cX3_isSuspect 1 (Option.some Jvm.ClassFile.FieldType.boolean) r_X3_isSuspect G (wl a (E G.2.2.1 a s t) L) [.ref (a 9 i_this)] (RI (.int (bI (s 13 i_this + s 14 i_this < s 14 i_this * 20))) (wl a (E G.2.2.1 a s t) L) (True)) nX := by
  refine mth_of rfl (Nat.le_of_ble_eq_true rfl) hst hG (fun X hX C0 => ?_)
  subst hX
  have C : Cx X G cX3_isSuspect 1 RX3 (Option.some Jvm.ClassFile.FieldType.boolean) r_X3_isSuspect "isSuspect" [] := C0
  clear C0
  show V X G 1 _ 0 0 _ 0 [(0, .ref (a 9 i_this))] []
  refine v_aload_n C dX3_isSuspect_0 rfl 0 rfl ?_
  refine v_get C (v := .int (s 14 i_this)) g_X3_22 (m9 (s := s) (t := t) (g := G.2.2.1) hL i_this hv) (rg (by decide) rfl) dX3_isSuspect_1 rfl ?_
  refine v_bipush C (v := 20) dX3_isSuspect_4 rfl rfl ?_
  refine v_imul C dX3_isSuspect_6 rfl ?_
  refine v_aload_n C dX3_isSuspect_7 rfl 0 rfl ?_
  refine w_invVr C [] 0 0 L_X3_53 (c_X3_dust (s := s) (t := t)  hst hG hL i_this hv) (m9 (s := s) (t := t) (g := G.2.2.1) hL i_this hv) rfl rfl rfl rfl dX3_isSuspect_8 rfl kx_no (fun h1 => ?_)
  refine v_icmp_le C (t := 18) dX3_isSuspect_11 rfl rfl (fun h2 => ?_) (fun h2 => ?_)
  · skip
    refine v_iconst C (v := 0) dX3_isSuspect_18 rfl rfl ?_
    exact v_zret C rfl (by decide) (by decide) dX3_isSuspect_19 ⟨congrArg (fun z => some (Value.int z)) (by first | rfl | (simp only [h2, Int32.not_lt.mpr h2, bI, pM, pU, n10, n20, n30, n0, if_true, if_false, ite_true, ite_false, not_true_eq_false, not_false_eq_true, and_true, true_and, and_false, false_and, or_true, true_or, or_false, false_or, reduceIte, and_self, or_self, ne_eq, eq_self_iff_true]; first | done | rfl) | (simp [bI, h2, Int32.not_lt.mpr h2]; done) | (simp only [bI, ← Int32.not_le] at *; simp [h2, Int32.not_lt.mpr h2]; done) | (simp_all [bI, h2, Int32.not_lt.mpr h2]; done) | (simp_all [bI, h2, Int32.not_lt.mpr h2]; rfl) | (exfalso; omega)), by rfl, by trivial⟩
  · skip
    refine v_iconst C (v := 1) dX3_isSuspect_14 rfl rfl ?_
    refine v_goto C (q := 19) dX3_isSuspect_15 rfl ?_
    exact v_zret C rfl (by decide) (by decide) dX3_isSuspect_19 ⟨congrArg (fun z => some (Value.int z)) (by first | rfl | (simp only [h2, Int32.not_le.mp h2, bI, pM, pU, n10, n20, n30, n0, if_true, if_false, ite_true, ite_false, not_true_eq_false, not_false_eq_true, and_true, true_and, and_false, false_and, or_true, true_or, or_false, false_or, reduceIte, and_self, or_self, ne_eq, eq_self_iff_true]; first | done | rfl) | (simp [bI, h2, Int32.not_le.mp h2]; done) | (simp only [bI, ← Int32.not_le] at *; simp [h2, Int32.not_le.mp h2]; done) | (simp_all [bI, h2, Int32.not_le.mp h2]; done) | (simp_all [bI, h2, Int32.not_le.mp h2]; rfl) | (exfalso; omega)), by rfl, by trivial⟩

abbrev r_X3_brassIn : Room := { frames := 1, cells := 0, slots := 0, locals := 20 }
set_option maxRecDepth 4000 in
theorem c_X3_brassIn {l : Launch} {G : GG} {a : AD} {s t s0 : SS} {L : List (Nat × Nat)}  (hst : l.stackTraces = false) (hG : GOK G) (hL : Live L s0) (i_this : Nat) (d : Int32) (hv : i_this < tn (s0 12 0)) : Mth l yX3_brassIn cX3_brassIn 3 (Option.some Jvm.ClassFile.FieldType.int) r_X3_brassIn G (wl a (E G.2.2.1 a s t) L) [.ref (a 9 i_this), .int d] (RI (.int (brC s i_this d)) (wl a (E G.2.2.1 a s t) L) (True)) nX := by
  refine mth_of rfl (Nat.le_of_ble_eq_true rfl) hst hG (fun X hX C0 => ?_)
  subst hX
  have C : Cx X G cX3_brassIn 3 RX3 (Option.some Jvm.ClassFile.FieldType.int) r_X3_brassIn "brassIn" [] := C0
  clear C0
  show V X G 3 _ 0 0 _ 0 [(0, .ref (a 9 i_this)), (1, .int (d))] []
  refine v_aload_n C dX3_brassIn_0 rfl 0 rfl ?_
  refine w_invVr C [] 0 0 L_X3_53 (c_X3_dust (s := s) (t := t)  hst hG hL i_this hv) (m9 (s := s) (t := t) (g := G.2.2.1) hL i_this hv) rfl rfl rfl rfl dX3_brassIn_1 rfl kx_no (fun h1 => ?_)
  refine v_istore_n C (lv1 := [(2, .int (s 13 i_this + s 14 i_this)), (0, .ref (a 9 i_this)), (1, .int (d))]) dX3_brassIn_4 rfl (by decide) rfl ?_
  refine v_iload_n C dX3_brassIn_5 rfl 0 rfl ?_
  refine v_if_le C (t := 24) dX3_brassIn_6 rfl rfl (fun h2 => ?_) (fun h2 => ?_)
  · skip
    refine v_iconst C (v := 0) dX3_brassIn_24 rfl rfl ?_
    exact v_iret C (by decide) (by decide) dX3_brassIn_25 ⟨congrArg (fun z => some (Value.int z)) (by first | rfl | (simp only [h2, Int32.not_lt.mpr h2, brC, brF, bI, pM, pU, n10, n20, n30, n0, if_true, if_false, ite_true, ite_false, not_true_eq_false, not_false_eq_true, and_true, true_and, and_false, false_and, or_true, true_or, or_false, false_or, reduceIte, and_self, or_self, ne_eq, eq_self_iff_true]; first | done | rfl) | (simp [bI, h2, Int32.not_lt.mpr h2, brC, brF]; done) | (simp only [brC, brF, bI, ← Int32.not_le] at *; simp [h2, Int32.not_lt.mpr h2]; done) | (simp_all [bI, h2, Int32.not_lt.mpr h2, brC, brF]; done) | (simp_all [bI, h2, Int32.not_lt.mpr h2, brC, brF]; rfl) | (exfalso; omega)), by rfl, by trivial⟩
  · skip
    refine v_iload_n C dX3_brassIn_9 rfl 2 rfl ?_
    refine v_i2l C dX3_brassIn_10 rfl ?_
    refine v_aload_n C dX3_brassIn_11 rfl 1 rfl ?_
    refine v_get C (v := .int (s 14 i_this)) g_X3_22 (m9 (s := s) (t := t) (g := G.2.2.1) hL i_this hv) (rg (by decide) rfl) dX3_brassIn_12 rfl ?_
    refine v_i2l C dX3_brassIn_15 rfl ?_
    refine v_lmul C dX3_brassIn_16 rfl ?_
    refine v_iload_n C dX3_brassIn_17 rfl 0 rfl ?_
    refine v_i2l C dX3_brassIn_18 rfl ?_
    refine v_ldiv C dX3_brassIn_19 rfl (i64_ne0 (Int32.not_le.mp (by assumption))) ?_
    refine v_l2i C dX3_brassIn_20 rfl ?_
    refine v_goto C (q := 25) dX3_brassIn_21 rfl ?_
    exact v_iret C (by decide) (by decide) dX3_brassIn_25 ⟨congrArg (fun z => some (Value.int z)) (by first | rfl | (simp only [h2, Int32.not_le.mp h2, brC, brF, bI, pM, pU, n10, n20, n30, n0, if_true, if_false, ite_true, ite_false, not_true_eq_false, not_false_eq_true, and_true, true_and, and_false, false_and, or_true, true_or, or_false, false_or, reduceIte, and_self, or_self, ne_eq, eq_self_iff_true]; first | done | rfl) | (simp [bI, h2, Int32.not_le.mp h2, brC, brF]; done) | (simp only [brC, brF, bI, ← Int32.not_le] at *; simp [h2, Int32.not_le.mp h2]; done) | (simp_all [bI, h2, Int32.not_le.mp h2, brC, brF]; done) | (simp_all [bI, h2, Int32.not_le.mp h2, brC, brF]; rfl) | (exfalso; omega)), by rfl, by trivial⟩

abbrev r_X3_percentOf : Room := { frames := 0, cells := 0, slots := 0, locals := 0 }
set_option maxRecDepth 4000 in
theorem c_X3_percentOf {l : Launch} {G : GG} {a : AD} {s t s0 : SS} {L : List (Nat × Nat)}  (hst : l.stackTraces = false) (hG : GOK G) (hL : Live L s0) (i_this : Nat) (x : Int32) (j_x : Nat) (e_x : x = nI j_x) (l_x : j_x < 12) (hv : i_this < tn (s0 12 0)) : Mth l yX3_percentOf cX3_percentOf 2 (Option.some Jvm.ClassFile.FieldType.int) r_X3_percentOf G (wl a (E G.2.2.1 a s t) L) [.ref (a 9 i_this), .int x] (RI (.int (s 20 (12 * i_this + j_x))) (wl a (E G.2.2.1 a s t) L) (True)) nX := by
  refine mth_of rfl (Nat.le_of_ble_eq_true rfl) hst hG (fun X hX C0 => ?_)
  subst hX
  have C : Cx X G cX3_percentOf 2 RX3 (Option.some Jvm.ClassFile.FieldType.int) r_X3_percentOf "percentOf" [] := C0
  clear C0
  show V X G 2 _ 0 0 _ 0 [(0, .ref (a 9 i_this)), (1, .int (x))] []
  subst e_x
  refine v_iload_n C dX3_percentOf_0 rfl 1 rfl ?_
  refine v_if_lt C (t := 22) dX3_percentOf_1 rfl rfl (fun h => absurd h (nI_pos (by omega))) (fun _ => ?_)
  refine v_iload_n C dX3_percentOf_4 rfl 1 rfl ?_
  refine v_aload_n C dX3_percentOf_5 rfl 0 rfl ?_
  refine v_get C (v := .ref (a 10 i_this)) g_X3_9 (m9 (s := s) (t := t) (g := G.2.2.1) hL i_this hv) (rg (by decide) rfl) dX3_percentOf_6 rfl ?_
  refine v_alen C (t := 0) (v := 12) (m10 (s := s) (t := t) (g := G.2.2.1) hL i_this hv) (by decide) rfl dX3_percentOf_9 rfl ?_
  refine v_icN_ge C (t := 22) j_x 12 rfl rfl (by omega) (by omega) dX3_percentOf_10 rfl rfl (fun h1 => ?_) (fun h1 => ?_)
  · skip
    refine v_iconst C (v := 0) dX3_percentOf_22 rfl rfl ?_
    exact v_iret C (by decide) (by decide) dX3_percentOf_23 ⟨congrArg (fun z => some (Value.int z)) (by first | rfl | (simp only [h1, Nat.not_lt.mpr h1, bI, pM, pU, n10, n20, n30, n0, if_true, if_false, ite_true, ite_false, not_true_eq_false, not_false_eq_true, and_true, true_and, and_false, false_and, or_true, true_or, or_false, false_or, reduceIte, and_self, or_self, ne_eq, eq_self_iff_true]; first | done | rfl) | (simp [bI, h1, Nat.not_lt.mpr h1]; done) | (simp only [bI, ← Int32.not_le] at *; simp [h1, Nat.not_lt.mpr h1]; done) | (simp_all [bI, h1, Nat.not_lt.mpr h1]; done) | (simp_all [bI, h1, Nat.not_lt.mpr h1]; rfl) | (exfalso; omega)), by rfl, by trivial⟩
  · skip
    refine v_aload_n C dX3_percentOf_13 rfl 0 rfl ?_
    refine v_get C (v := .ref (a 10 i_this)) g_X3_9 (m9 (s := s) (t := t) (g := G.2.2.1) hL i_this hv) (rg (by decide) rfl) dX3_percentOf_14 rfl ?_
    refine v_iload_n C dX3_percentOf_17 rfl 1 rfl ?_
    refine v_ialdE C (len := 12) j_x (m10 (s := s) (t := t) (g := G.2.2.1) hL i_this hv) (nI_clamp (by omega)) (pk_in j_x 12 (by omega)) dX3_percentOf_18 rfl ?_
    refine xx_top (y := s 20 (12 * i_this + j_x)) (rw_in (by omega)) ?_
    refine v_goto C (q := 23) dX3_percentOf_19 rfl ?_
    exact v_iret C (by decide) (by decide) dX3_percentOf_23 ⟨congrArg (fun z => some (Value.int z)) (by first | rfl | (simp only [h1, Nat.not_le.mpr h1, bI, pM, pU, n10, n20, n30, n0, if_true, if_false, ite_true, ite_false, not_true_eq_false, not_false_eq_true, and_true, true_and, and_false, false_and, or_true, true_or, or_false, false_or, reduceIte, and_self, or_self, ne_eq, eq_self_iff_true]; first | done | rfl) | (simp [bI, h1, Nat.not_le.mpr h1]; done) | (simp only [bI, ← Int32.not_le] at *; simp [h1, Nat.not_le.mpr h1]; done) | (simp_all [bI, h1, Nat.not_le.mpr h1]; done) | (simp_all [bI, h1, Nat.not_le.mpr h1]; rfl) | (exfalso; omega)), by rfl, by trivial⟩

abbrev r_X3_setPercent : Room := { frames := 0, cells := 0, slots := 0, locals := 0 }
set_option maxRecDepth 4000 in
theorem c_X3_setPercent {l : Launch} {G : GG} {a : AD} {s t s0 : SS} {L : List (Nat × Nat)}  (hst : l.stackTraces = false) (hG : GOK G) (hL : Live L s0) (i_this : Nat) (x : Int32) (j_x : Nat) (e_x : x = nI j_x) (l_x : j_x < 12) (v_ : Int32) (hv : i_this < tn (s0 12 0)) : Mth l yX3_setPercent cX3_setPercent 3 (Option.none : Option Jvm.ClassFile.FieldType) r_X3_setPercent G (wl a (E G.2.2.1 a s t) L) [.ref (a 9 i_this), .int x, .int v_] (RV (wl a (E G.2.2.1 a (su s 20 (12 * i_this + j_x) v_) t) L) (True)) nX := by
  refine mth_of rfl (Nat.le_of_ble_eq_true rfl) hst hG (fun X hX C0 => ?_)
  subst hX
  have C : Cx X G cX3_setPercent 3 RX3 (Option.none : Option Jvm.ClassFile.FieldType) r_X3_setPercent "setPercent" [] := C0
  clear C0
  show V X G 3 _ 0 0 _ 0 [(0, .ref (a 9 i_this)), (1, .int (x)), (2, .int (v_))] []
  subst e_x
  refine v_iload_n C dX3_setPercent_0 rfl 1 rfl ?_
  refine v_if_lt C (t := 20) dX3_setPercent_1 rfl rfl (fun h => absurd h (nI_pos (by omega))) (fun _ => ?_)
  refine v_iload_n C dX3_setPercent_4 rfl 1 rfl ?_
  refine v_aload_n C dX3_setPercent_5 rfl 0 rfl ?_
  refine v_get C (v := .ref (a 10 i_this)) g_X3_9 (m9 (s := s) (t := t) (g := G.2.2.1) hL i_this hv) (rg (by decide) rfl) dX3_setPercent_6 rfl ?_
  refine v_alen C (t := 0) (v := 12) (m10 (s := s) (t := t) (g := G.2.2.1) hL i_this hv) (by decide) rfl dX3_setPercent_9 rfl ?_
  refine v_icN_ge C (t := 20) j_x 12 rfl rfl (by omega) (by omega) dX3_setPercent_10 rfl rfl (fun h1 => ?_) (fun h1 => ?_)
  · skip
    exact v_vret C (by decide) (by decide) dX3_setPercent_20 ⟨rfl, by first | rfl | (simp only [h1, Nat.not_lt.mpr h1, bI, pM, pU, n10, n20, n30, n0, if_true, if_false, ite_true, ite_false, not_true_eq_false, not_false_eq_true, and_true, true_and, and_false, false_and, or_true, true_or, or_false, false_or, reduceIte, and_self, or_self, ne_eq, eq_self_iff_true]; first | done | rfl) | (simp [bI, h1, Nat.not_lt.mpr h1]; done) | (simp only [bI, ← Int32.not_le] at *; simp [h1, Nat.not_lt.mpr h1]; done) | (simp_all [bI, h1, Nat.not_lt.mpr h1]; done) | (simp_all [bI, h1, Nat.not_lt.mpr h1]; rfl) | (exfalso; omega), by trivial⟩
  · skip
    refine v_aload_n C dX3_setPercent_13 rfl 0 rfl ?_
    refine v_get C (v := .ref (a 10 i_this)) g_X3_9 (m9 (s := s) (t := t) (g := G.2.2.1) hL i_this hv) (rg (by decide) rfl) dX3_setPercent_14 rfl ?_
    refine v_iload_n C dX3_setPercent_17 rfl 1 rfl ?_
    refine v_iload_n C dX3_setPercent_18 rfl 2 rfl ?_
    refine v_iastE C (len := 12) j_x (put_p (s := s) (t := t) (g := G.2.2.1) hL i_this hv j_x (by omega) v_) (nI_clamp (by omega)) (pk_in j_x 12 (by omega)) dX3_setPercent_19 rfl ?_
    exact v_vret C (by decide) (by decide) dX3_setPercent_20 ⟨rfl, by first | rfl | (simp only [h1, Nat.not_le.mpr h1, bI, pM, pU, n10, n20, n30, n0, if_true, if_false, ite_true, ite_false, not_true_eq_false, not_false_eq_true, and_true, true_and, and_false, false_and, or_true, true_or, or_false, false_or, reduceIte, and_self, or_self, ne_eq, eq_self_iff_true]; first | done | rfl) | (simp [bI, h1, Nat.not_le.mpr h1]; done) | (simp only [bI, ← Int32.not_le] at *; simp [h1, Nat.not_le.mpr h1]; done) | (simp_all [bI, h1, Nat.not_le.mpr h1]; done) | (simp_all [bI, h1, Nat.not_le.mpr h1]; rfl) | (exfalso; omega), by trivial⟩

abbrev r_X3_percentBacked : Room := { frames := 0, cells := 0, slots := 0, locals := 0 }
set_option maxRecDepth 4000 in
theorem c_X3_percentBacked {l : Launch} {G : GG} {a : AD} {s t s0 : SS} {L : List (Nat × Nat)}  (hst : l.stackTraces = false) (hG : GOK G) (hL : Live L s0) (i_this : Nat) (hv : i_this < tn (s0 12 0)) : Mth l yX3_percentBacked cX3_percentBacked 3 (Option.some Jvm.ClassFile.FieldType.int) r_X3_percentBacked G (wl a (E G.2.2.1 a s t) L) [.ref (a 9 i_this)] (RI (.int (sumN (fun b => s 20 (12 * i_this + b)) 12)) (wl a (E G.2.2.1 a s t) L) (True)) nX := by
  refine mth_of rfl (Nat.le_of_ble_eq_true rfl) hst hG (fun X hX C0 => ?_)
  subst hX
  have C : Cx X G cX3_percentBacked 3 RX3 (Option.some Jvm.ClassFile.FieldType.int) r_X3_percentBacked "percentBacked" [] := C0
  clear C0
  show V X G 3 _ 0 0 _ 0 [(0, .ref (a 9 i_this))] []
  refine v_iconst C (v := 0) dX3_percentBacked_0 rfl rfl ?_
  refine v_istore_n C (lv1 := [(1, .int (0)), (0, .ref (a 9 i_this))]) dX3_percentBacked_1 rfl (by decide) rfl ?_
  refine v_iconst C (v := 0) dX3_percentBacked_2 rfl rfl ?_
  refine v_istore_n C (lv1 := [(2, .int (0)), (1, .int (0)), (0, .ref (a 9 i_this))]) dX3_percentBacked_3 rfl (by decide) rfl ?_
  refine xx_lv [2, 1, 0] (lv' := [(0, .ref (a 9 i_this)), (1, .int (0)), (2, .int (0))]) rfl ?_
  refine xx_wc (w2 := wl a (E G.2.2.1 a s t) L) (lv' := [(0, .ref (a 9 i_this)), (1, .int (sumN (fun b => s 20 (12 * i_this + b)) 0)), (2, .int (nI (0)))]) (by rfl) (by first | rfl | (simp [bI, sumN]; done)) ?_
  refine xx_loop (12) 0 (fun i => wl a (E G.2.2.1 a s t) L) (fun i => [(0, .ref (a 9 i_this)), (1, .int (sumN (fun b => s 20 (12 * i_this + b)) i)), (2, .int (nI (i)))]) (by omega) ?_
  intro i hi0 hiN ih_i
  refine v_iload_n C dX3_percentBacked_4 rfl 2 rfl ?_
  refine v_aload_n C dX3_percentBacked_5 rfl 0 rfl ?_
  refine v_get C (v := .ref (a 10 i_this)) g_X3_9 (m9 (s := s) (t := t) (g := G.2.2.1) hL i_this hv) (rg (by decide) rfl) dX3_percentBacked_6 rfl ?_
  refine v_alen C (t := 0) (v := 12) (m10 (s := s) (t := t) (g := G.2.2.1) hL i_this hv) (by decide) rfl dX3_percentBacked_9 rfl ?_
  refine v_icN_ge C (t := 28) i 12 rfl rfl (by omega) (by omega) dX3_percentBacked_10 rfl rfl (fun h1 => ?_) (fun h1 => ?_)
  · skip
    refine v_iload_n C dX3_percentBacked_28 rfl 1 rfl ?_
    exact v_iret C (by decide) (by decide) dX3_percentBacked_29 ⟨congrArg (fun z => some (Value.int z)) (by (have : i = 12 := by omega); subst this; rfl), by rfl, by trivial⟩
  · skip
    refine v_iload_n C dX3_percentBacked_13 rfl 1 rfl ?_
    refine v_aload_n C dX3_percentBacked_14 rfl 0 rfl ?_
    refine v_get C (v := .ref (a 10 i_this)) g_X3_9 (m9 (s := s) (t := t) (g := G.2.2.1) hL i_this hv) (rg (by decide) rfl) dX3_percentBacked_15 rfl ?_
    refine v_iload_n C dX3_percentBacked_18 rfl 2 rfl ?_
    refine v_ialdE C (len := 12) i (m10 (s := s) (t := t) (g := G.2.2.1) hL i_this hv) (nI_clamp (by omega)) (pk_in i 12 (by omega)) dX3_percentBacked_19 rfl ?_
    refine xx_top (y := s 20 (12 * i_this + i)) (rw_in (by omega)) ?_
    refine v_iadd C dX3_percentBacked_20 rfl ?_
    refine v_istore_n C (lv1 := [(1, .int ((sumN (fun b => s 20 (12 * i_this + b)) i) + (s 20 (12 * i_this + i)))), (0, .ref (a 9 i_this)), (2, .int (nI (i)))]) dX3_percentBacked_21 rfl (by decide) rfl ?_
    refine v_iincN C (lv1 := [(2, .int (nI (i + 1))), (1, .int ((sumN (fun b => s 20 (12 * i_this + b)) i) + (s 20 (12 * i_this + i)))), (0, .ref (a 9 i_this))]) i rfl dX3_percentBacked_22 rfl 2 rfl (by decide) rfl ?_
    refine v_goto C (q := 4) dX3_percentBacked_25 rfl ?_
    refine xx_lv [2, 1, 0] (lv' := [(0, .ref (a 9 i_this)), (1, .int ((sumN (fun b => s 20 (12 * i_this + b)) i) + (s 20 (12 * i_this + i)))), (2, .int (nI (i + 1)))]) rfl ?_
    refine xx_wc (w2 := wl a (E G.2.2.1 a s t) L) (lv' := [(0, .ref (a 9 i_this)), (1, .int (sumN (fun b => s 20 (12 * i_this + b)) (i + 1))), (2, .int (nI (i + 1)))]) (by rfl) (by first | rfl | (simp [h1, Nat.not_le.mpr h1, sumN, Nat.add_assoc])) ?_
    exact ih_i (by omega)

abbrev r_X3_noteSalting : Room := { frames := 0, cells := 0, slots := 0, locals := 0 }
set_option maxRecDepth 4000 in
theorem c_X3_noteSalting {l : Launch} {G : GG} {a : AD} {s t s0 : SS} {L : List (Nat × Nat)}  (hst : l.stackTraces = false) (hG : GOK G) (hL : Live L s0) (i_this : Nat) (x : Int32) (j_x : Nat) (e_x : x = nI j_x) (l_x : j_x < 40) (d : Int32) (hv : i_this < tn (s0 12 0)) : Mth l yX3_noteSalting cX3_noteSalting 3 (Option.none : Option Jvm.ClassFile.FieldType) r_X3_noteSalting G (wl a (E G.2.2.1 a s t) L) [.ref (a 9 i_this), .int x, .int d] (RV (wl a (E G.2.2.1 a (su s 52 (40 * i_this + j_x) d) t) L) (True)) nX := by
  refine mth_of rfl (Nat.le_of_ble_eq_true rfl) hst hG (fun X hX C0 => ?_)
  subst hX
  have C : Cx X G cX3_noteSalting 3 RX3 (Option.none : Option Jvm.ClassFile.FieldType) r_X3_noteSalting "noteSalting" [] := C0
  clear C0
  show V X G 3 _ 0 0 _ 0 [(0, .ref (a 9 i_this)), (1, .int (x)), (2, .int (d))] []
  subst e_x
  refine v_iload_n C dX3_noteSalting_0 rfl 1 rfl ?_
  refine v_if_lt C (t := 20) dX3_noteSalting_1 rfl rfl (fun h => absurd h (nI_pos (by omega))) (fun _ => ?_)
  refine v_iload_n C dX3_noteSalting_4 rfl 1 rfl ?_
  refine v_aload_n C dX3_noteSalting_5 rfl 0 rfl ?_
  refine v_get C (v := .ref (a 11 i_this)) g_X3_15 (m9 (s := s) (t := t) (g := G.2.2.1) hL i_this hv) (rg (by decide) rfl) dX3_noteSalting_6 rfl ?_
  refine v_alen C (t := 0) (v := 40) (m11 (s := s) (t := t) (g := G.2.2.1) hL i_this hv) (by decide) rfl dX3_noteSalting_9 rfl ?_
  refine v_icN_ge C (t := 20) j_x 40 rfl rfl (by omega) (by omega) dX3_noteSalting_10 rfl rfl (fun h1 => ?_) (fun h1 => ?_)
  · skip
    exact v_vret C (by decide) (by decide) dX3_noteSalting_20 ⟨rfl, by first | rfl | (simp only [h1, Nat.not_lt.mpr h1, bI, pM, pU, n10, n20, n30, n0, if_true, if_false, ite_true, ite_false, not_true_eq_false, not_false_eq_true, and_true, true_and, and_false, false_and, or_true, true_or, or_false, false_or, reduceIte, and_self, or_self, ne_eq, eq_self_iff_true]; first | done | rfl) | (simp [bI, h1, Nat.not_lt.mpr h1]; done) | (simp only [bI, ← Int32.not_le] at *; simp [h1, Nat.not_lt.mpr h1]; done) | (simp_all [bI, h1, Nat.not_lt.mpr h1]; done) | (simp_all [bI, h1, Nat.not_lt.mpr h1]; rfl) | (exfalso; omega), by trivial⟩
  · skip
    refine v_aload_n C dX3_noteSalting_13 rfl 0 rfl ?_
    refine v_get C (v := .ref (a 11 i_this)) g_X3_15 (m9 (s := s) (t := t) (g := G.2.2.1) hL i_this hv) (rg (by decide) rfl) dX3_noteSalting_14 rfl ?_
    refine v_iload_n C dX3_noteSalting_17 rfl 1 rfl ?_
    refine v_iload_n C dX3_noteSalting_18 rfl 2 rfl ?_
    refine v_iastE C (len := 40) j_x (put_o (s := s) (t := t) (g := G.2.2.1) hL i_this hv j_x (by omega) d) (nI_clamp (by omega)) (pk_in j_x 40 (by omega)) dX3_noteSalting_19 rfl ?_
    exact v_vret C (by decide) (by decide) dX3_noteSalting_20 ⟨rfl, by first | rfl | (simp only [h1, Nat.not_le.mpr h1, bI, pM, pU, n10, n20, n30, n0, if_true, if_false, ite_true, ite_false, not_true_eq_false, not_false_eq_true, and_true, true_and, and_false, false_and, or_true, true_or, or_false, false_or, reduceIte, and_self, or_self, ne_eq, eq_self_iff_true]; first | done | rfl) | (simp [bI, h1, Nat.not_le.mpr h1]; done) | (simp only [bI, ← Int32.not_le] at *; simp [h1, Nat.not_le.mpr h1]; done) | (simp_all [bI, h1, Nat.not_le.mpr h1]; done) | (simp_all [bI, h1, Nat.not_le.mpr h1]; rfl) | (exfalso; omega), by trivial⟩

abbrev r_X3_liveOneDay : Room := { frames := 1, cells := 0, slots := 0, locals := 20 }
set_option maxRecDepth 4000 in
theorem c_X3_liveOneDay {l : Launch} {G : GG} {a : AD} {s t s0 : SS} {L : List (Nat × Nat)}  (hst : l.stackTraces = false) (hG : GOK G) (hL : Live L s0) (i_this : Nat) (hv : i_this < tn (s0 12 0)) : Mth l yX3_liveOneDay cX3_liveOneDay 1 (Option.none : Option Jvm.ClassFile.FieldType) r_X3_liveOneDay G (wl a (E G.2.2.1 a s t) L) [.ref (a 9 i_this)] (RV (wl a (E G.2.2.1 a (eatC s i_this) t) L) (True)) nX := by
  refine mth_of rfl (Nat.le_of_ble_eq_true rfl) hst hG (fun X hX C0 => ?_)
  subst hX
  have C : Cx X G cX3_liveOneDay 1 RX3 (Option.none : Option Jvm.ClassFile.FieldType) r_X3_liveOneDay "liveOneDay" [] := C0
  clear C0
  show V X G 1 _ 0 0 _ 0 [(0, .ref (a 9 i_this))] []
  refine v_aload_n C dX3_liveOneDay_0 rfl 0 rfl ?_
  refine w_invVr C [] 0 0 L_X3_40 (c_X3_isDead (s := s) (t := t)  hst hG hL i_this hv) (m9 (s := s) (t := t) (g := G.2.2.1) hL i_this hv) rfl rfl rfl rfl dX3_liveOneDay_1 rfl kx_no (fun h1 => ?_)
  refine v_ifB_eq C (t := 8) dX3_liveOneDay_4 rfl rfl (fun h2 => ?_) (fun h2 => ?_)
  · skip
    refine v_aload_n C dX3_liveOneDay_8 rfl 0 rfl ?_
    refine v_get C (v := .int (s 15 i_this)) g_X3_34 (m9 (s := s) (t := t) (g := G.2.2.1) hL i_this hv) (rg (by decide) rfl) dX3_liveOneDay_9 rfl ?_
    refine v_if_le C (t := 43) dX3_liveOneDay_12 rfl rfl (fun h3 => ?_) (fun h3 => ?_)
    · skip
      refine v_aload_n C dX3_liveOneDay_43 rfl 0 rfl ?_
      refine v_iconst C (v := 0) dX3_liveOneDay_44 rfl rfl ?_
      refine v_aload_n C dX3_liveOneDay_45 rfl 0 rfl ?_
      refine v_get C (v := .int (s 17 i_this)) g_X3_25 (m9 (s := s) (t := t) (g := G.2.2.1) hL i_this hv) (rg (by decide) rfl) dX3_liveOneDay_46 rfl ?_
      refine v_iconst C (v := 2) dX3_liveOneDay_49 rfl rfl ?_
      refine v_isub C dX3_liveOneDay_50 rfl ?_
      refine v_mmax C L_X3_50.2.1 L_X3_50.2.2 L_X3_50.1.1 L_X3_50.1.2.1 (by decide) (Nat.le_of_ble_eq_true rfl) (by decide) (by decide) dX3_liveOneDay_51 rfl ?_
      refine xx_top (y := maxF 0 ((s 17 i_this) - 2)) mx_c ?_
      refine v_put C f_X3_25 (put_n (s := s) (t := t) (g := G.2.2.1) hL 6 (by decide) (by decide) i_this hv (maxF 0 ((s 17 i_this) - 2))) rfl rfl (rg_len (by decide)) dX3_liveOneDay_54 rfl ?_
      refine xx_w (w' := wl a (E G.2.2.1 a (su s 17 i_this (maxF 0 ((s 17 i_this) - 2))) t) L) rfl ?_
      exact v_vret C (by decide) (by decide) dX3_liveOneDay_57 ⟨rfl, by first | rfl | (simp only [h2, h3, Int32.not_lt.mpr h3, eatC, bI, pM, pU, n10, n20, n30, n0, if_true, if_false, ite_true, ite_false, not_true_eq_false, not_false_eq_true, and_true, true_and, and_false, false_and, or_true, true_or, or_false, false_or, reduceIte, and_self, or_self, ne_eq, eq_self_iff_true]; first | done | rfl) | (simp [bI, h2, h3, Int32.not_lt.mpr h3, eatC]; done) | (simp only [eatC, bI, ← Int32.not_le] at *; simp [h2, h3, Int32.not_lt.mpr h3]; done) | (simp_all [bI, h2, h3, Int32.not_lt.mpr h3, eatC]; done) | (simp_all [bI, h2, h3, Int32.not_lt.mpr h3, eatC]; rfl) | (exfalso; omega), by trivial⟩
    · skip
      refine v_aload_n C dX3_liveOneDay_15 rfl 0 rfl ?_
      refine v_dup C dX3_liveOneDay_16 rfl rfl ?_
      refine v_get C (v := .int (s 15 i_this)) g_X3_34 (m9 (s := s) (t := t) (g := G.2.2.1) hL i_this hv) (rg (by decide) rfl) dX3_liveOneDay_17 rfl ?_
      refine v_iconst C (v := 1) dX3_liveOneDay_20 rfl rfl ?_
      refine v_isub C dX3_liveOneDay_21 rfl ?_
      refine v_put C f_X3_34 (put_n (s := s) (t := t) (g := G.2.2.1) hL 4 (by decide) (by decide) i_this hv ((s 15 i_this) - 1)) rfl rfl (rg_len (by decide)) dX3_liveOneDay_22 rfl ?_
      refine xx_w (w' := wl a (E G.2.2.1 a (su s 15 i_this ((s 15 i_this) - 1)) t) L) rfl ?_
      refine v_aload_n C dX3_liveOneDay_25 rfl 0 rfl ?_
      refine v_bipush C (v := 10) dX3_liveOneDay_26 rfl rfl ?_
      refine v_aload_n C dX3_liveOneDay_28 rfl 0 rfl ?_
      refine v_get C (v := .int (s 17 i_this)) g_X3_25 (m9 (s := ((su s 15 i_this ((s 15 i_this) - 1)))) (t := t) (g := G.2.2.1) hL i_this hv) (rg (by decide) rfl) dX3_liveOneDay_29 rfl ?_
      refine v_iconst C (v := 1) dX3_liveOneDay_32 rfl rfl ?_
      refine v_iadd C dX3_liveOneDay_33 rfl ?_
      refine v_mmin C L_X3_44.2.1 L_X3_44.2.2 L_X3_44.1.1 L_X3_44.1.2.1 (by decide) (Nat.le_of_ble_eq_true rfl) (by decide) (by decide) dX3_liveOneDay_34 rfl ?_
      refine xx_top (y := minF 10 ((s 17 i_this) + 1)) mn_c ?_
      refine v_put C f_X3_25 (put_n (s := ((su s 15 i_this ((s 15 i_this) - 1)))) (t := t) (g := G.2.2.1) hL 6 (by decide) (by decide) i_this hv (minF 10 ((s 17 i_this) + 1))) rfl rfl (rg_len (by decide)) dX3_liveOneDay_37 rfl ?_
      refine xx_w (w' := wl a (E G.2.2.1 a (su (su s 15 i_this ((s 15 i_this) - 1)) 17 i_this (minF 10 ((s 17 i_this) + 1))) t) L) rfl ?_
      refine v_goto C (q := 57) dX3_liveOneDay_40 rfl ?_
      exact v_vret C (by decide) (by decide) dX3_liveOneDay_57 ⟨rfl, by first | rfl | (simp only [h2, h3, Int32.not_le.mp h3, eatC, bI, pM, pU, n10, n20, n30, n0, if_true, if_false, ite_true, ite_false, not_true_eq_false, not_false_eq_true, and_true, true_and, and_false, false_and, or_true, true_or, or_false, false_or, reduceIte, and_self, or_self, ne_eq, eq_self_iff_true]; first | done | rfl) | (simp [bI, h2, h3, Int32.not_le.mp h3, eatC]; done) | (simp only [eatC, bI, ← Int32.not_le] at *; simp [h2, h3, Int32.not_le.mp h3]; done) | (simp_all [bI, h2, h3, Int32.not_le.mp h3, eatC]; done) | (simp_all [bI, h2, h3, Int32.not_le.mp h3, eatC]; rfl) | (exfalso; omega), by trivial⟩
  · skip
    exact v_vret C (by decide) (by decide) dX3_liveOneDay_7 ⟨rfl, by first | rfl | (simp only [eq_true h2, eatC, bI, pM, pU, n10, n20, n30, n0, if_true, if_false, ite_true, ite_false, not_true_eq_false, not_false_eq_true, and_true, true_and, and_false, false_and, or_true, true_or, or_false, false_or, reduceIte, and_self, or_self, ne_eq, eq_self_iff_true]; first | done | rfl) | (simp [bI, eq_true h2, eatC]; done) | (simp only [eatC, bI, ← Int32.not_le] at *; simp [eq_true h2]; done) | (simp_all [bI, eq_true h2, eatC]; done) | (simp_all [bI, eq_true h2, eatC]; rfl) | (exfalso; omega), by trivial⟩

abbrev r_X3_saltedLately : Room := { frames := 1, cells := 0, slots := 0, locals := 13 }
set_option maxRecDepth 4000 in
theorem c_X3_saltedLately {l : Launch} {G : GG} {a : AD} {s t s0 : SS} {L : List (Nat × Nat)}  (hst : l.stackTraces = false) (hG : GOK G) (hL : Live L s0) (i_this : Nat) (x : Int32) (j_x : Nat) (e_x : x = nI j_x) (l_x : j_x < 40) (m : Int32) (j_m : Nat) (e_m : m = nI j_m) (l_m : j_m < 11) (d : Int32) (hv : i_this < tn (s0 12 0)) (hxm : j_x + j_m ≤ 40) : Mth l yX3_saltedLately cX3_saltedLately 5 (Option.some Jvm.ClassFile.FieldType.boolean) r_X3_saltedLately G (wl a (E G.2.2.1 a s t) L) [.ref (a 9 i_this), .int x, .int m, .int d] (RI (.int (slC s i_this j_x d j_m)) (wl a (E G.2.2.1 a s t) L) (True)) nX := by
  refine mth_of rfl (Nat.le_of_ble_eq_true rfl) hst hG (fun X hX C0 => ?_)
  subst hX
  have C : Cx X G cX3_saltedLately 5 RX3 (Option.some Jvm.ClassFile.FieldType.boolean) r_X3_saltedLately "saltedLately" [] := C0
  clear C0
  show V X G 5 _ 0 0 _ 0 [(0, .ref (a 9 i_this)), (1, .int (x)), (2, .int (m)), (3, .int (d))] []
  subst e_x
  subst e_m
  refine v_iconst C (v := 0) dX3_saltedLately_0 rfl rfl ?_
  refine v_iload_n C dX3_saltedLately_1 rfl 1 rfl ?_
  refine v_mmax C L_X3_50.2.1 L_X3_50.2.2 L_X3_50.1.1 L_X3_50.1.2.1 (by decide) (Nat.le_of_ble_eq_true rfl) (by decide) (by decide) dX3_saltedLately_2 rfl ?_
  refine xx_top (y := maxF 0 (nI (j_x))) mx_c ?_
  refine xx_top (y := nI j_x) (mx_0 (by omega)) ?_
  refine v_istore C (lv1 := [(4, .int (nI (j_x))), (0, .ref (a 9 i_this)), (1, .int (nI (j_x))), (2, .int (nI (j_m))), (3, .int (d))]) dX3_saltedLately_5 rfl (by decide) rfl ?_
  refine xx_lv [1, 2, 3, 4, 0] (lv' := [(0, .ref (a 9 i_this)), (1, .int (nI (j_x))), (2, .int (nI (j_m))), (3, .int (d)), (4, .int (nI (j_x)))]) rfl ?_
  refine xx_wc (w2 := wl a (E G.2.2.1 a s t) L) (lv' := [(0, .ref (a 9 i_this)), (1, .int (nI (j_x))), (2, .int (nI (j_m))), (3, .int (d)), (4, .int (nI (j_x + 0)))]) (by rfl) (by first | rfl | (simp [bI, slC]; done)) ?_
  refine xx_loopP (j_m) 0 (fun i => wl a (E G.2.2.1 a s t) L) (fun i => [(0, .ref (a 9 i_this)), (1, .int (nI (j_x))), (2, .int (nI (j_m))), (3, .int (d)), (4, .int (nI (j_x + i)))]) (fun i => slC s i_this j_x d i = 0) (by omega) (rfl) ?_
  intro i hi0 hiN hinv ih_i
  refine v_iload C dX3_saltedLately_7 rfl 4 rfl ?_
  refine v_iload_n C dX3_saltedLately_9 rfl 1 rfl ?_
  refine v_iload_n C dX3_saltedLately_10 rfl 2 rfl ?_
  refine v_iaddN C j_x j_m rfl rfl dX3_saltedLately_11 rfl ?_
  refine v_icN_ge C (t := 58) (j_x + i) (j_x + j_m) rfl rfl (by omega) (by omega) dX3_saltedLately_12 rfl rfl (fun h1 => ?_) (fun h1 => ?_)
  · skip
    refine v_iconst C (v := 0) dX3_saltedLately_58 rfl rfl ?_
    exact v_zret C rfl (by decide) (by decide) dX3_saltedLately_59 ⟨congrArg (fun z => some (Value.int z)) (by first | ((have : i = j_m := by omega); subst this; exact hinv.symm) | (exfalso; omega)), by rfl, by trivial⟩
  · skip
    refine v_iload C dX3_saltedLately_15 rfl 4 rfl ?_
    refine v_aload_n C dX3_saltedLately_17 rfl 0 rfl ?_
    refine v_get C (v := .ref (a 11 i_this)) g_X3_15 (m9 (s := s) (t := t) (g := G.2.2.1) hL i_this hv) (rg (by decide) rfl) dX3_saltedLately_18 rfl ?_
    refine v_alen C (t := 0) (v := 40) (m11 (s := s) (t := t) (g := G.2.2.1) hL i_this hv) (by decide) rfl dX3_saltedLately_21 rfl ?_
    refine v_icN_ge C (t := 58) (j_x + i) 40 rfl rfl (by omega) (by omega) dX3_saltedLately_22 rfl rfl (fun h2 => ?_) (fun h2 => ?_)
    · skip
      refine v_iconst C (v := 0) dX3_saltedLately_58 rfl rfl ?_
      exact v_zret C rfl (by decide) (by decide) dX3_saltedLately_59 ⟨congrArg (fun z => some (Value.int z)) (by first | ((have : i = j_m := by omega); subst this; exact hinv.symm) | (exfalso; omega)), by rfl, by trivial⟩
    · skip
      refine v_aload_n C dX3_saltedLately_25 rfl 0 rfl ?_
      refine v_get C (v := .ref (a 11 i_this)) g_X3_15 (m9 (s := s) (t := t) (g := G.2.2.1) hL i_this hv) (rg (by decide) rfl) dX3_saltedLately_26 rfl ?_
      refine v_iload C dX3_saltedLately_29 rfl 4 rfl ?_
      refine v_ialdE C (len := 40) (j_x + i) (m11 (s := s) (t := t) (g := G.2.2.1) hL i_this hv) (nI_clamp (by omega)) (pk_in (j_x + i) 40 (by omega)) dX3_saltedLately_31 rfl ?_
      refine xx_top (y := s 52 (40 * i_this + (j_x + i))) (rw_in (by omega)) ?_
      refine v_iconst C (v := (-1)) dX3_saltedLately_32 rfl rfl ?_
      refine v_icmp_eq C (t := 52) dX3_saltedLately_33 rfl rfl (fun h3 => ?_) (fun h3 => ?_)
      · skip
        refine v_iincN C (lv1 := [(4, .int (nI (j_x + i + 1))), (0, .ref (a 9 i_this)), (1, .int (nI (j_x))), (2, .int (nI (j_m))), (3, .int (d))]) (j_x + i) rfl dX3_saltedLately_52 rfl 4 rfl (by decide) rfl ?_
        refine v_goto C (q := 7) dX3_saltedLately_55 rfl ?_
        refine xx_lv [1, 2, 3, 4, 0] (lv' := [(0, .ref (a 9 i_this)), (1, .int (nI (j_x))), (2, .int (nI (j_m))), (3, .int (d)), (4, .int (nI (j_x + i + 1)))]) rfl ?_
        refine xx_wc (w2 := wl a (E G.2.2.1 a s t) L) (lv' := [(0, .ref (a 9 i_this)), (1, .int (nI (j_x))), (2, .int (nI (j_m))), (3, .int (d)), (4, .int (nI (j_x + (i + 1))))]) (by rfl) (by first | rfl | (simp [h1, Nat.not_le.mpr h1, h2, Nat.not_le.mpr h2, eq_true h3, slC, Nat.add_assoc])) ?_
        exact ih_i (by omega) (by simp only [slC, hinv, h1, Nat.not_le.mpr h1, h2, Nat.not_le.mpr h2, eq_true h3, if_true, if_false, not_true_eq_false, not_false_eq_true, true_and, false_and, and_false])
      · skip
        refine v_iload_n C dX3_saltedLately_36 rfl 3 rfl ?_
        refine v_aload_n C dX3_saltedLately_37 rfl 0 rfl ?_
        refine v_get C (v := .ref (a 11 i_this)) g_X3_15 (m9 (s := s) (t := t) (g := G.2.2.1) hL i_this hv) (rg (by decide) rfl) dX3_saltedLately_38 rfl ?_
        refine v_iload C dX3_saltedLately_41 rfl 4 rfl ?_
        refine v_ialdE C (len := 40) (j_x + i) (m11 (s := s) (t := t) (g := G.2.2.1) hL i_this hv) (nI_clamp (by omega)) (pk_in (j_x + i) 40 (by omega)) dX3_saltedLately_43 rfl ?_
        refine xx_top (y := s 52 (40 * i_this + (j_x + i))) (rw_in (by omega)) ?_
        refine v_isub C dX3_saltedLately_44 rfl ?_
        refine v_bipush C (v := 30) dX3_saltedLately_45 rfl rfl ?_
        refine v_icmp_gt C (t := 52) dX3_saltedLately_47 rfl rfl (fun h4 => ?_) (fun h4 => ?_)
        · skip
          refine v_iincN C (lv1 := [(4, .int (nI (j_x + i + 1))), (0, .ref (a 9 i_this)), (1, .int (nI (j_x))), (2, .int (nI (j_m))), (3, .int (d))]) (j_x + i) rfl dX3_saltedLately_52 rfl 4 rfl (by decide) rfl ?_
          refine v_goto C (q := 7) dX3_saltedLately_55 rfl ?_
          refine xx_lv [1, 2, 3, 4, 0] (lv' := [(0, .ref (a 9 i_this)), (1, .int (nI (j_x))), (2, .int (nI (j_m))), (3, .int (d)), (4, .int (nI (j_x + i + 1)))]) rfl ?_
          refine xx_wc (w2 := wl a (E G.2.2.1 a s t) L) (lv' := [(0, .ref (a 9 i_this)), (1, .int (nI (j_x))), (2, .int (nI (j_m))), (3, .int (d)), (4, .int (nI (j_x + (i + 1))))]) (by rfl) (by first | rfl | (simp [h1, Nat.not_le.mpr h1, h2, Nat.not_le.mpr h2, h3, h4, Int32.not_le.mpr h4, slC, Nat.add_assoc])) ?_
          exact ih_i (by omega) (by simp only [slC, hinv, h1, Nat.not_le.mpr h1, h2, Nat.not_le.mpr h2, h3, h4, Int32.not_le.mpr h4, if_true, if_false, not_true_eq_false, not_false_eq_true, true_and, false_and, and_false])
        · skip
          refine v_iconst C (v := 1) dX3_saltedLately_50 rfl rfl ?_
          exact v_zret C rfl (by decide) (by decide) dX3_saltedLately_51 ⟨congrArg (fun z => some (Value.int z)) (by (obtain ⟨e, he⟩ : ∃ e, j_m = i + 1 + e := ⟨j_m - (i + 1), by omega⟩); rw [he]; exact (slC_up (by simp only [slC, hinv, h1, Nat.not_le.mpr h1, h2, Nat.not_le.mpr h2, h3, h4, Int32.not_lt.mp h4, if_true, not_false_eq_true, true_and]) e).symm), by rfl, by trivial⟩

abbrev r_X5_beliefOf : Room := { frames := 1, cells := 0, slots := 0, locals := 20 }
set_option maxRecDepth 4000 in
theorem c_X5_beliefOf {l : Launch} {G : GG} {a : AD} {s t s0 : SS} {L : List (Nat × Nat)}  (hst : l.stackTraces = false) (hG : GOK G) (hL : Live L s0) (x : Int32)  : Mth l yX5_beliefOf cX5_beliefOf 2 (Option.some Jvm.ClassFile.FieldType.int) r_X5_beliefOf G (wl a (E G.2.2.1 a s t) L) [.ref (a 5 0), .int x] (RI (.int (belF s x)) (wl a (E G.2.2.1 a s t) L) (True)) nX := by
  refine mth_of rfl (Nat.le_of_ble_eq_true rfl) hst hG (fun X hX C0 => ?_)
  subst hX
  have C : Cx X G cX5_beliefOf 2 RX5 (Option.some Jvm.ClassFile.FieldType.int) r_X5_beliefOf "beliefOf" [] := C0
  clear C0
  show V X G 2 _ 0 0 _ 0 [(0, .ref (a 5 0)), (1, .int (x))] []
  refine v_iload_n C dX5_beliefOf_0 rfl 1 rfl ?_
  refine w_invSNr C [.int (x)] 0 0 L_X5_15 (c_X7_isCell (s := s) (t := t)  hst hG hL x) rfl rfl rfl dX5_beliefOf_1 rfl (fun h1 => ?_)
  refine v_ifB_eq C (t := 16) dX5_beliefOf_4 rfl rfl (fun h2 => ?_) (fun h2 => ?_)
  · skip
    refine v_iconst C (v := 0) dX5_beliefOf_16 rfl rfl ?_
    exact v_iret C (by decide) (by decide) dX5_beliefOf_17 ⟨congrArg (fun z => some (Value.int z)) (by first | rfl | (simp only [h2, belF, bI, pM, pU, n10, n20, n30, n0, if_true, if_false, ite_true, ite_false, not_true_eq_false, not_false_eq_true, and_true, true_and, and_false, false_and, or_true, true_or, or_false, false_or, reduceIte, and_self, or_self, ne_eq, eq_self_iff_true]; first | done | rfl) | (simp [bI, h2, belF]; done) | (simp only [belF, bI, ← Int32.not_le] at *; simp [h2]; done) | (simp_all [bI, h2, belF]; done) | (simp_all [bI, h2, belF]; rfl) | (exfalso; omega)), by rfl, by trivial⟩
  · skip
    refine v_aload_n C dX5_beliefOf_7 rfl 0 rfl ?_
    refine v_get C (v := .ref (a 8 4)) g_X5_9 (m5 (s := s) (t := t) (g := G.2.2.1) hL) rfl dX5_beliefOf_8 rfl ?_
    refine v_iload_n C dX5_beliefOf_11 rfl 1 rfl ?_
    refine v_iald C (len := 40) (m8 (s := s) (t := t) (g := G.2.2.1) hL 4 (by decide)) (vp_rng (n := 39) rfl (by decide) (by assumption)) dX5_beliefOf_12 rfl ?_
    refine xx_top (y := s 11 (tn x)) rfl ?_
    refine v_goto C (q := 17) dX5_beliefOf_13 rfl ?_
    exact v_iret C (by decide) (by decide) dX5_beliefOf_17 ⟨congrArg (fun z => some (Value.int z)) (by first | rfl | (simp only [h2, belF, bI, pM, pU, n10, n20, n30, n0, if_true, if_false, ite_true, ite_false, not_true_eq_false, not_false_eq_true, and_true, true_and, and_false, false_and, or_true, true_or, or_false, false_or, reduceIte, and_self, or_self, ne_eq, eq_self_iff_true]; first | done | rfl) | (simp [bI, h2, belF]; done) | (simp only [belF, bI, ← Int32.not_le] at *; simp [h2]; done) | (simp_all [bI, h2, belF]; done) | (simp_all [bI, h2, belF]; rfl) | (exfalso; omega)), by rfl, by trivial⟩

abbrev r_X5_tell : Room := { frames := 1, cells := 0, slots := 0, locals := 20 }
set_option maxRecDepth 4000 in
theorem c_X5_tell {l : Launch} {G : GG} {a : AD} {s t s0 : SS} {L : List (Nat × Nat)}  (hst : l.stackTraces = false) (hG : GOK G) (hL : Live L s0) (x : Int32) (v_ : Int32)  : Mth l yX5_tell cX5_tell 3 (Option.none : Option Jvm.ClassFile.FieldType) r_X5_tell G (wl a (E G.2.2.1 a s t) L) [.ref (a 5 0), .int x, .int v_] (RV (wl a (E G.2.2.1 a (tellF s x v_) t) L) (True)) nX := by
  refine mth_of rfl (Nat.le_of_ble_eq_true rfl) hst hG (fun X hX C0 => ?_)
  subst hX
  have C : Cx X G cX5_tell 3 RX5 (Option.none : Option Jvm.ClassFile.FieldType) r_X5_tell "tell" [] := C0
  clear C0
  show V X G 3 _ 0 0 _ 0 [(0, .ref (a 5 0)), (1, .int (x)), (2, .int (v_))] []
  refine v_iload_n C dX5_tell_0 rfl 1 rfl ?_
  refine w_invSNr C [.int (x)] 0 0 L_X5_15 (c_X7_isCell (s := s) (t := t)  hst hG hL x) rfl rfl rfl dX5_tell_1 rfl (fun h1 => ?_)
  refine v_ifB_eq C (t := 14) dX5_tell_4 rfl rfl (fun h2 => ?_) (fun h2 => ?_)
  · skip
    exact v_vret C (by decide) (by decide) dX5_tell_14 ⟨rfl, by first | rfl | (simp only [h2, tellF, bI, pM, pU, n10, n20, n30, n0, if_true, if_false, ite_true, ite_false, not_true_eq_false, not_false_eq_true, and_true, true_and, and_false, false_and, or_true, true_or, or_false, false_or, reduceIte, and_self, or_self, ne_eq, eq_self_iff_true]; first | done | rfl) | (simp [bI, h2, tellF]; done) | (simp only [tellF, bI, ← Int32.not_le] at *; simp [h2]; done) | (simp_all [bI, h2, tellF]; done) | (simp_all [bI, h2, tellF]; rfl) | (exfalso; omega), by trivial⟩
  · skip
    refine v_aload_n C dX5_tell_7 rfl 0 rfl ?_
    refine v_get C (v := .ref (a 8 4)) g_X5_9 (m5 (s := s) (t := t) (g := G.2.2.1) hL) rfl dX5_tell_8 rfl ?_
    refine v_iload_n C dX5_tell_11 rfl 1 rfl ?_
    refine v_iload_n C dX5_tell_12 rfl 2 rfl ?_
    refine v_iastE C (len := 40) (tn x) (put_g (s := s) (t := t) (g := G.2.2.1) hL 4 (by decide) (tn x) v_) rfl (vp_rng (n := 39) rfl (by decide) (by assumption)) dX5_tell_13 rfl ?_
    refine xx_w (w' := wl a (E G.2.2.1 a (su s 11 (tn x) v_) t) L) rfl ?_
    exact v_vret C (by decide) (by decide) dX5_tell_14 ⟨rfl, by first | rfl | (simp only [h2, tellF, bI, pM, pU, n10, n20, n30, n0, if_true, if_false, ite_true, ite_false, not_true_eq_false, not_false_eq_true, and_true, true_and, and_false, false_and, or_true, true_or, or_false, false_or, reduceIte, and_self, or_self, ne_eq, eq_self_iff_true]; first | done | rfl) | (simp [bI, h2, tellF]; done) | (simp only [tellF, bI, ← Int32.not_le] at *; simp [h2]; done) | (simp_all [bI, h2, tellF]; done) | (simp_all [bI, h2, tellF]; rfl) | (exfalso; omega), by trivial⟩

abbrev r_X5_fade : Room := { frames := 1, cells := 0, slots := 0, locals := 15 }
set_option maxRecDepth 4000 in
theorem c_X5_fade {l : Launch} {G : GG} {a : AD} {s t s0 : SS} {L : List (Nat × Nat)}  (hst : l.stackTraces = false) (hG : GOK G) (hL : Live L s0)   : Mth l yX5_fade cX5_fade 2 (Option.none : Option Jvm.ClassFile.FieldType) r_X5_fade G (wl a (E G.2.2.1 a s t) L) [.ref (a 5 0)] (RV (wl a (E G.2.2.1 a (fdV s 40) t) L) (True)) nX := by
  refine mth_of rfl (Nat.le_of_ble_eq_true rfl) hst hG (fun X hX C0 => ?_)
  subst hX
  have C : Cx X G cX5_fade 2 RX5 (Option.none : Option Jvm.ClassFile.FieldType) r_X5_fade "fade" [] := C0
  clear C0
  show V X G 2 _ 0 0 _ 0 [(0, .ref (a 5 0))] []
  refine v_iconst C (v := 0) dX5_fade_0 rfl rfl ?_
  refine v_istore_n C (lv1 := [(1, .int (0)), (0, .ref (a 5 0))]) dX5_fade_1 rfl (by decide) rfl ?_
  refine xx_lv [1, 0] (lv' := [(0, .ref (a 5 0)), (1, .int (0))]) rfl ?_
  refine xx_wc (w2 := wl a (E G.2.2.1 a (fdV s 0) t) L) (lv' := [(0, .ref (a 5 0)), (1, .int (nI (0)))]) (by rfl) (by first | rfl | (simp [bI, fdV]; done)) ?_
  refine xx_loop (40) 0 (fun i => wl a (E G.2.2.1 a (fdV s i) t) L) (fun i => [(0, .ref (a 5 0)), (1, .int (nI (i)))]) (by omega) ?_
  intro i hi0 hiN ih_i
  refine v_iload_n C dX5_fade_2 rfl 1 rfl ?_
  refine v_aload_n C dX5_fade_3 rfl 0 rfl ?_
  refine v_get C (v := .ref (a 8 4)) g_X5_9 (m5 (s := ((fdV s i))) (t := t) (g := G.2.2.1) hL) rfl dX5_fade_4 rfl ?_
  refine v_alen C (t := 0) (v := 40) (m8 (s := ((fdV s i))) (t := t) (g := G.2.2.1) hL 4 (by decide)) (by decide) rfl dX5_fade_7 rfl ?_
  refine v_icN_ge C (t := 45) i 40 rfl rfl (by omega) (by omega) dX5_fade_8 rfl rfl (fun h1 => ?_) (fun h1 => ?_)
  · skip
    exact v_vret C (by decide) (by decide) dX5_fade_45 ⟨rfl, by (have : i = 40 := by omega); subst this; rfl, by trivial⟩
  · skip
    refine v_aload_n C dX5_fade_11 rfl 0 rfl ?_
    refine v_get C (v := .ref (a 8 4)) g_X5_9 (m5 (s := ((fdV s i))) (t := t) (g := G.2.2.1) hL) rfl dX5_fade_12 rfl ?_
    refine v_iload_n C dX5_fade_15 rfl 1 rfl ?_
    refine v_iconst C (v := 0) dX5_fade_16 rfl rfl ?_
    refine v_aload_n C dX5_fade_17 rfl 0 rfl ?_
    refine v_get C (v := .ref (a 8 4)) g_X5_9 (m5 (s := ((fdV s i))) (t := t) (g := G.2.2.1) hL) rfl dX5_fade_18 rfl ?_
    refine v_iload_n C dX5_fade_21 rfl 1 rfl ?_
    refine v_ialdE C (len := 40) i (m8 (s := ((fdV s i))) (t := t) (g := G.2.2.1) hL 4 (by decide)) (nI_clamp (by omega)) (pk_in i 40 (by omega)) dX5_fade_22 rfl ?_
    refine xx_top (y := (fdV s i) 11 i) rfl ?_
    refine v_aload_n C dX5_fade_23 rfl 0 rfl ?_
    refine v_get C (v := .ref (a 8 4)) g_X5_9 (m5 (s := ((fdV s i))) (t := t) (g := G.2.2.1) hL) rfl dX5_fade_24 rfl ?_
    refine v_iload_n C dX5_fade_27 rfl 1 rfl ?_
    refine v_ialdE C (len := 40) i (m8 (s := ((fdV s i))) (t := t) (g := G.2.2.1) hL 4 (by decide)) (nI_clamp (by omega)) (pk_in i 40 (by omega)) dX5_fade_28 rfl ?_
    refine xx_top (y := (fdV s i) 11 i) rfl ?_
    refine v_bipush C (v := 10) dX5_fade_29 rfl rfl ?_
    refine v_idiv C dX5_fade_31 rfl (by decide) ?_
    refine v_isub C dX5_fade_32 rfl ?_
    refine v_iconst C (v := 1) dX5_fade_33 rfl rfl ?_
    refine v_isub C dX5_fade_34 rfl ?_
    refine v_mmax C L_X5_19.2.1 L_X5_19.2.2 L_X5_19.1.1 L_X5_19.1.2.1 (by decide) (Nat.le_of_ble_eq_true rfl) (by decide) (by decide) dX5_fade_35 rfl ?_
    refine xx_top (y := maxF 0 ((((fdV s i) 11 i) - (((fdV s i) 11 i) / 10)) - 1)) mx_c ?_
    refine v_iastE C (len := 40) i (put_g (s := ((fdV s i))) (t := t) (g := G.2.2.1) hL 4 (by decide) i (maxF 0 ((((fdV s i) 11 i) - (((fdV s i) 11 i) / 10)) - 1))) (nI_clamp (by omega)) (pk_in i 40 (by omega)) dX5_fade_38 rfl ?_
    refine xx_w (w' := wl a (E G.2.2.1 a (su (fdV s i) 11 i (maxF 0 ((((fdV s i) 11 i) - (((fdV s i) 11 i) / 10)) - 1))) t) L) rfl ?_
    refine v_iincN C (lv1 := [(1, .int (nI (i + 1))), (0, .ref (a 5 0))]) i rfl dX5_fade_39 rfl 1 rfl (by decide) rfl ?_
    refine v_goto C (q := 2) dX5_fade_42 rfl ?_
    refine xx_lv [1, 0] (lv' := [(0, .ref (a 5 0)), (1, .int (nI (i + 1)))]) rfl ?_
    refine xx_wc (w2 := wl a (E G.2.2.1 a (fdV s (i + 1)) t) L) (lv' := [(0, .ref (a 5 0)), (1, .int (nI (i + 1)))]) (by first | rfl | (simp [h1, Nat.not_le.mpr h1, fdV])) (by first | rfl | (simp [h1, Nat.not_le.mpr h1, fdV, Nat.add_assoc])) ?_
    exact ih_i (by omega)

abbrev r_X6_price : Room := { frames := 0, cells := 0, slots := 0, locals := 0 }
set_option maxRecDepth 4000 in
theorem c_X6_price {l : Launch} {G : GG} {a : AD} {s t s0 : SS} {L : List (Nat × Nat)}  (hst : l.stackTraces = false) (hG : GOK G) (hL : Live L s0)   : Mth l yX6_price cX6_price 1 (Option.some Jvm.ClassFile.FieldType.int) r_X6_price G (wl a (E G.2.2.1 a s t) L) [.ref (a 4 0)] (RI (.int (priceF (s 5 0))) (wl a (E G.2.2.1 a s t) L) (True)) nX := by
  refine mth_of rfl (Nat.le_of_ble_eq_true rfl) hst hG (fun X hX C0 => ?_)
  subst hX
  have C : Cx X G cX6_price 1 RX6 (Option.some Jvm.ClassFile.FieldType.int) r_X6_price "price" [] := C0
  clear C0
  show V X G 1 _ 0 0 _ 0 [(0, .ref (a 4 0))] []
  refine v_aload_n C dX6_price_0 rfl 0 rfl ?_
  refine v_get C (v := .int (s 5 0)) g_X6_18 (m4 (s := s) (t := t) (g := G.2.2.1) hL) rfl dX6_price_1 rfl ?_
  refine v_bipush C (v := 100) dX6_price_4 rfl rfl ?_
  refine v_icmp_ge C (t := 23) dX6_price_6 rfl rfl (fun h1 => ?_) (fun h1 => ?_)
  · skip
    refine v_iconst C (v := 5) dX6_price_23 rfl rfl ?_
    exact v_iret C (by decide) (by decide) dX6_price_24 ⟨congrArg (fun z => some (Value.int z)) (by first | rfl | (simp only [h1, Int32.not_lt.mpr h1, priceF, bI, pM, pU, n10, n20, n30, n0, if_true, if_false, ite_true, ite_false, not_true_eq_false, not_false_eq_true, and_true, true_and, and_false, false_and, or_true, true_or, or_false, false_or, reduceIte, and_self, or_self, ne_eq, eq_self_iff_true]; first | done | rfl) | (simp [bI, h1, Int32.not_lt.mpr h1, priceF]; done) | (simp only [priceF, bI, ← Int32.not_le] at *; simp [h1, Int32.not_lt.mpr h1]; done) | (simp_all [bI, h1, Int32.not_lt.mpr h1, priceF]; done) | (simp_all [bI, h1, Int32.not_lt.mpr h1, priceF]; rfl) | (exfalso; omega)), by rfl, by trivial⟩
  · skip
    refine v_iconst C (v := 5) dX6_price_9 rfl rfl ?_
    refine v_bipush C (v := 100) dX6_price_10 rfl rfl ?_
    refine v_aload_n C dX6_price_12 rfl 0 rfl ?_
    refine v_get C (v := .int (s 5 0)) g_X6_18 (m4 (s := s) (t := t) (g := G.2.2.1) hL) rfl dX6_price_13 rfl ?_
    refine v_isub C dX6_price_16 rfl ?_
    refine v_iconst C (v := 5) dX6_price_17 rfl rfl ?_
    refine v_idiv C dX6_price_18 rfl (by decide) ?_
    refine v_iadd C dX6_price_19 rfl ?_
    refine v_goto C (q := 24) dX6_price_20 rfl ?_
    exact v_iret C (by decide) (by decide) dX6_price_24 ⟨congrArg (fun z => some (Value.int z)) (by first | rfl | (simp only [h1, Int32.not_le.mp h1, priceF, bI, pM, pU, n10, n20, n30, n0, if_true, if_false, ite_true, ite_false, not_true_eq_false, not_false_eq_true, and_true, true_and, and_false, false_and, or_true, true_or, or_false, false_or, reduceIte, and_self, or_self, ne_eq, eq_self_iff_true]; first | done | rfl) | (simp [bI, h1, Int32.not_le.mp h1, priceF]; done) | (simp only [priceF, bI, ← Int32.not_le] at *; simp [h1, Int32.not_le.mp h1]; done) | (simp_all [bI, h1, Int32.not_le.mp h1, priceF]; done) | (simp_all [bI, h1, Int32.not_le.mp h1, priceF]; rfl) | (exfalso; omega)), by rfl, by trivial⟩

abbrev r_X6_freightsUnderWay : Room := { frames := 0, cells := 0, slots := 0, locals := 0 }
set_option maxRecDepth 4000 in
theorem c_X6_freightsUnderWay {l : Launch} {G : GG} {a : AD} {s t s0 : SS} {L : List (Nat × Nat)}  (hst : l.stackTraces = false) (hG : GOK G) (hL : Live L s0)   : Mth l yX6_freightsUnderWay cX6_freightsUnderWay 3 (Option.some Jvm.ClassFile.FieldType.int) r_X6_freightsUnderWay G (wl a (E G.2.2.1 a s t) L) [.ref (a 4 0)] (RI (.int (nI (frN s 20))) (wl a (E G.2.2.1 a s t) L) (True)) nX := by
  refine mth_of rfl (Nat.le_of_ble_eq_true rfl) hst hG (fun X hX C0 => ?_)
  subst hX
  have C : Cx X G cX6_freightsUnderWay 3 RX6 (Option.some Jvm.ClassFile.FieldType.int) r_X6_freightsUnderWay "freightsUnderWay" [] := C0
  clear C0
  show V X G 3 _ 0 0 _ 0 [(0, .ref (a 4 0))] []
  refine v_iconst C (v := 0) dX6_freightsUnderWay_0 rfl rfl ?_
  refine v_istore_n C (lv1 := [(1, .int (0)), (0, .ref (a 4 0))]) dX6_freightsUnderWay_1 rfl (by decide) rfl ?_
  refine v_iconst C (v := 0) dX6_freightsUnderWay_2 rfl rfl ?_
  refine v_istore_n C (lv1 := [(2, .int (0)), (1, .int (0)), (0, .ref (a 4 0))]) dX6_freightsUnderWay_3 rfl (by decide) rfl ?_
  refine xx_lv [2, 1, 0] (lv' := [(0, .ref (a 4 0)), (1, .int (0)), (2, .int (0))]) rfl ?_
  refine xx_wc (w2 := wl a (E G.2.2.1 a s t) L) (lv' := [(0, .ref (a 4 0)), (1, .int (nI (frN s 0))), (2, .int (nI (0)))]) (by rfl) (by first | rfl | (simp [bI, frN]; done)) ?_
  refine xx_loop (20) 0 (fun i => wl a (E G.2.2.1 a s t) L) (fun i => [(0, .ref (a 4 0)), (1, .int (nI (frN s i))), (2, .int (nI (i)))]) (by omega) ?_
  intro i hi0 hiN ih_i
  refine v_iload_n C dX6_freightsUnderWay_4 rfl 2 rfl ?_
  refine v_aload_n C dX6_freightsUnderWay_5 rfl 0 rfl ?_
  refine v_get C (v := .ref (a 8 2)) g_X6_9 (m4 (s := s) (t := t) (g := G.2.2.1) hL) rfl dX6_freightsUnderWay_6 rfl ?_
  refine v_alen C (t := 0) (v := 20) (m8 (s := s) (t := t) (g := G.2.2.1) hL 2 (by decide)) (by decide) rfl dX6_freightsUnderWay_9 rfl ?_
  refine v_icN_ge C (t := 31) i 20 rfl rfl (by omega) (by omega) dX6_freightsUnderWay_10 rfl rfl (fun h1 => ?_) (fun h1 => ?_)
  · skip
    refine v_iload_n C dX6_freightsUnderWay_31 rfl 1 rfl ?_
    exact v_iret C (by decide) (by decide) dX6_freightsUnderWay_32 ⟨congrArg (fun z => some (Value.int z)) (by (have : i = 20 := by omega); subst this; rfl), by rfl, by trivial⟩
  · skip
    refine v_aload_n C dX6_freightsUnderWay_13 rfl 0 rfl ?_
    refine v_get C (v := .ref (a 8 2)) g_X6_9 (m4 (s := s) (t := t) (g := G.2.2.1) hL) rfl dX6_freightsUnderWay_14 rfl ?_
    refine v_iload_n C dX6_freightsUnderWay_17 rfl 2 rfl ?_
    refine v_ialdE C (len := 20) i (m8 (s := s) (t := t) (g := G.2.2.1) hL 2 (by decide)) (nI_clamp (by omega)) (pk_in i 20 (by omega)) dX6_freightsUnderWay_18 rfl ?_
    refine xx_top (y := s 50 i) rfl ?_
    refine v_if_le C (t := 25) dX6_freightsUnderWay_19 rfl rfl (fun h2 => ?_) (fun h2 => ?_)
    · skip
      refine v_iincN C (lv1 := [(2, .int (nI (i + 1))), (0, .ref (a 4 0)), (1, .int (nI (frN s i)))]) i rfl dX6_freightsUnderWay_25 rfl 2 rfl (by decide) rfl ?_
      refine v_goto C (q := 4) dX6_freightsUnderWay_28 rfl ?_
      refine xx_lv [1, 2, 0] (lv' := [(0, .ref (a 4 0)), (1, .int (nI (frN s i))), (2, .int (nI (i + 1)))]) rfl ?_
      refine xx_wc (w2 := wl a (E G.2.2.1 a s t) L) (lv' := [(0, .ref (a 4 0)), (1, .int (nI (frN s (i + 1)))), (2, .int (nI (i + 1)))]) (by rfl) (by first | rfl | (simp [h1, Nat.not_le.mpr h1, h2, Int32.not_lt.mpr h2, frN, Nat.add_assoc])) ?_
      exact ih_i (by omega)
    · skip
      refine v_iincN C (lv1 := [(1, .int (nI (frN s i + 1))), (0, .ref (a 4 0)), (2, .int (nI (i)))]) (frN s i) rfl dX6_freightsUnderWay_22 rfl 1 rfl (by decide) rfl ?_
      refine v_iincN C (lv1 := [(2, .int (nI (i + 1))), (1, .int (nI (frN s i + 1))), (0, .ref (a 4 0))]) i rfl dX6_freightsUnderWay_25 rfl 2 rfl (by decide) rfl ?_
      refine v_goto C (q := 4) dX6_freightsUnderWay_28 rfl ?_
      refine xx_lv [2, 1, 0] (lv' := [(0, .ref (a 4 0)), (1, .int (nI (frN s i + 1))), (2, .int (nI (i + 1)))]) rfl ?_
      refine xx_wc (w2 := wl a (E G.2.2.1 a s t) L) (lv' := [(0, .ref (a 4 0)), (1, .int (nI (frN s (i + 1)))), (2, .int (nI (i + 1)))]) (by rfl) (by first | rfl | (simp [h1, Nat.not_le.mpr h1, h2, Int32.not_le.mp h2, frN, Nat.add_assoc])) ?_
      exact ih_i (by omega)

abbrev r_X6_send : Room := { frames := 0, cells := 0, slots := 0, locals := 0 }
set_option maxRecDepth 4000 in
theorem c_X6_send {l : Launch} {G : GG} {a : AD} {s t s0 : SS} {L : List (Nat × Nat)}  (hst : l.stackTraces = false) (hG : GOK G) (hL : Live L s0) (m : Int32) (d : Int32)  : Mth l yX6_send cX6_send 4 (Option.none : Option Jvm.ClassFile.FieldType) r_X6_send G (wl a (E G.2.2.1 a s t) L) [.ref (a 4 0), .int m, .int d] (RV (wl a (E G.2.2.1 a (sndF s m d) t) L) (True)) nX := by
  refine mth_of rfl (Nat.le_of_ble_eq_true rfl) hst hG (fun X hX C0 => ?_)
  subst hX
  have C : Cx X G cX6_send 4 RX6 (Option.none : Option Jvm.ClassFile.FieldType) r_X6_send "send" [] := C0
  clear C0
  show V X G 4 _ 0 0 _ 0 [(0, .ref (a 4 0)), (1, .int (m)), (2, .int (d))] []
  refine v_iconst C (v := 0) dX6_send_0 rfl rfl ?_
  refine v_istore_n C (lv1 := [(3, .int (0)), (0, .ref (a 4 0)), (1, .int (m)), (2, .int (d))]) dX6_send_1 rfl (by decide) rfl ?_
  refine xx_lv [1, 2, 3, 0] (lv' := [(0, .ref (a 4 0)), (1, .int (m)), (2, .int (d)), (3, .int (0))]) rfl ?_
  refine xx_wc (w2 := wl a (E G.2.2.1 a s t) L) (lv' := [(0, .ref (a 4 0)), (1, .int (m)), (2, .int (d)), (3, .int (nI (0)))]) (by rfl) (by first | rfl | (simp [bI, sndF]; done)) ?_
  refine xx_loopP (20) 0 (fun i => wl a (E G.2.2.1 a s t) L) (fun i => [(0, .ref (a 4 0)), (1, .int (m)), (2, .int (d)), (3, .int (nI (i)))]) (fun i => fsE s i = i) (by omega) (rfl) ?_
  intro i hi0 hiN hinv ih_i
  refine v_iload_n C dX6_send_2 rfl 3 rfl ?_
  refine v_bipush C (v := 20) dX6_send_3 rfl rfl ?_
  refine v_icN_ge C (t := 38) i 20 rfl rfl (by omega) (by omega) dX6_send_5 rfl rfl (fun h1 => ?_) (fun h1 => ?_)
  · skip
    exact v_vret C (by decide) (by decide) dX6_send_38 ⟨rfl, by first | ((have e : fsE s 20 = i := by (have hd : i + 1 + (20 - (i + 1)) = 20 := by omega); rw [← hd]; exact fsE_up hinv (by assumption) _); unfold sndF; rw [e, if_pos (by omega)]; done) | ((have e : i = 20 := by omega); subst e; unfold sndF; rw [if_neg (by omega)]), by trivial⟩
  · skip
    refine v_aload_n C dX6_send_8 rfl 0 rfl ?_
    refine v_get C (v := .ref (a 8 2)) g_X6_9 (m4 (s := s) (t := t) (g := G.2.2.1) hL) rfl dX6_send_9 rfl ?_
    refine v_iload_n C dX6_send_12 rfl 3 rfl ?_
    refine v_ialdE C (len := 20) i (m8 (s := s) (t := t) (g := G.2.2.1) hL 2 (by decide)) (nI_clamp (by omega)) (pk_in i 20 (by omega)) dX6_send_13 rfl ?_
    refine xx_top (y := s 50 i) rfl ?_
    refine v_if_ne C (t := 32) dX6_send_14 rfl rfl (fun h2 => ?_) (fun h2 => ?_)
    · skip
      refine v_iincN C (lv1 := [(3, .int (nI (i + 1))), (0, .ref (a 4 0)), (1, .int (m)), (2, .int (d))]) i rfl dX6_send_32 rfl 3 rfl (by decide) rfl ?_
      refine v_goto C (q := 2) dX6_send_35 rfl ?_
      refine xx_lv [1, 2, 3, 0] (lv' := [(0, .ref (a 4 0)), (1, .int (m)), (2, .int (d)), (3, .int (nI (i + 1)))]) rfl ?_
      refine xx_wc (w2 := wl a (E G.2.2.1 a s t) L) (lv' := [(0, .ref (a 4 0)), (1, .int (m)), (2, .int (d)), (3, .int (nI (i + 1)))]) (by rfl) (by first | rfl | (simp [h1, Nat.not_le.mpr h1, h2, sndF, Nat.add_assoc])) ?_
      exact ih_i (by omega) (by unfold fsE; rw [if_neg (by omega), if_neg (by assumption)])
    · skip
      refine v_aload_n C dX6_send_17 rfl 0 rfl ?_
      refine v_get C (v := .ref (a 8 2)) g_X6_9 (m4 (s := s) (t := t) (g := G.2.2.1) hL) rfl dX6_send_18 rfl ?_
      refine v_iload_n C dX6_send_21 rfl 3 rfl ?_
      refine v_iload_n C dX6_send_22 rfl 1 rfl ?_
      refine v_iastE C (len := 20) i (put_g (s := s) (t := t) (g := G.2.2.1) hL 2 (by decide) i m) (nI_clamp (by omega)) (pk_in i 20 (by omega)) dX6_send_23 rfl ?_
      refine xx_w (w' := wl a (E G.2.2.1 a (su s 50 i m) t) L) rfl ?_
      refine v_aload_n C dX6_send_24 rfl 0 rfl ?_
      refine v_get C (v := .ref (a 8 3)) g_X6_15 (m4 (s := ((su s 50 i m))) (t := t) (g := G.2.2.1) hL) rfl dX6_send_25 rfl ?_
      refine v_iload_n C dX6_send_28 rfl 3 rfl ?_
      refine v_iload_n C dX6_send_29 rfl 2 rfl ?_
      refine v_iastE C (len := 20) i (put_g (s := ((su s 50 i m))) (t := t) (g := G.2.2.1) hL 3 (by decide) i d) (nI_clamp (by omega)) (pk_in i 20 (by omega)) dX6_send_30 rfl ?_
      refine xx_w (w' := wl a (E G.2.2.1 a (su (su s 50 i m) 51 i d) t) L) rfl ?_
      exact v_vret C (by decide) (by decide) dX6_send_31 ⟨rfl, by first | ((have e : fsE s 20 = i := by (have hd : i + 1 + (20 - (i + 1)) = 20 := by omega); rw [← hd]; exact fsE_up hinv (by assumption) _); unfold sndF; rw [e, if_pos (by omega)]; done) | ((have e : i = 20 := by omega); subst e; unfold sndF; rw [if_neg (by omega)]), by trivial⟩

abbrev r_X6_unload : Room := { frames := 0, cells := 0, slots := 0, locals := 0 }
set_option maxRecDepth 4000 in
theorem c_X6_unload {l : Launch} {G : GG} {a : AD} {s t s0 : SS} {L : List (Nat × Nat)}  (hst : l.stackTraces = false) (hG : GOK G) (hL : Live L s0) (d : Int32)  : Mth l yX6_unload cX6_unload 3 (Option.none : Option Jvm.ClassFile.FieldType) r_X6_unload G (wl a (E G.2.2.1 a s t) L) [.ref (a 4 0), .int d] (RV (wl a (E G.2.2.1 a (ulW s d 20) t) L) (True)) nX := by
  refine mth_of rfl (Nat.le_of_ble_eq_true rfl) hst hG (fun X hX C0 => ?_)
  subst hX
  have C : Cx X G cX6_unload 3 RX6 (Option.none : Option Jvm.ClassFile.FieldType) r_X6_unload "unload" [] := C0
  clear C0
  show V X G 3 _ 0 0 _ 0 [(0, .ref (a 4 0)), (1, .int (d))] []
  refine v_iconst C (v := 0) dX6_unload_0 rfl rfl ?_
  refine v_istore_n C (lv1 := [(2, .int (0)), (0, .ref (a 4 0)), (1, .int (d))]) dX6_unload_1 rfl (by decide) rfl ?_
  refine xx_lv [1, 2, 0] (lv' := [(0, .ref (a 4 0)), (1, .int (d)), (2, .int (0))]) rfl ?_
  refine xx_wc (w2 := wl a (E G.2.2.1 a (ulW s d 0) t) L) (lv' := [(0, .ref (a 4 0)), (1, .int (d)), (2, .int (nI (0)))]) (by rfl) (by first | rfl | (simp [bI, ulW]; done)) ?_
  refine xx_loop (20) 0 (fun i => wl a (E G.2.2.1 a (ulW s d i) t) L) (fun i => [(0, .ref (a 4 0)), (1, .int (d)), (2, .int (nI (i)))]) (by omega) ?_
  intro i hi0 hiN ih_i
  refine v_iload_n C dX6_unload_2 rfl 2 rfl ?_
  refine v_bipush C (v := 20) dX6_unload_3 rfl rfl ?_
  refine v_icN_ge C (t := 55) i 20 rfl rfl (by omega) (by omega) dX6_unload_5 rfl rfl (fun h1 => ?_) (fun h1 => ?_)
  · skip
    exact v_vret C (by decide) (by decide) dX6_unload_55 ⟨rfl, by (have : i = 20 := by omega); subst this; rfl, by trivial⟩
  · skip
    refine v_aload_n C dX6_unload_8 rfl 0 rfl ?_
    refine v_get C (v := .ref (a 8 2)) g_X6_9 (m4 (s := ((ulW s d i))) (t := t) (g := G.2.2.1) hL) rfl dX6_unload_9 rfl ?_
    refine v_iload_n C dX6_unload_12 rfl 2 rfl ?_
    refine v_ialdE C (len := 20) i (m8 (s := ((ulW s d i))) (t := t) (g := G.2.2.1) hL 2 (by decide)) (nI_clamp (by omega)) (pk_in i 20 (by omega)) dX6_unload_13 rfl ?_
    refine xx_top (y := (ulW s d i) 50 i) rfl ?_
    refine v_if_le C (t := 49) dX6_unload_14 rfl rfl (fun h2 => ?_) (fun h2 => ?_)
    · skip
      refine v_iincN C (lv1 := [(2, .int (nI (i + 1))), (0, .ref (a 4 0)), (1, .int (d))]) i rfl dX6_unload_49 rfl 2 rfl (by decide) rfl ?_
      refine v_goto C (q := 2) dX6_unload_52 rfl ?_
      refine xx_lv [1, 2, 0] (lv' := [(0, .ref (a 4 0)), (1, .int (d)), (2, .int (nI (i + 1)))]) rfl ?_
      refine xx_wc (w2 := wl a (E G.2.2.1 a (ulW s d (i + 1)) t) L) (lv' := [(0, .ref (a 4 0)), (1, .int (d)), (2, .int (nI (i + 1)))]) (by first | rfl | (simp only [h1, Nat.not_le.mpr h1, h2, Int32.not_lt.mpr h2, ulW, if_true, if_false, and_true, true_and, and_self, false_and, and_false]; done) | (simp_all [ulW]; done)) (by first | rfl | (simp [h1, Nat.not_le.mpr h1, h2, Int32.not_lt.mpr h2, ulW, Nat.add_assoc])) ?_
      exact ih_i (by omega)
    · skip
      refine v_aload_n C dX6_unload_17 rfl 0 rfl ?_
      refine v_get C (v := .ref (a 8 3)) g_X6_15 (m4 (s := ((ulW s d i))) (t := t) (g := G.2.2.1) hL) rfl dX6_unload_18 rfl ?_
      refine v_iload_n C dX6_unload_21 rfl 2 rfl ?_
      refine v_ialdE C (len := 20) i (m8 (s := ((ulW s d i))) (t := t) (g := G.2.2.1) hL 3 (by decide)) (nI_clamp (by omega)) (pk_in i 20 (by omega)) dX6_unload_22 rfl ?_
      refine xx_top (y := (ulW s d i) 51 i) rfl ?_
      refine xx_top (y := s 51 i) (congrFun (ulW_o (k := 51) (by decide) (by decide) _) _) ?_
      refine v_iload_n C dX6_unload_23 rfl 1 rfl ?_
      refine v_icmp_ne C (t := 49) dX6_unload_24 rfl rfl (fun h3 => ?_) (fun h3 => ?_)
      · skip
        refine v_iincN C (lv1 := [(2, .int (nI (i + 1))), (0, .ref (a 4 0)), (1, .int (d))]) i rfl dX6_unload_49 rfl 2 rfl (by decide) rfl ?_
        refine v_goto C (q := 2) dX6_unload_52 rfl ?_
        refine xx_lv [1, 2, 0] (lv' := [(0, .ref (a 4 0)), (1, .int (d)), (2, .int (nI (i + 1)))]) rfl ?_
        refine xx_wc (w2 := wl a (E G.2.2.1 a (ulW s d (i + 1)) t) L) (lv' := [(0, .ref (a 4 0)), (1, .int (d)), (2, .int (nI (i + 1)))]) (by first | rfl | (simp only [h1, Nat.not_le.mpr h1, h2, Int32.not_le.mp h2, h3, ulW, if_true, if_false, and_true, true_and, and_self, false_and, and_false]; done) | (simp_all [ulW]; done)) (by first | rfl | (simp [h1, Nat.not_le.mpr h1, h2, Int32.not_le.mp h2, h3, ulW, Nat.add_assoc])) ?_
        exact ih_i (by omega)
      · skip
        refine v_aload_n C dX6_unload_27 rfl 0 rfl ?_
        refine v_dup C dX6_unload_28 rfl rfl ?_
        refine v_get C (v := .int ((ulW s d i) 5 0)) g_X6_18 (m4 (s := ((ulW s d i))) (t := t) (g := G.2.2.1) hL) rfl dX6_unload_29 rfl ?_
        refine v_aload_n C dX6_unload_32 rfl 0 rfl ?_
        refine v_get C (v := .ref (a 8 2)) g_X6_9 (m4 (s := ((ulW s d i))) (t := t) (g := G.2.2.1) hL) rfl dX6_unload_33 rfl ?_
        refine v_iload_n C dX6_unload_36 rfl 2 rfl ?_
        refine v_ialdE C (len := 20) i (m8 (s := ((ulW s d i))) (t := t) (g := G.2.2.1) hL 2 (by decide)) (nI_clamp (by omega)) (pk_in i 20 (by omega)) dX6_unload_37 rfl ?_
        refine xx_top (y := (ulW s d i) 50 i) rfl ?_
        refine v_iadd C dX6_unload_38 rfl ?_
        refine v_put C f_X6_18 (put_sto (s := ((ulW s d i))) (t := t) (g := G.2.2.1) hL (((ulW s d i) 5 0) + ((ulW s d i) 50 i))) rfl rfl (Nat.le_of_ble_eq_true rfl) dX6_unload_39 rfl ?_
        refine v_aload_n C dX6_unload_42 rfl 0 rfl ?_
        refine v_get C (v := .ref (a 8 2)) g_X6_9 (m4 (s := ((su (ulW s d i) 5 0 (((ulW s d i) 5 0) + ((ulW s d i) 50 i))))) (t := t) (g := G.2.2.1) hL) rfl dX6_unload_43 rfl ?_
        refine v_iload_n C dX6_unload_46 rfl 2 rfl ?_
        refine v_iconst C (v := 0) dX6_unload_47 rfl rfl ?_
        refine v_iastE C (len := 20) i (put_g (s := ((su (ulW s d i) 5 0 (((ulW s d i) 5 0) + ((ulW s d i) 50 i))))) (t := t) (g := G.2.2.1) hL 2 (by decide) i 0) (nI_clamp (by omega)) (pk_in i 20 (by omega)) dX6_unload_48 rfl ?_
        refine xx_w (w' := wl a (E G.2.2.1 a (su (su (ulW s d i) 5 0 (((ulW s d i) 5 0) + ((ulW s d i) 50 i))) 50 i 0) t) L) rfl ?_
        refine v_iincN C (lv1 := [(2, .int (nI (i + 1))), (0, .ref (a 4 0)), (1, .int (d))]) i rfl dX6_unload_49 rfl 2 rfl (by decide) rfl ?_
        refine v_goto C (q := 2) dX6_unload_52 rfl ?_
        refine xx_lv [1, 2, 0] (lv' := [(0, .ref (a 4 0)), (1, .int (d)), (2, .int (nI (i + 1)))]) rfl ?_
        refine xx_wc (w2 := wl a (E G.2.2.1 a (ulW s d (i + 1)) t) L) (lv' := [(0, .ref (a 4 0)), (1, .int (d)), (2, .int (nI (i + 1)))]) (by first | rfl | (simp only [h1, Nat.not_le.mpr h1, h2, Int32.not_le.mp h2, eq_true h3, ulW, if_true, if_false, and_true, true_and, and_self, false_and, and_false]; done) | (simp_all [ulW]; done)) (by first | rfl | (simp [h1, Nat.not_le.mpr h1, h2, Int32.not_le.mp h2, eq_true h3, ulW, Nat.add_assoc])) ?_
        exact ih_i (by omega)

