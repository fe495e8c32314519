section VN3
variable {X : XS} {G : GG} {cc : ByteArray} {nL : Nat} {own : String} {ret : Option FieldType} {rm : Room} {nm : String} {tb : List ExceptionTableEntry} {w w2 : va_W} {k n : Nat} {Q : State → Prop} {pc q : Nat} {lv : List (Nat × Value)} {st : List Value}
theorem shr_lt {n c m : Nat} (h : n < m) : n / 2 ^ c < m := Nat.lt_of_le_of_lt (Nat.div_le_self _ _) h
theorem v_idivN (C : Cx X G cc nL own ret rm nm tb) {x y : Int32} (a b : Nat) (hx : x = nI a) (hy : y = nI b) (ha : a < 2 ^ 31) (hb0 : 0 < b) (hb : b < 2 ^ 31) (d : decode cc pc = .ok (.idiv, 1)) (hq : pc + 1 = q) (kk : V X G nL w k n Q q lv (.int (nI (a / b)) :: st)) : V X G nL w k n Q pc lv (.int y :: .int x :: st) := by
  subst hx hy
  exact v_idiv C d hq (nI_ne0 hb0 hb) (xx_top (pk_div ha hb0 hb) kk)
theorem v_iremN (C : Cx X G cc nL own ret rm nm tb) {x y : Int32} (a b : Nat) (hx : x = nI a) (hy : y = nI b) (ha : a < 2 ^ 31) (hb0 : 0 < b) (hb : b < 2 ^ 31) (d : decode cc pc = .ok (.irem, 1)) (hq : pc + 1 = q) (kk : V X G nL w k n Q q lv (.int (nI (a % b)) :: st)) : V X G nL w k n Q pc lv (.int y :: .int x :: st) := by
  subst hx hy
  exact v_irem C d hq (nI_ne0 hb0 hb) (xx_top (pk_rem ha hb0 hb) kk)
theorem and31 : ∀ c, c < 32 → (nI c &&& 31) = nI c := by decide +kernel
theorem smod32 : ∀ c, c < 32 → ((nI c).toBitVec.smod 32).toNat = c := by decide +kernel
theorem v_ishrN (C : Cx X G cc nL own ret rm nm tb) {x y : Int32} (a b : Nat) (hx : x = nI a) (hy : y = nI b) (ha : a < 2 ^ 31) (hb : b < 32) (d : decode cc pc = .ok (.ishr, 1)) (hq : pc + 1 = q) (kk : V X G nL w k n Q q lv (.int (nI (a / 2 ^ b)) :: st)) : V X G nL w k n Q pc lv (.int y :: .int x :: st) := by
  subst hx hy
  exact v_ishr C d hq (xx_top (by rw [and31 b hb]; exact pk_shrN ha _ b (smod32 b hb)) kk)
theorem shl1 : ∀ c, c < 31 → (1 : Int32) <<< (nI c &&& 31) = nI (2 ^ c) := by decide +kernel
theorem v_ishl1 (C : Cx X G cc nL own ret rm nm tb) {y : Int32} (b : Nat) (hy : y = nI b) (hb : b < 31) (d : decode cc pc = .ok (.ishl, 1)) (hq : pc + 1 = q) (kk : V X G nL w k n Q q lv (.int (nI (2 ^ b)) :: st)) : V X G nL w k n Q pc lv (.int y :: .int 1 :: st) := by
  subst hy
  exact v_ishl C d hq (xx_top (shl1 b hb) kk)
theorem v_iand1 (C : Cx X G cc nL own ret rm nm tb) {x : Int32} (a : Nat) (hx : x = nI a) (ha : a < 2 ^ 31) (d : decode cc pc = .ok (.iand, 1)) (hq : pc + 1 = q) (kk : V X G nL w k n Q q lv (.int (nI (a % 2)) :: st)) : V X G nL w k n Q pc lv (.int 1 :: .int x :: st) := by
  subst hx
  exact v_iand C d hq (xx_top (pk_andN (by omega) 1 (by decide)) kk)
theorem nI_or {a b : Nat} : nI a ||| nI b = nI (a ||| b) := by
  apply Int32.toBitVec_inj.mp
  show (BitVec.ofNat 32 a ||| BitVec.ofNat 32 b) = BitVec.ofNat 32 (a ||| b)
  apply BitVec.eq_of_getLsbD_eq
  intro i hi
  simp [BitVec.getLsbD_ofNat, Nat.testBit_or]
theorem v_iorN (C : Cx X G cc nL own ret rm nm tb) {x y : Int32} (a b : Nat) (hx : x = nI a) (hy : y = nI b) (d : decode cc pc = .ok (.ior, 1)) (hq : pc + 1 = q) (kk : V X G nL w k n Q q lv (.int (nI (a ||| b)) :: st)) : V X G nL w k n Q pc lv (.int y :: .int x :: st) := by
  subst hx hy
  exact v_ior C d hq (xx_top nI_or kk)
theorem v_ifN_le (C : Cx X G cc nL own ret rm nm tb) {x : Int32} {z : Int} {t : Nat} (a : Nat) (hx : x = nI a) (ha : a < 2 ^ 31) (d : decode cc pc = .ok (.ifCond .le z, 3)) (ht : (pc : Int) + z = (t : Int)) (hq : pc + 3 = q) (kt : a = 0 → V X G nL w k n Q t lv st) (kf : 0 < a → V X G nL w k n Q q lv st) : V X G nL w k n Q pc lv (.int x :: st) := by
  subst hx
  refine v_if_le C d ht hq (fun h => kt ?_) (fun h => kf ?_)
  · have : nI a ≤ nI 0 := h
    have := (nI_leI ha (by omega)).mp this
    omega
  · have h2 : ¬ nI a ≤ nI 0 := h
    rw [nI_leI ha (by omega)] at h2
    omega
end VN3
def ordL : Nat → Nat
  | 0 => 1
  | 1 => 1
  | 2 => 1
  | k + 3 => ordL (k + 2) * (k + 2)
theorem ordL_s {i : Nat} (h : 2 ≤ i) : ordL i * i = ordL (i + 1) := by
  obtain ⟨e, rfl⟩ : ∃ e, i = e + 2 := ⟨i - 2, by omega⟩
  rfl
theorem ordL_b : ∀ k, k < 7 → 0 < ordL k ∧ ordL k ≤ 120 := by decide
/-- the search for the next cell that is left: how many are ahead after i steps; where it ends -/
def whS (u a : Nat) : Nat → Nat
  | 0 => a
  | i + 1 => if u / 2 ^ i % 2 = 1 then whS u a i else whS u a i - 1
theorem whS_le {u a : Nat} : ∀ n, whS u a n ≤ a
  | 0 => Nat.le_refl _
  | n + 1 => by
    have := whS_le (u := u) (a := a) n
    unfold whS
    split <;> omega
def whF (u a : Nat) : Nat → Nat
  | 0 => 0
  | n + 1 => if whF u a n < n then whF u a n else if u / 2 ^ n % 2 = 1 ∨ 0 < whS u a n then n + 1 else n
theorem whF_up {u a i : Nat} (h : whF u a i = i) (h0 : ¬ (u / 2 ^ i % 2 = 1 ∨ 0 < whS u a i)) : ∀ d, whF u a (i + 1 + d) = i
  | 0 => by
    show whF u a (i + 1) = i
    unfold whF
    rw [if_neg (by omega), if_neg h0]
  | d + 1 => by
    show whF u a (i + 1 + d + 1) = i
    unfold whF
    rw [if_pos (by rw [whF_up h h0 d]; omega), whF_up h h0 d]
/-- an order laid out: what is left of its number, the cells used -/
def lyS (m n : Nat) : Nat → Nat × Nat
  | 0 => (n, 0)
  | p + 1 => ((lyS m n p).1 % ordL (m - 1 - p + 1), (lyS m n p).2 ||| 2 ^ (whF (lyS m n p).2 ((lyS m n p).1 / ordL (m - 1 - p + 1)) 6))
def lyC (m n p : Nat) : Nat := whF (lyS m n p).2 ((lyS m n p).1 / ordL (m - 1 - p + 1)) 6
def lyW (z : SS) (m n : Nat) : Nat → SS
  | 0 => z
  | p + 1 => su (lyW z m n p) 43 p (nI (lyC m n p))
theorem lyW_o {z : SS} {m n k : Nat} (h : k ≠ 43) : ∀ p, lyW z m n p k = z k
  | 0 => rfl
  | p + 1 => by
    unfold lyW
    rw [su_o h, lyW_o h p]
/-- all orders of at most five cells -/
theorem ly_all : ∀ m, m < 6 → ∀ n, n < ordL (m + 1) → ∀ p, p < m → lyC m n p < m ∧ (lyS m n p).1 < 120 ∧ (lyS m n p).2 < 32 := by decide +kernel
def dgI (z : SS) (f : Nat) : Nat → SS
  | 0 => z
  | k + 1 => su (dgI z f k) 44 k (z 9 (f + k))
theorem dgI_o {z : SS} {f k : Nat} (h : k ≠ 44) : ∀ n, dgI z f n k = z k
  | 0 => rfl
  | n + 1 => by
    unfold dgI
    rw [su_o h, dgI_o h n]
/-- the digging of the cells of an order: what is left of them, the sum -/
def dgW (z : SS) (f M : Nat) (m : Int32) (op : Nat → Nat) : Nat → SS × Int32
  | 0 => (z, 0)
  | p + 1 => (if op p < M - 1 then su (su (dgW z f M m op p).1 44 (op p) ((dgW z f M m op p).1 44 (op p) - takF m ((dgW z f M m op p).1 44 (op p)))) 44 (op p + 1) ((su (dgW z f M m op p).1 44 (op p) ((dgW z f M m op p).1 44 (op p) - takF m ((dgW z f M m op p).1 44 (op p)))) 44 (op p + 1) + (takF m ((dgW z f M m op p).1 44 (op p)) - recF m ((dgW z f M m op p).1 44 (op p)) (z 10 (f + op p)))) else su (dgW z f M m op p).1 44 (op p) ((dgW z f M m op p).1 44 (op p) - takF m ((dgW z f M m op p).1 44 (op p))), (dgW z f M m op p).2 + recF m ((dgW z f M m op p).1 44 (op p)) (z 10 (f + op p)))
theorem dgW_o {z : SS} {f M : Nat} {m : Int32} {op : Nat → Nat} {k : Nat} (h : k ≠ 44) : ∀ n, (dgW z f M m op n).1 k = z k
  | 0 => rfl
  | n + 1 => by
    unfold dgW
    show (if op n < M - 1 then _ else _ : SS) k = _
    split
    · rw [su_o h, su_o h, dgW_o h n]
    · rw [su_o h, dgW_o h n]
theorem lyW_43 {z : SS} {m n p : Nat} : ∀ q, p < q → lyW z m n q 43 p = nI (lyC m n p)
  | 0, h => absurd h (Nat.not_lt_zero _)
  | q + 1, h => by
    unfold lyW
    by_cases e : p = q
    · subst e
      exact su_a
    · rw [su_b e]
      exact lyW_43 q (by omega)
def boW (z : SS) (f M : Nat) (m : Int32) : Nat → SS × (Nat × Int32)
  | 0 => (z, (0, -1))
  | n + 1 => ((dgW (dgI (lyW (boW z f M m n).1 M n M) f M) f M m (lyC M n) M).1, (if (boW z f M m n).2.2 < (dgW (dgI (lyW (boW z f M m n).1 M n M) f M) f M m (lyC M n) M).2 then n else (boW z f M m n).2.1, if (boW z f M m n).2.2 < (dgW (dgI (lyW (boW z f M m n).1 M n M) f M) f M m (lyC M n) M).2 then (dgW (dgI (lyW (boW z f M m n).1 M n M) f M) f M m (lyC M n) M).2 else (boW z f M m n).2.2))
theorem boW_o {z : SS} {f M : Nat} {m : Int32} {k : Nat} (h43 : k ≠ 43) (h44 : k ≠ 44) : ∀ n, (boW z f M m n).1 k = z k
  | 0 => rfl
  | n + 1 => by
    show (dgW (dgI (lyW (boW z f M m n).1 M n M) f M) f M m (lyC M n) M).1 k = z k
    rw [dgW_o h44, dgI_o h44, lyW_o h43, boW_o h43 h44 n]
def apE (z : SS) (x m r : Int32) : Int32 := if ¬ (((0 : Int32) ≤ x ∧ x ≤ z 21 0 - 1) ∧ ¬ r = 0) then 1 else if ¬ ((0 : Int32) ≤ m ∧ m ≤ 3) then 2 else if 5 < z 24 (tn x) then 3 else 0
theorem apE_0 {z : SS} {x m r : Int32} (h : apE z x m r = 0) : (((0 : Int32) ≤ x ∧ x ≤ z 21 0 - 1) ∧ ¬ r = 0) ∧ ((0 : Int32) ≤ m ∧ m ≤ 3) ∧ ¬ 5 < z 24 (tn x) := by
  unfold apE at h
  by_cases h1 : ((0 : Int32) ≤ x ∧ x ≤ z 21 0 - 1) ∧ ¬ r = 0
  · rw [if_neg (fun z => z h1)] at h
    by_cases h2 : (0 : Int32) ≤ m ∧ m ≤ 3
    · rw [if_neg (fun z => z h2)] at h
      by_cases h3 : 5 < z 24 (tn x)
      · rw [if_pos h3] at h
        exact absurd h (by decide)
      · exact ⟨h1, h2, h3⟩
    · rw [if_pos h2] at h
      exact absurd h (by decide)
  · rw [if_pos h1] at h
    exact absurd h (by decide)


abbrev r_X8_orders : Room := { frames := 0, cells := 0, slots := 0, locals := 0 }
set_option maxRecDepth 4000 in
theorem c_X8_orders {l : Launch} {G : GG} {a : AD} {s t s0 : SS} {L : List (Nat × Nat)}  (hst : l.stackTraces = false) (hG : GOK G) (hL : Live L s0) (x : Int32) (j_x : Nat) (e_x : x = nI j_x) (l_x : j_x < 6)  : Mth l yX8_orders cX8_orders 3 (Option.some Jvm.ClassFile.FieldType.int) r_X8_orders G (wl a (E G.2.2.1 a s t) L) [.int x] (RI (.int (nI (ordL (j_x + 1)))) (wl a (E G.2.2.1 a s t) L) (True)) nX := by
  refine mth_of rfl (Nat.le_of_ble_eq_true rfl) hst hG (fun X hX C0 => ?_)
  subst hX
  have C : Cx X G cX8_orders 3 RX8 (Option.some Jvm.ClassFile.FieldType.int) r_X8_orders "orders" [] := C0
  clear C0
  show V X G 3 _ 0 0 _ 0 [(0, .int (x))] []
  subst e_x
  obtain ⟨N0, hN0⟩ : ∃ N0, (j_x = 0 ∧ N0 = 2) ∨ (1 ≤ j_x ∧ N0 = j_x + 1) := by (rcases Nat.eq_zero_or_pos j_x with h | h); exact ⟨2, Or.inl ⟨h, rfl⟩⟩; exact ⟨j_x + 1, Or.inr ⟨h, rfl⟩⟩
  refine v_iconst C (v := 1) dX8_orders_0 rfl rfl ?_
  refine v_istore_n C (lv1 := [(1, .int (1)), (0, .int (nI (j_x)))]) dX8_orders_1 rfl (by decide) rfl ?_
  refine v_iconst C (v := 2) dX8_orders_2 rfl rfl ?_
  refine v_istore_n C (lv1 := [(2, .int (2)), (1, .int (1)), (0, .int (nI (j_x)))]) dX8_orders_3 rfl (by decide) rfl ?_
  refine xx_lv [2, 1, 0] (lv' := [(0, .int (nI (j_x))), (1, .int (1)), (2, .int (2))]) rfl ?_
  refine xx_wc (w2 := wl a (E G.2.2.1 a s t) L) (lv' := [(0, .int (nI (j_x))), (1, .int (nI (ordL 2))), (2, .int (nI (2)))]) (by rfl) (by first | rfl | (simp [bI, ]; done)) ?_
  refine xx_loop (N0) 2 (fun i => wl a (E G.2.2.1 a s t) L) (fun i => [(0, .int (nI (j_x))), (1, .int (nI (ordL i))), (2, .int (nI (i)))]) (by omega) ?_
  intro i hi0 hiN ih_i
  refine v_iload_n C dX8_orders_4 rfl 2 rfl ?_
  refine v_iload_n C dX8_orders_5 rfl 0 rfl ?_
  refine v_icN_gt C (t := 19) i j_x rfl rfl (by omega) (by omega) dX8_orders_6 rfl rfl (fun h1 => ?_) (fun h1 => ?_)
  · skip
    refine v_iload_n C dX8_orders_19 rfl 1 rfl ?_
    exact v_iret C (by decide) (by decide) dX8_orders_20 ⟨congrArg (fun z => some (Value.int z)) (by (rcases hN0 with ⟨e, f⟩ | ⟨e, f⟩); ((have e2 : i = 2 := by omega); subst e2 e; rfl); ((have e2 : i = j_x + 1 := by omega); subst e2; rfl)), by rfl, by trivial⟩
  · skip
    refine v_iload_n C dX8_orders_9 rfl 1 rfl ?_
    refine v_iload_n C dX8_orders_10 rfl 2 rfl ?_
    refine v_imulN C (ordL i) i rfl rfl dX8_orders_11 rfl ?_
    refine v_istore_n C (lv1 := [(1, .int (nI ((ordL i) * i))), (0, .int (nI (j_x))), (2, .int (nI (i)))]) dX8_orders_12 rfl (by decide) rfl ?_
    refine v_iincN C (lv1 := [(2, .int (nI (i + 1))), (1, .int (nI ((ordL i) * i))), (0, .int (nI (j_x)))]) i rfl dX8_orders_13 rfl 2 rfl (by decide) rfl ?_
    refine v_goto C (q := 4) dX8_orders_16 rfl ?_
    refine xx_lv [2, 1, 0] (lv' := [(0, .int (nI (j_x))), (1, .int (nI ((ordL i) * i))), (2, .int (nI (i + 1)))]) rfl ?_
    refine xx_wc (w2 := wl a (E G.2.2.1 a s t) L) (lv' := [(0, .int (nI (j_x))), (1, .int (nI (ordL (i + 1)))), (2, .int (nI (i + 1)))]) (by rfl) (by rw [ordL_s (by omega)]) ?_
    exact ih_i (by omega)

abbrev r_X8_laysOrder : Room := { frames := 1, cells := 0, slots := 0, locals := 22 }
set_option maxRecDepth 4000 in
theorem c_X8_laysOrder {l : Launch} {G : GG} {a : AD} {s t s0 : SS} {L : List (Nat × Nat)}  (hst : l.stackTraces = false) (hG : GOK G) (hL : Live L s0) (m : Int32) (j_m : Nat) (e_m : m = nI j_m) (l_m : j_m < 6) (n_ : Int32) (j_n_ : Nat) (e_n_ : n_ = nI j_n_) (l_n_ : j_n_ < 120) (hn : j_n_ < ordL (j_m + 1)) : Mth l yX8_laysOrder cX8_laysOrder 9 (Option.none : Option Jvm.ClassFile.FieldType) r_X8_laysOrder G (wl a (E G.2.2.1 a s t) L) [.ref (a 0 0), .int m, .int n_] (RV (wl a (E G.2.2.1 a s (lyW t j_m j_n_ j_m)) L) (True)) nX := by
  refine mth_of rfl (Nat.le_of_ble_eq_true rfl) hst hG (fun X hX C0 => ?_)
  subst hX
  have C : Cx X G cX8_laysOrder 9 RX8 (Option.none : Option Jvm.ClassFile.FieldType) r_X8_laysOrder "laysOrder" [] := C0
  clear C0
  show V X G 9 _ 0 0 _ 0 [(0, .ref (a 0 0)), (1, .int (m)), (2, .int (n_))] []
  subst e_m
  subst e_n_
  refine v_iload_n C dX8_laysOrder_0 rfl 2 rfl ?_
  refine v_istore_n C (lv1 := [(3, .int (nI (j_n_))), (0, .ref (a 0 0)), (1, .int (nI (j_m))), (2, .int (nI (j_n_)))]) dX8_laysOrder_1 rfl (by decide) rfl ?_
  refine v_iconst C (v := 0) dX8_laysOrder_2 rfl rfl ?_
  refine v_istore C (lv1 := [(4, .int (0)), (3, .int (nI (j_n_))), (0, .ref (a 0 0)), (1, .int (nI (j_m))), (2, .int (nI (j_n_)))]) dX8_laysOrder_3 rfl (by decide) rfl ?_
  refine v_iconst C (v := 0) dX8_laysOrder_5 rfl rfl ?_
  refine v_istore C (lv1 := [(5, .int (0)), (4, .int (0)), (3, .int (nI (j_n_))), (0, .ref (a 0 0)), (1, .int (nI (j_m))), (2, .int (nI (j_n_)))]) dX8_laysOrder_6 rfl (by decide) rfl ?_
  refine xx_lv [3, 4, 5, 2, 1, 0] (lv' := [(0, .ref (a 0 0)), (1, .int (nI (j_m))), (2, .int (nI (j_n_))), (3, .int (nI (j_n_))), (4, .int (0)), (5, .int (0))]) rfl ?_
  refine xx_wc (w2 := wl a (E G.2.2.1 a s (lyW t j_m j_n_ 0)) L) (lv' := [(0, .ref (a 0 0)), (1, .int (nI (j_m))), (2, .int (nI (j_n_))), (3, .int (nI ((lyS j_m j_n_ 0).1))), (4, .int (nI ((lyS j_m j_n_ 0).2))), (5, .int (nI (0)))]) (by rfl) (by first | rfl | (simp [bI, ]; done)) ?_
  refine xx_loop (j_m) 0 (fun p => wl a (E G.2.2.1 a s (lyW t j_m j_n_ p)) L) (fun p => [(0, .ref (a 0 0)), (1, .int (nI (j_m))), (2, .int (nI (j_n_))), (3, .int (nI ((lyS j_m j_n_ p).1))), (4, .int (nI ((lyS j_m j_n_ p).2))), (5, .int (nI (p)))]) (by omega) ?_
  intro p hi0 hiN ih_p
  refine v_iload C dX8_laysOrder_8 rfl 5 rfl ?_
  refine v_iload_n C dX8_laysOrder_10 rfl 1 rfl ?_
  refine v_icN_ge C (t := 106) p j_m rfl rfl (by omega) (by omega) dX8_laysOrder_11 rfl rfl (fun h1 => ?_) (fun h1 => ?_)
  · skip
    exact v_vret C (by decide) (by decide) dX8_laysOrder_106 ⟨rfl, by (have e : p = j_m := by omega); subst e; rfl, by trivial⟩
  · skip
    have hly := ly_all j_m l_m j_n_ hn p (by omega)
    have hob := ordL_b (j_m - 1 - p + 1) (by omega)
    refine v_iload_n C dX8_laysOrder_14 rfl 1 rfl ?_
    refine v_iconst C (v := 1) dX8_laysOrder_15 rfl rfl ?_
    refine v_isubN C j_m 1 (by omega) rfl rfl dX8_laysOrder_16 rfl ?_
    refine v_iload C dX8_laysOrder_17 rfl 5 rfl ?_
    refine v_isubN C (j_m - 1) p (by omega) rfl rfl dX8_laysOrder_19 rfl ?_
    refine w_invSr C [.int (nI ((j_m - 1) - p))] 0 0 L_X8_242 (c_X8_orders (s := s) (t := ((lyW t j_m j_n_ p)))  hst hG hL (nI ((j_m - 1) - p)) ((j_m - 1) - p) rfl (by omega)) rfl rfl rfl dX8_laysOrder_20 rfl kx_no (fun h2 => ?_)
    refine v_istore C (lv1 := [(6, .int (nI (ordL (((j_m - 1) - p) + 1)))), (0, .ref (a 0 0)), (1, .int (nI (j_m))), (2, .int (nI (j_n_))), (3, .int (nI ((lyS j_m j_n_ p).1))), (4, .int (nI ((lyS j_m j_n_ p).2))), (5, .int (nI (p)))]) dX8_laysOrder_23 rfl (by decide) rfl ?_
    refine v_iload_n C dX8_laysOrder_25 rfl 4 rfl ?_
    refine v_iload C dX8_laysOrder_26 rfl 0 rfl ?_
    refine v_idivN C ((lyS j_m j_n_ p).1) (ordL (((j_m - 1) - p) + 1)) rfl rfl (by omega) (by omega) (by omega) dX8_laysOrder_28 rfl ?_
    refine v_istore C (lv1 := [(7, .int (nI (((lyS j_m j_n_ p).1) / (ordL (((j_m - 1) - p) + 1))))), (6, .int (nI (ordL (((j_m - 1) - p) + 1)))), (0, .ref (a 0 0)), (1, .int (nI (j_m))), (2, .int (nI (j_n_))), (3, .int (nI ((lyS j_m j_n_ p).1))), (4, .int (nI ((lyS j_m j_n_ p).2))), (5, .int (nI (p)))]) dX8_laysOrder_29 rfl (by decide) rfl ?_
    refine v_iload_n C dX8_laysOrder_31 rfl 5 rfl ?_
    refine v_iload C dX8_laysOrder_32 rfl 1 rfl ?_
    refine v_iremN C ((lyS j_m j_n_ p).1) (ordL (((j_m - 1) - p) + 1)) rfl rfl (by omega) (by omega) (by omega) dX8_laysOrder_34 rfl ?_
    refine v_istore_n C (lv1 := [(3, .int (nI (((lyS j_m j_n_ p).1) % (ordL (((j_m - 1) - p) + 1))))), (7, .int (nI (((lyS j_m j_n_ p).1) / (ordL (((j_m - 1) - p) + 1))))), (6, .int (nI (ordL (((j_m - 1) - p) + 1)))), (0, .ref (a 0 0)), (1, .int (nI (j_m))), (2, .int (nI (j_n_))), (4, .int (nI ((lyS j_m j_n_ p).2))), (5, .int (nI (p)))]) dX8_laysOrder_35 rfl (by decide) rfl ?_
    refine v_iconst C (v := 0) dX8_laysOrder_36 rfl rfl ?_
    refine v_istore C (lv1 := [(8, .int (0)), (3, .int (nI (((lyS j_m j_n_ p).1) % (ordL (((j_m - 1) - p) + 1))))), (7, .int (nI (((lyS j_m j_n_ p).1) / (ordL (((j_m - 1) - p) + 1))))), (6, .int (nI (ordL (((j_m - 1) - p) + 1)))), (0, .ref (a 0 0)), (1, .int (nI (j_m))), (2, .int (nI (j_n_))), (4, .int (nI ((lyS j_m j_n_ p).2))), (5, .int (nI (p)))]) dX8_laysOrder_37 rfl (by decide) rfl ?_
    refine xx_lv [4, 5, 6, 1, 7, 8, 3, 2, 0] (lv' := [(0, .ref (a 0 0)), (1, .int (nI (j_m))), (2, .int (nI (j_n_))), (3, .int (nI (((lyS j_m j_n_ p).1) % (ordL (((j_m - 1) - p) + 1))))), (4, .int (nI ((lyS j_m j_n_ p).2))), (5, .int (nI (p))), (6, .int (nI (ordL (((j_m - 1) - p) + 1)))), (7, .int (nI (((lyS j_m j_n_ p).1) / (ordL (((j_m - 1) - p) + 1))))), (8, .int (0))]) rfl ?_
    refine xx_wc (w2 := wl a (E G.2.2.1 a s (lyW t j_m j_n_ p)) L) (lv' := [(0, .ref (a 0 0)), (1, .int (nI (j_m))), (2, .int (nI (j_n_))), (3, .int (nI (((lyS j_m j_n_ p).1) % (ordL (((j_m - 1) - p) + 1))))), (4, .int (nI ((lyS j_m j_n_ p).2))), (5, .int (nI (p))), (6, .int (nI (ordL (((j_m - 1) - p) + 1)))), (7, .int (nI (whS (lyS j_m j_n_ p).2 ((lyS j_m j_n_ p).1 / ordL (j_m - 1 - p + 1)) 0))), (8, .int (nI (0)))]) (by rfl) (by first | rfl | (simp [bI, h1, Nat.not_le.mpr h1]; done)) ?_
    refine xx_loopP (6) 0 (fun i => wl a (E G.2.2.1 a s (lyW t j_m j_n_ p)) L) (fun i => [(0, .ref (a 0 0)), (1, .int (nI (j_m))), (2, .int (nI (j_n_))), (3, .int (nI (((lyS j_m j_n_ p).1) % (ordL (((j_m - 1) - p) + 1))))), (4, .int (nI ((lyS j_m j_n_ p).2))), (5, .int (nI (p))), (6, .int (nI (ordL (((j_m - 1) - p) + 1)))), (7, .int (nI (whS (lyS j_m j_n_ p).2 ((lyS j_m j_n_ p).1 / ordL (j_m - 1 - p + 1)) i))), (8, .int (nI (i)))]) (fun i => whF (lyS j_m j_n_ p).2 ((lyS j_m j_n_ p).1 / ordL (j_m - 1 - p + 1)) i = i) (by omega) (rfl) ?_
    intro i hi0 hiN hinv ih_i
    have hws := Nat.le_trans (whS_le (u := (lyS j_m j_n_ p).2) (a := (lyS j_m j_n_ p).1 / ordL (j_m - 1 - p + 1)) i) (Nat.div_le_self _ _)
    have hi6 : i < 6 := by (rcases Nat.lt_or_ge i 6 with q | q); exact q; (have e6 : i = 6 := by omega); subst e6; exact absurd hinv (by have h7 := hly.1; unfold lyC at h7; omega)
    skip
    refine v_iload C dX8_laysOrder_39 rfl 4 rfl ?_
    refine v_iload C dX8_laysOrder_41 rfl 8 rfl ?_
    refine v_ishrN C ((lyS j_m j_n_ p).2) i rfl rfl (by omega) (by omega) dX8_laysOrder_43 rfl ?_
    refine v_iconst C (v := 1) dX8_laysOrder_44 rfl rfl ?_
    refine v_iand1 C (((lyS j_m j_n_ p).2) / 2 ^ i) rfl (by first | omega | exact shr_lt (by omega)) dX8_laysOrder_45 rfl ?_
    refine v_iconst C (v := 1) dX8_laysOrder_46 rfl rfl ?_
    refine v_icN_eq C (t := 55) ((((lyS j_m j_n_ p).2) / 2 ^ i) % 2) 1 rfl rfl (by omega) (by omega) dX8_laysOrder_47 rfl rfl (fun h3 => ?_) (fun h3 => ?_)
    · skip
      refine v_iload C dX8_laysOrder_55 rfl 7 rfl ?_
      refine v_iload C dX8_laysOrder_57 rfl 4 rfl ?_
      refine v_iload C dX8_laysOrder_59 rfl 8 rfl ?_
      refine v_ishrN C ((lyS j_m j_n_ p).2) i rfl rfl (by omega) (by omega) dX8_laysOrder_61 rfl ?_
      refine v_iconst C (v := 1) dX8_laysOrder_62 rfl rfl ?_
      refine v_iand1 C (((lyS j_m j_n_ p).2) / 2 ^ i) rfl (by first | omega | exact shr_lt (by omega)) dX8_laysOrder_63 rfl ?_
      refine v_iconst C (v := 1) dX8_laysOrder_64 rfl rfl ?_
      refine v_icN_ne C (t := 72) ((((lyS j_m j_n_ p).2) / 2 ^ i) % 2) 1 rfl rfl (by omega) (by omega) dX8_laysOrder_65 rfl rfl (fun h => absurd h3 h) (fun _ => ?_)
      refine v_iconst C (v := 0) dX8_laysOrder_68 rfl rfl ?_
      refine v_goto C (q := 73) dX8_laysOrder_69 rfl ?_
      refine v_isubN C (whS (lyS j_m j_n_ p).2 ((lyS j_m j_n_ p).1 / ordL (j_m - 1 - p + 1)) i) 0 (by omega) rfl rfl dX8_laysOrder_73 rfl ?_
      refine v_istore C (lv1 := [(7, .int (nI ((whS (lyS j_m j_n_ p).2 ((lyS j_m j_n_ p).1 / ordL (j_m - 1 - p + 1)) i) - 0))), (0, .ref (a 0 0)), (1, .int (nI (j_m))), (2, .int (nI (j_n_))), (3, .int (nI (((lyS j_m j_n_ p).1) % (ordL (((j_m - 1) - p) + 1))))), (4, .int (nI ((lyS j_m j_n_ p).2))), (5, .int (nI (p))), (6, .int (nI (ordL (((j_m - 1) - p) + 1)))), (8, .int (nI (i)))]) dX8_laysOrder_74 rfl (by decide) rfl ?_
      refine v_iincN C (lv1 := [(8, .int (nI (i + 1))), (7, .int (nI ((whS (lyS j_m j_n_ p).2 ((lyS j_m j_n_ p).1 / ordL (j_m - 1 - p + 1)) i) - 0))), (0, .ref (a 0 0)), (1, .int (nI (j_m))), (2, .int (nI (j_n_))), (3, .int (nI (((lyS j_m j_n_ p).1) % (ordL (((j_m - 1) - p) + 1))))), (4, .int (nI ((lyS j_m j_n_ p).2))), (5, .int (nI (p))), (6, .int (nI (ordL (((j_m - 1) - p) + 1))))]) i rfl dX8_laysOrder_76 rfl 8 rfl (by decide) rfl ?_
      refine v_goto C (q := 39) dX8_laysOrder_79 rfl ?_
      refine xx_lv [2, 3, 4, 5, 6, 7, 8, 1, 0] (lv' := [(0, .ref (a 0 0)), (1, .int (nI (j_m))), (2, .int (nI (j_n_))), (3, .int (nI (((lyS j_m j_n_ p).1) % (ordL (((j_m - 1) - p) + 1))))), (4, .int (nI ((lyS j_m j_n_ p).2))), (5, .int (nI (p))), (6, .int (nI (ordL (((j_m - 1) - p) + 1)))), (7, .int (nI ((whS (lyS j_m j_n_ p).2 ((lyS j_m j_n_ p).1 / ordL (j_m - 1 - p + 1)) i) - 0))), (8, .int (nI (i + 1)))]) rfl ?_
      refine xx_wc (w2 := wl a (E G.2.2.1 a s (lyW t j_m j_n_ p)) L) (lv' := [(0, .ref (a 0 0)), (1, .int (nI (j_m))), (2, .int (nI (j_n_))), (3, .int (nI (((lyS j_m j_n_ p).1) % (ordL (((j_m - 1) - p) + 1))))), (4, .int (nI ((lyS j_m j_n_ p).2))), (5, .int (nI (p))), (6, .int (nI (ordL (((j_m - 1) - p) + 1)))), (7, .int (nI (whS (lyS j_m j_n_ p).2 ((lyS j_m j_n_ p).1 / ordL (j_m - 1 - p + 1)) (i + 1)))), (8, .int (nI (i + 1)))]) (by rfl) (by first | rfl | (simp only [whS, h1, Nat.not_le.mpr h1, eq_true h3, if_true, if_false]; done) | (simp [whS, h1, Nat.not_le.mpr h1, eq_true h3]; done)) ?_
      exact ih_i (by omega) (by unfold whF; rw [hinv, if_neg (by omega), if_pos (by first | exact Or.inl (by assumption) | exact Or.inr (by assumption))])
    · skip
      refine v_iload C dX8_laysOrder_50 rfl 7 rfl ?_
      refine v_ifN_le C (t := 82) (whS (lyS j_m j_n_ p).2 ((lyS j_m j_n_ p).1 / ordL (j_m - 1 - p + 1)) i) rfl (by omega) dX8_laysOrder_52 rfl rfl (fun h4 => ?_) (fun h4 => ?_)
      · skip
        have eW : i = lyC j_m j_n_ p := by (have hd : i + 1 + (6 - (i + 1)) = 6 := by omega); unfold lyC; rw [← hd]; exact (whF_up hinv (by first | omega | (simp [*]; omega)) _).symm
        refine v_aload_n C dX8_laysOrder_82 rfl 0 rfl ?_
        refine v_get C (v := .ref (a 1 43)) g_X8_114 (m0 (s := s) (t := ((lyW t j_m j_n_ p))) (g := G.2.2.1) hL) (rg (by decide) rfl) dX8_laysOrder_83 rfl ?_
        refine v_iload C dX8_laysOrder_86 rfl 5 rfl ?_
        refine v_iload C dX8_laysOrder_88 rfl 8 rfl ?_
        refine v_iastE C (len := 5) p (put_m1 (s := s) (t := ((lyW t j_m j_n_ p))) (g := G.2.2.1) hL 43 rfl p (nI (i))) (nI_clamp (by omega)) (pk_in p 5 (by omega)) dX8_laysOrder_90 rfl ?_
        refine v_iload C dX8_laysOrder_91 rfl 4 rfl ?_
        refine v_iconst C (v := 1) dX8_laysOrder_93 rfl rfl ?_
        refine v_iload C dX8_laysOrder_94 rfl 8 rfl ?_
        refine v_ishl1 C i rfl (by omega) dX8_laysOrder_96 rfl ?_
        refine v_iorN C ((lyS j_m j_n_ p).2) (2 ^ i) rfl rfl dX8_laysOrder_97 rfl ?_
        refine v_istore C (lv1 := [(4, .int (nI (((lyS j_m j_n_ p).2) ||| (2 ^ i)))), (0, .ref (a 0 0)), (1, .int (nI (j_m))), (2, .int (nI (j_n_))), (3, .int (nI (((lyS j_m j_n_ p).1) % (ordL (((j_m - 1) - p) + 1))))), (5, .int (nI (p))), (6, .int (nI (ordL (((j_m - 1) - p) + 1)))), (7, .int (nI (whS (lyS j_m j_n_ p).2 ((lyS j_m j_n_ p).1 / ordL (j_m - 1 - p + 1)) i))), (8, .int (nI (i)))]) dX8_laysOrder_98 rfl (by decide) rfl ?_
        refine v_iincN C (lv1 := [(5, .int (nI (p + 1))), (4, .int (nI (((lyS j_m j_n_ p).2) ||| (2 ^ i)))), (0, .ref (a 0 0)), (1, .int (nI (j_m))), (2, .int (nI (j_n_))), (3, .int (nI (((lyS j_m j_n_ p).1) % (ordL (((j_m - 1) - p) + 1))))), (6, .int (nI (ordL (((j_m - 1) - p) + 1)))), (7, .int (nI (whS (lyS j_m j_n_ p).2 ((lyS j_m j_n_ p).1 / ordL (j_m - 1 - p + 1)) i))), (8, .int (nI (i)))]) p rfl dX8_laysOrder_100 rfl 5 rfl (by decide) rfl ?_
        refine v_goto C (q := 8) dX8_laysOrder_103 rfl ?_
        refine xx_lv [2, 3, 4, 5, 1, 0] (lv' := [(0, .ref (a 0 0)), (1, .int (nI (j_m))), (2, .int (nI (j_n_))), (3, .int (nI (((lyS j_m j_n_ p).1) % (ordL (((j_m - 1) - p) + 1))))), (4, .int (nI (((lyS j_m j_n_ p).2) ||| (2 ^ i)))), (5, .int (nI (p + 1)))]) rfl ?_
        refine xx_wc (w2 := wl a (E G.2.2.1 a s (lyW t j_m j_n_ (p + 1))) L) (lv' := [(0, .ref (a 0 0)), (1, .int (nI (j_m))), (2, .int (nI (j_n_))), (3, .int (nI ((lyS j_m j_n_ (p + 1)).1))), (4, .int (nI ((lyS j_m j_n_ (p + 1)).2))), (5, .int (nI (p + 1)))]) (by rw [eW]; rfl) (by rw [eW]; rfl) ?_
        exact ih_p (by omega)
      · skip
        refine v_iload C dX8_laysOrder_55 rfl 7 rfl ?_
        refine v_iload C dX8_laysOrder_57 rfl 4 rfl ?_
        refine v_iload C dX8_laysOrder_59 rfl 8 rfl ?_
        refine v_ishrN C ((lyS j_m j_n_ p).2) i rfl rfl (by omega) (by omega) dX8_laysOrder_61 rfl ?_
        refine v_iconst C (v := 1) dX8_laysOrder_62 rfl rfl ?_
        refine v_iand1 C (((lyS j_m j_n_ p).2) / 2 ^ i) rfl (by first | omega | exact shr_lt (by omega)) dX8_laysOrder_63 rfl ?_
        refine v_iconst C (v := 1) dX8_laysOrder_64 rfl rfl ?_
        refine v_icN_ne C (t := 72) ((((lyS j_m j_n_ p).2) / 2 ^ i) % 2) 1 rfl rfl (by omega) (by omega) dX8_laysOrder_65 rfl rfl (fun _ => ?_) (fun h => absurd h h3)
        refine v_iconst C (v := 1) dX8_laysOrder_72 rfl rfl ?_
        refine v_isubN C (whS (lyS j_m j_n_ p).2 ((lyS j_m j_n_ p).1 / ordL (j_m - 1 - p + 1)) i) 1 (by omega) rfl rfl dX8_laysOrder_73 rfl ?_
        refine v_istore C (lv1 := [(7, .int (nI ((whS (lyS j_m j_n_ p).2 ((lyS j_m j_n_ p).1 / ordL (j_m - 1 - p + 1)) i) - 1))), (0, .ref (a 0 0)), (1, .int (nI (j_m))), (2, .int (nI (j_n_))), (3, .int (nI (((lyS j_m j_n_ p).1) % (ordL (((j_m - 1) - p) + 1))))), (4, .int (nI ((lyS j_m j_n_ p).2))), (5, .int (nI (p))), (6, .int (nI (ordL (((j_m - 1) - p) + 1)))), (8, .int (nI (i)))]) dX8_laysOrder_74 rfl (by decide) rfl ?_
        refine v_iincN C (lv1 := [(8, .int (nI (i + 1))), (7, .int (nI ((whS (lyS j_m j_n_ p).2 ((lyS j_m j_n_ p).1 / ordL (j_m - 1 - p + 1)) i) - 1))), (0, .ref (a 0 0)), (1, .int (nI (j_m))), (2, .int (nI (j_n_))), (3, .int (nI (((lyS j_m j_n_ p).1) % (ordL (((j_m - 1) - p) + 1))))), (4, .int (nI ((lyS j_m j_n_ p).2))), (5, .int (nI (p))), (6, .int (nI (ordL (((j_m - 1) - p) + 1))))]) i rfl dX8_laysOrder_76 rfl 8 rfl (by decide) rfl ?_
        refine v_goto C (q := 39) dX8_laysOrder_79 rfl ?_
        refine xx_lv [2, 3, 4, 5, 6, 7, 8, 1, 0] (lv' := [(0, .ref (a 0 0)), (1, .int (nI (j_m))), (2, .int (nI (j_n_))), (3, .int (nI (((lyS j_m j_n_ p).1) % (ordL (((j_m - 1) - p) + 1))))), (4, .int (nI ((lyS j_m j_n_ p).2))), (5, .int (nI (p))), (6, .int (nI (ordL (((j_m - 1) - p) + 1)))), (7, .int (nI ((whS (lyS j_m j_n_ p).2 ((lyS j_m j_n_ p).1 / ordL (j_m - 1 - p + 1)) i) - 1))), (8, .int (nI (i + 1)))]) rfl ?_
        refine xx_wc (w2 := wl a (E G.2.2.1 a s (lyW t j_m j_n_ p)) L) (lv' := [(0, .ref (a 0 0)), (1, .int (nI (j_m))), (2, .int (nI (j_n_))), (3, .int (nI (((lyS j_m j_n_ p).1) % (ordL (((j_m - 1) - p) + 1))))), (4, .int (nI ((lyS j_m j_n_ p).2))), (5, .int (nI (p))), (6, .int (nI (ordL (((j_m - 1) - p) + 1)))), (7, .int (nI (whS (lyS j_m j_n_ p).2 ((lyS j_m j_n_ p).1 / ordL (j_m - 1 - p + 1)) (i + 1)))), (8, .int (nI (i + 1)))]) (by rfl) (by first | rfl | (simp only [whS, h1, Nat.not_le.mpr h1, h3, h4, Nat.not_le.mpr h4, if_true, if_false]; done) | (simp [whS, h1, Nat.not_le.mpr h1, h3, h4, Nat.not_le.mpr h4]; done)) ?_
        exact ih_i (by omega) (by unfold whF; rw [hinv, if_neg (by omega), if_pos (by first | exact Or.inl (by assumption) | exact Or.inr (by assumption))])

abbrev r_X8_digs : Room := { frames := 2, cells := 0, slots := 0, locals := 45 }
set_option maxRecDepth 4000 in
theorem c_X8_digs {l : Launch} {G : GG} {a : AD} {s t s0 : SS} {L : List (Nat × Nat)} {mz : Nat} {fz : Nat} {op : Nat → Nat} (hst : l.stackTraces = false) (hG : GOK G) (hL : Live L s0) (x : Int32) (j_x : Nat) (e_x : x = nI j_x) (l_x : j_x < 30) (m : Int32) (hz : t 24 j_x = nI mz) (hz5 : 1 ≤ mz ∧ mz < 6) (hfz : t 23 j_x = nI fz) (hfz40 : fz + mz ≤ 40) (hop : ∀ p, p < mz → t 43 p = nI (op p) ∧ op p < mz) : Mth l yX8_digs cX8_digs 9 (Option.some Jvm.ClassFile.FieldType.int) r_X8_digs G (wl a (E G.2.2.1 a s t) L) [.ref (a 0 0), .int x, .int m] (RI (.int ((dgW (dgI t fz mz) fz mz m op mz).2)) (wl a (E G.2.2.1 a s (dgW (dgI t fz mz) fz mz m op mz).1) L) (True)) nX := by
  refine mth_of rfl (Nat.le_of_ble_eq_true rfl) hst hG (fun X hX C0 => ?_)
  subst hX
  have C : Cx X G cX8_digs 9 RX8 (Option.some Jvm.ClassFile.FieldType.int) r_X8_digs "digs" [] := C0
  clear C0
  show V X G 9 _ 0 0 _ 0 [(0, .ref (a 0 0)), (1, .int (x)), (2, .int (m))] []
  subst e_x
  refine v_aload_n C dX8_digs_0 rfl 0 rfl ?_
  refine v_get C (v := .ref (a 1 24)) g_X8_65 (m0 (s := s) (t := t) (g := G.2.2.1) hL) (rg (by decide) rfl) dX8_digs_1 rfl ?_
  refine v_iload_n C dX8_digs_4 rfl 1 rfl ?_
  refine v_ialdE C (len := 30) j_x (m1 (s := s) (t := t) (g := G.2.2.1) hL 24 rfl) (nI_clamp (by omega)) (pk_in j_x 30 (by omega)) dX8_digs_5 rfl ?_
  refine xx_top (y := nI mz) hz ?_
  refine v_istore_n C (lv1 := [(3, .int (nI (mz))), (0, .ref (a 0 0)), (1, .int (nI (j_x))), (2, .int (m))]) dX8_digs_6 rfl (by decide) rfl ?_
  refine v_iconst C (v := 0) dX8_digs_7 rfl rfl ?_
  refine v_istore C (lv1 := [(4, .int (0)), (3, .int (nI (mz))), (0, .ref (a 0 0)), (1, .int (nI (j_x))), (2, .int (m))]) dX8_digs_8 rfl (by decide) rfl ?_
  refine xx_lv [2, 3, 4, 1, 0] (lv' := [(0, .ref (a 0 0)), (1, .int (nI (j_x))), (2, .int (m)), (3, .int (nI (mz))), (4, .int (0))]) rfl ?_
  refine xx_wc (w2 := wl a (E G.2.2.1 a s (dgI t fz 0)) L) (lv' := [(0, .ref (a 0 0)), (1, .int (nI (j_x))), (2, .int (m)), (3, .int (nI (mz))), (4, .int (nI (0)))]) (by rfl) (by first | rfl | (simp [bI, ]; done)) ?_
  refine xx_loop (mz) 0 (fun i => wl a (E G.2.2.1 a s (dgI t fz i)) L) (fun i => [(0, .ref (a 0 0)), (1, .int (nI (j_x))), (2, .int (m)), (3, .int (nI (mz))), (4, .int (nI (i)))]) (by omega) ?_
  intro i hi0 hiN ih_i
  refine v_iload C dX8_digs_10 rfl 4 rfl ?_
  refine v_iload_n C dX8_digs_12 rfl 3 rfl ?_
  refine v_icN_ge C (t := 43) i mz rfl rfl (by omega) (by omega) dX8_digs_13 rfl rfl (fun h1 => ?_) (fun h1 => ?_)
  · skip
    refine v_iconst C (v := 0) dX8_digs_43 rfl rfl ?_
    refine v_istore C (lv1 := [(4, .int (0)), (0, .ref (a 0 0)), (1, .int (nI (j_x))), (2, .int (m)), (3, .int (nI (mz)))]) dX8_digs_44 rfl (by decide) rfl ?_
    refine v_iconst C (v := 0) dX8_digs_46 rfl rfl ?_
    refine v_istore C (lv1 := [(5, .int (0)), (4, .int (0)), (0, .ref (a 0 0)), (1, .int (nI (j_x))), (2, .int (m)), (3, .int (nI (mz)))]) dX8_digs_47 rfl (by decide) rfl ?_
    refine xx_lv [2, 3, 4, 5, 1, 0] (lv' := [(0, .ref (a 0 0)), (1, .int (nI (j_x))), (2, .int (m)), (3, .int (nI (mz))), (4, .int (0)), (5, .int (0))]) rfl ?_
    refine xx_wc (w2 := wl a (E G.2.2.1 a s (dgW (dgI t fz i) fz mz m op 0).1) L) (lv' := [(0, .ref (a 0 0)), (1, .int (nI (j_x))), (2, .int (m)), (3, .int (nI (mz))), (4, .int ((dgW (dgI t fz i) fz mz m op 0).2)), (5, .int (nI (0)))]) (by rfl) (by first | rfl | (simp [bI, h1, Nat.not_lt.mpr h1]; done)) ?_
    refine xx_loop (mz) 0 (fun p => wl a (E G.2.2.1 a s (dgW (dgI t fz i) fz mz m op p).1) L) (fun p => [(0, .ref (a 0 0)), (1, .int (nI (j_x))), (2, .int (m)), (3, .int (nI (mz))), (4, .int ((dgW (dgI t fz i) fz mz m op p).2)), (5, .int (nI (p)))]) (by omega) ?_
    intro p hi0 hiN ih_p
    have g10 : dgI t fz i 10 = t 10 := dgI_o (by decide) i
    refine v_iload C dX8_digs_49 rfl 5 rfl ?_
    refine v_iload_n C dX8_digs_51 rfl 3 rfl ?_
    refine v_icN_ge C (t := 154) p mz rfl rfl (by omega) (by omega) dX8_digs_52 rfl rfl (fun h2 => ?_) (fun h2 => ?_)
    · skip
      refine v_iload C dX8_digs_154 rfl 4 rfl ?_
      exact v_iret C (by decide) (by decide) dX8_digs_156 ⟨congrArg (fun z => some (Value.int z)) (by (have e1 : i = mz := by omega); (have e2 : p = mz := by omega); subst e1 e2; rfl), by (have e1 : i = mz := by omega); (have e2 : p = mz := by omega); subst e1 e2; rfl, by trivial⟩
    · skip
      have hop1 := (hop p (by omega)).2
      refine v_aload_n C dX8_digs_55 rfl 0 rfl ?_
      refine v_get C (v := .ref (a 1 43)) g_X8_114 (m0 (s := s) (t := ((dgW (dgI t fz i) fz mz m op p).1)) (g := G.2.2.1) hL) (rg (by decide) rfl) dX8_digs_56 rfl ?_
      refine v_iload C dX8_digs_59 rfl 5 rfl ?_
      refine v_ialdE C (len := 5) p (m1 (s := s) (t := ((dgW (dgI t fz i) fz mz m op p).1)) (g := G.2.2.1) hL 43 rfl) (nI_clamp (by omega)) (pk_in p 5 (by omega)) dX8_digs_61 rfl ?_
      refine xx_top (y := (dgI t fz i) 43 p) (congrFun (dgW_o (k := 43) (by decide) _) _) ?_
      refine xx_top (y := t 43 p) (congrFun (dgI_o (k := 43) (by decide) _) _) ?_
      refine xx_top (y := nI (op p)) (hop p (by omega)).1 ?_
      refine v_istore C (lv1 := [(6, .int (nI (op p))), (0, .ref (a 0 0)), (1, .int (nI (j_x))), (2, .int (m)), (3, .int (nI (mz))), (4, .int ((dgW (dgI t fz i) fz mz m op p).2)), (5, .int (nI (p)))]) dX8_digs_62 rfl (by decide) rfl ?_
      refine v_iload_n C dX8_digs_64 rfl 3 rfl ?_
      refine v_aload_n C dX8_digs_65 rfl 1 rfl ?_
      refine v_get C (v := .ref (a 1 44)) g_X8_117 (m0 (s := s) (t := ((dgW (dgI t fz i) fz mz m op p).1)) (g := G.2.2.1) hL) (rg (by decide) rfl) dX8_digs_66 rfl ?_
      refine v_iload C dX8_digs_69 rfl 0 rfl ?_
      refine v_ialdE C (len := 5) (op p) (m1 (s := s) (t := ((dgW (dgI t fz i) fz mz m op p).1)) (g := G.2.2.1) hL 44 rfl) (nI_clamp (by omega)) (pk_in (op p) 5 (by omega)) dX8_digs_71 rfl ?_
      refine w_invSr C [.int (m), .int ((dgW (dgI t fz i) fz mz m op p).1 44 (op p))] 0 0 L_X8_201 (c_X8_takes (s := s) (t := ((dgW (dgI t fz i) fz mz m op p).1))  hst hG hL m ((dgW (dgI t fz i) fz mz m op p).1 44 (op p))) rfl rfl rfl dX8_digs_72 rfl kx_no (fun h3 => ?_)
      refine v_istore C (lv1 := [(7, .int (takF m ((dgW (dgI t fz i) fz mz m op p).1 44 (op p)))), (6, .int (nI (op p))), (0, .ref (a 0 0)), (1, .int (nI (j_x))), (2, .int (m)), (3, .int (nI (mz))), (4, .int ((dgW (dgI t fz i) fz mz m op p).2)), (5, .int (nI (p)))]) dX8_digs_75 rfl (by decide) rfl ?_
      refine v_iload_n C dX8_digs_77 rfl 4 rfl ?_
      refine v_aload_n C dX8_digs_78 rfl 2 rfl ?_
      refine v_get C (v := .ref (a 1 44)) g_X8_117 (m0 (s := s) (t := ((dgW (dgI t fz i) fz mz m op p).1)) (g := G.2.2.1) hL) (rg (by decide) rfl) dX8_digs_79 rfl ?_
      refine v_iload C dX8_digs_82 rfl 1 rfl ?_
      refine v_ialdE C (len := 5) (op p) (m1 (s := s) (t := ((dgW (dgI t fz i) fz mz m op p).1)) (g := G.2.2.1) hL 44 rfl) (nI_clamp (by omega)) (pk_in (op p) 5 (by omega)) dX8_digs_84 rfl ?_
      refine v_aload_n C dX8_digs_85 rfl 2 rfl ?_
      refine v_get C (v := .ref (a 1 10)) g_X8_29 (m0 (s := s) (t := ((dgW (dgI t fz i) fz mz m op p).1)) (g := G.2.2.1) hL) (rg (by decide) rfl) dX8_digs_86 rfl ?_
      refine v_aload_n C dX8_digs_89 rfl 2 rfl ?_
      refine v_get C (v := .ref (a 1 23)) g_X8_62 (m0 (s := s) (t := ((dgW (dgI t fz i) fz mz m op p).1)) (g := G.2.2.1) hL) (rg (by decide) rfl) dX8_digs_90 rfl ?_
      refine v_iload_n C dX8_digs_93 rfl 3 rfl ?_
      refine v_ialdE C (len := 30) j_x (m1 (s := s) (t := ((dgW (dgI t fz i) fz mz m op p).1)) (g := G.2.2.1) hL 23 rfl) (nI_clamp (by omega)) (pk_in j_x 30 (by omega)) dX8_digs_94 rfl ?_
      refine xx_top (y := (dgI t fz i) 23 j_x) (congrFun (dgW_o (k := 23) (by decide) _) _) ?_
      refine xx_top (y := t 23 j_x) (congrFun (dgI_o (k := 23) (by decide) _) _) ?_
      refine xx_top (y := nI fz) hfz ?_
      refine v_iload C dX8_digs_95 rfl 1 rfl ?_
      refine v_iaddN C fz (op p) rfl rfl dX8_digs_97 rfl ?_
      refine v_ialdE C (len := 40) (fz + (op p)) (m1 (s := s) (t := ((dgW (dgI t fz i) fz mz m op p).1)) (g := G.2.2.1) hL 10 rfl) (nI_clamp (by omega)) (pk_in (fz + (op p)) 40 (by omega)) dX8_digs_98 rfl ?_
      refine xx_top (y := (dgI t fz i) 10 (fz + (op p))) (congrFun (dgW_o (k := 10) (by decide) _) _) ?_
      refine xx_top (y := t 10 (fz + (op p))) (congrFun (dgI_o (k := 10) (by decide) _) _) ?_
      refine w_invSr C [.int (m), .int ((dgW (dgI t fz i) fz mz m op p).1 44 (op p)), .int (t 10 (fz + (op p)))] 0 0 L_X8_204 (c_X8_recovers (s := s) (t := ((dgW (dgI t fz i) fz mz m op p).1))  hst hG hL m ((dgW (dgI t fz i) fz mz m op p).1 44 (op p)) (t 10 (fz + (op p)))) rfl rfl rfl dX8_digs_99 rfl kx_no (fun h4 => ?_)
      refine v_istore C (lv1 := [(8, .int (recF m ((dgW (dgI t fz i) fz mz m op p).1 44 (op p)) (t 10 (fz + (op p))))), (7, .int (takF m ((dgW (dgI t fz i) fz mz m op p).1 44 (op p)))), (6, .int (nI (op p))), (0, .ref (a 0 0)), (1, .int (nI (j_x))), (2, .int (m)), (3, .int (nI (mz))), (4, .int ((dgW (dgI t fz i) fz mz m op p).2)), (5, .int (nI (p)))]) dX8_digs_102 rfl (by decide) rfl ?_
      refine v_aload_n C dX8_digs_104 rfl 3 rfl ?_
      refine v_get C (v := .ref (a 1 44)) g_X8_117 (m0 (s := s) (t := ((dgW (dgI t fz i) fz mz m op p).1)) (g := G.2.2.1) hL) (rg (by decide) rfl) dX8_digs_105 rfl ?_
      refine v_iload C dX8_digs_108 rfl 2 rfl ?_
      refine v_dup2 C dX8_digs_110 rfl rfl rfl ?_
      refine v_ialdE C (len := 5) (op p) (m1 (s := s) (t := ((dgW (dgI t fz i) fz mz m op p).1)) (g := G.2.2.1) hL 44 rfl) (nI_clamp (by omega)) (pk_in (op p) 5 (by omega)) dX8_digs_111 rfl ?_
      refine v_iload C dX8_digs_112 rfl 1 rfl ?_
      refine v_isub C dX8_digs_114 rfl ?_
      refine v_iastE C (len := 5) (op p) (put_m1 (s := s) (t := ((dgW (dgI t fz i) fz mz m op p).1)) (g := G.2.2.1) hL 44 rfl (op p) (((dgW (dgI t fz i) fz mz m op p).1 44 (op p)) - (takF m ((dgW (dgI t fz i) fz mz m op p).1 44 (op p))))) (nI_clamp (by omega)) (pk_in (op p) 5 (by omega)) dX8_digs_115 rfl ?_
      refine v_iload C dX8_digs_116 rfl 2 rfl ?_
      refine v_iload_n C dX8_digs_118 rfl 6 rfl ?_
      refine v_iconst C (v := 1) dX8_digs_119 rfl rfl ?_
      refine v_isubN C mz 1 (by omega) rfl rfl dX8_digs_120 rfl ?_
      refine v_icN_ge C (t := 141) (op p) (mz - 1) rfl rfl (by omega) (by omega) dX8_digs_121 rfl rfl (fun h5 => ?_) (fun h5 => ?_)
      · skip
        refine v_iload C dX8_digs_141 rfl 7 rfl ?_
        refine v_iload C dX8_digs_143 rfl 0 rfl ?_
        refine v_iadd C dX8_digs_145 rfl ?_
        refine v_istore C (lv1 := [(4, .int (((dgW (dgI t fz i) fz mz m op p).2) + (recF m ((dgW (dgI t fz i) fz mz m op p).1 44 (op p)) (t 10 (fz + (op p)))))), (8, .int (recF m ((dgW (dgI t fz i) fz mz m op p).1 44 (op p)) (t 10 (fz + (op p))))), (7, .int (takF m ((dgW (dgI t fz i) fz mz m op p).1 44 (op p)))), (6, .int (nI (op p))), (0, .ref (a 0 0)), (1, .int (nI (j_x))), (2, .int (m)), (3, .int (nI (mz))), (5, .int (nI (p)))]) dX8_digs_146 rfl (by decide) rfl ?_
        refine v_iincN C (lv1 := [(5, .int (nI (p + 1))), (4, .int (((dgW (dgI t fz i) fz mz m op p).2) + (recF m ((dgW (dgI t fz i) fz mz m op p).1 44 (op p)) (t 10 (fz + (op p)))))), (8, .int (recF m ((dgW (dgI t fz i) fz mz m op p).1 44 (op p)) (t 10 (fz + (op p))))), (7, .int (takF m ((dgW (dgI t fz i) fz mz m op p).1 44 (op p)))), (6, .int (nI (op p))), (0, .ref (a 0 0)), (1, .int (nI (j_x))), (2, .int (m)), (3, .int (nI (mz)))]) p rfl dX8_digs_148 rfl 8 rfl (by decide) rfl ?_
        refine v_goto C (q := 49) dX8_digs_151 rfl ?_
        refine xx_lv [5, 6, 7, 8, 1, 0] (lv' := [(0, .ref (a 0 0)), (1, .int (nI (j_x))), (2, .int (m)), (3, .int (nI (mz))), (4, .int (((dgW (dgI t fz i) fz mz m op p).2) + (recF m ((dgW (dgI t fz i) fz mz m op p).1 44 (op p)) (t 10 (fz + (op p)))))), (5, .int (nI (p + 1)))]) rfl ?_
        refine xx_wc (w2 := wl a (E G.2.2.1 a s (dgW (dgI t fz i) fz mz m op (p + 1)).1) L) (lv' := [(0, .ref (a 0 0)), (1, .int (nI (j_x))), (2, .int (m)), (3, .int (nI (mz))), (4, .int ((dgW (dgI t fz i) fz mz m op (p + 1)).2)), (5, .int (nI (p + 1)))]) (by first | (simp only [dgW, g10, h1, Nat.not_lt.mpr h1, h2, Nat.not_le.mpr h2, h5, Nat.not_lt.mpr h5, if_true, if_false]; done) | (simp only [dgW, g10, h1, Nat.not_lt.mpr h1, h2, Nat.not_le.mpr h2, h5, Nat.not_lt.mpr h5, if_true, if_false]; rfl)) (by first | rfl | (simp only [dgW, g10, h1, Nat.not_lt.mpr h1, h2, Nat.not_le.mpr h2, h5, Nat.not_lt.mpr h5, if_true, if_false]; done) | (simp only [dgW, g10, h1, Nat.not_lt.mpr h1, h2, Nat.not_le.mpr h2, h5, Nat.not_lt.mpr h5, if_true, if_false]; rfl)) ?_
        exact ih_p (by omega)
      · skip
        refine v_aload_n C dX8_digs_124 rfl 3 rfl ?_
        refine v_get C (v := .ref (a 1 44)) g_X8_117 (m0 (s := s) (t := ((su (dgW (dgI t fz i) fz mz m op p).1 44 (op p) (((dgW (dgI t fz i) fz mz m op p).1 44 (op p)) - (takF m ((dgW (dgI t fz i) fz mz m op p).1 44 (op p))))))) (g := G.2.2.1) hL) (rg (by decide) rfl) dX8_digs_125 rfl ?_
        refine v_iload C dX8_digs_128 rfl 2 rfl ?_
        refine v_iconst C (v := 1) dX8_digs_130 rfl rfl ?_
        refine v_iaddN C (op p) 1 rfl rfl dX8_digs_131 rfl ?_
        refine v_dup2 C dX8_digs_132 rfl rfl rfl ?_
        refine v_ialdE C (len := 5) ((op p) + 1) (m1 (s := s) (t := ((su (dgW (dgI t fz i) fz mz m op p).1 44 (op p) (((dgW (dgI t fz i) fz mz m op p).1 44 (op p)) - (takF m ((dgW (dgI t fz i) fz mz m op p).1 44 (op p))))))) (g := G.2.2.1) hL 44 rfl) (nI_clamp (by omega)) (pk_in ((op p) + 1) 5 (by omega)) dX8_digs_133 rfl ?_
        refine xx_top (y := (su (dgW (dgI t fz i) fz mz m op p).1 44 (op p) (((dgW (dgI t fz i) fz mz m op p).1 44 (op p)) - (takF m ((dgW (dgI t fz i) fz mz m op p).1 44 (op p))))) 44 ((op p) + 1)) rfl ?_
        refine v_iload C dX8_digs_134 rfl 1 rfl ?_
        refine v_iload C dX8_digs_136 rfl 0 rfl ?_
        refine v_isub C dX8_digs_138 rfl ?_
        refine v_iadd C dX8_digs_139 rfl ?_
        refine v_iastE C (len := 5) ((op p) + 1) (put_m1 (s := s) (t := ((su (dgW (dgI t fz i) fz mz m op p).1 44 (op p) (((dgW (dgI t fz i) fz mz m op p).1 44 (op p)) - (takF m ((dgW (dgI t fz i) fz mz m op p).1 44 (op p))))))) (g := G.2.2.1) hL 44 rfl ((op p) + 1) (((su (dgW (dgI t fz i) fz mz m op p).1 44 (op p) (((dgW (dgI t fz i) fz mz m op p).1 44 (op p)) - (takF m ((dgW (dgI t fz i) fz mz m op p).1 44 (op p))))) 44 ((op p) + 1)) + ((takF m ((dgW (dgI t fz i) fz mz m op p).1 44 (op p))) - (recF m ((dgW (dgI t fz i) fz mz m op p).1 44 (op p)) (t 10 (fz + (op p))))))) (nI_clamp (by omega)) (pk_in ((op p) + 1) 5 (by omega)) dX8_digs_140 rfl ?_
        refine v_iload C dX8_digs_141 rfl 7 rfl ?_
        refine v_iload C dX8_digs_143 rfl 0 rfl ?_
        refine v_iadd C dX8_digs_145 rfl ?_
        refine v_istore C (lv1 := [(4, .int (((dgW (dgI t fz i) fz mz m op p).2) + (recF m ((dgW (dgI t fz i) fz mz m op p).1 44 (op p)) (t 10 (fz + (op p)))))), (8, .int (recF m ((dgW (dgI t fz i) fz mz m op p).1 44 (op p)) (t 10 (fz + (op p))))), (7, .int (takF m ((dgW (dgI t fz i) fz mz m op p).1 44 (op p)))), (6, .int (nI (op p))), (0, .ref (a 0 0)), (1, .int (nI (j_x))), (2, .int (m)), (3, .int (nI (mz))), (5, .int (nI (p)))]) dX8_digs_146 rfl (by decide) rfl ?_
        refine v_iincN C (lv1 := [(5, .int (nI (p + 1))), (4, .int (((dgW (dgI t fz i) fz mz m op p).2) + (recF m ((dgW (dgI t fz i) fz mz m op p).1 44 (op p)) (t 10 (fz + (op p)))))), (8, .int (recF m ((dgW (dgI t fz i) fz mz m op p).1 44 (op p)) (t 10 (fz + (op p))))), (7, .int (takF m ((dgW (dgI t fz i) fz mz m op p).1 44 (op p)))), (6, .int (nI (op p))), (0, .ref (a 0 0)), (1, .int (nI (j_x))), (2, .int (m)), (3, .int (nI (mz)))]) p rfl dX8_digs_148 rfl 8 rfl (by decide) rfl ?_
        refine v_goto C (q := 49) dX8_digs_151 rfl ?_
        refine xx_lv [5, 6, 7, 8, 1, 0] (lv' := [(0, .ref (a 0 0)), (1, .int (nI (j_x))), (2, .int (m)), (3, .int (nI (mz))), (4, .int (((dgW (dgI t fz i) fz mz m op p).2) + (recF m ((dgW (dgI t fz i) fz mz m op p).1 44 (op p)) (t 10 (fz + (op p)))))), (5, .int (nI (p + 1)))]) rfl ?_
        refine xx_wc (w2 := wl a (E G.2.2.1 a s (dgW (dgI t fz i) fz mz m op (p + 1)).1) L) (lv' := [(0, .ref (a 0 0)), (1, .int (nI (j_x))), (2, .int (m)), (3, .int (nI (mz))), (4, .int ((dgW (dgI t fz i) fz mz m op (p + 1)).2)), (5, .int (nI (p + 1)))]) (by first | (simp only [dgW, g10, h1, Nat.not_lt.mpr h1, h2, Nat.not_le.mpr h2, h5, Nat.not_le.mpr h5, if_true, if_false]; done) | (simp only [dgW, g10, h1, Nat.not_lt.mpr h1, h2, Nat.not_le.mpr h2, h5, Nat.not_le.mpr h5, if_true, if_false]; rfl)) (by first | rfl | (simp only [dgW, g10, h1, Nat.not_lt.mpr h1, h2, Nat.not_le.mpr h2, h5, Nat.not_le.mpr h5, if_true, if_false]; done) | (simp only [dgW, g10, h1, Nat.not_lt.mpr h1, h2, Nat.not_le.mpr h2, h5, Nat.not_le.mpr h5, if_true, if_false]; rfl)) ?_
        exact ih_p (by omega)
  · skip
    refine v_aload_n C dX8_digs_16 rfl 0 rfl ?_
    refine v_get C (v := .ref (a 1 44)) g_X8_117 (m0 (s := s) (t := ((dgI t fz i))) (g := G.2.2.1) hL) (rg (by decide) rfl) dX8_digs_17 rfl ?_
    refine v_iload C dX8_digs_20 rfl 4 rfl ?_
    refine v_aload_n C dX8_digs_22 rfl 0 rfl ?_
    refine v_get C (v := .ref (a 1 9)) g_X8_25 (m0 (s := s) (t := ((dgI t fz i))) (g := G.2.2.1) hL) (rg (by decide) rfl) dX8_digs_23 rfl ?_
    refine v_aload_n C dX8_digs_26 rfl 0 rfl ?_
    refine v_get C (v := .ref (a 1 23)) g_X8_62 (m0 (s := s) (t := ((dgI t fz i))) (g := G.2.2.1) hL) (rg (by decide) rfl) dX8_digs_27 rfl ?_
    refine v_iload_n C dX8_digs_30 rfl 1 rfl ?_
    refine v_ialdE C (len := 30) j_x (m1 (s := s) (t := ((dgI t fz i))) (g := G.2.2.1) hL 23 rfl) (nI_clamp (by omega)) (pk_in j_x 30 (by omega)) dX8_digs_31 rfl ?_
    refine xx_top (y := t 23 j_x) (congrFun (dgI_o (k := 23) (by decide) _) _) ?_
    refine xx_top (y := nI fz) hfz ?_
    refine v_iload C dX8_digs_32 rfl 4 rfl ?_
    refine v_iaddN C fz i rfl rfl dX8_digs_34 rfl ?_
    refine v_ialdE C (len := 40) (fz + i) (m1 (s := s) (t := ((dgI t fz i))) (g := G.2.2.1) hL 9 rfl) (nI_clamp (by omega)) (pk_in (fz + i) 40 (by omega)) dX8_digs_35 rfl ?_
    refine xx_top (y := t 9 (fz + i)) (congrFun (dgI_o (k := 9) (by decide) _) _) ?_
    refine v_iastE C (len := 5) i (put_m1 (s := s) (t := ((dgI t fz i))) (g := G.2.2.1) hL 44 rfl i (t 9 (fz + i))) (nI_clamp (by omega)) (pk_in i 5 (by omega)) dX8_digs_36 rfl ?_
    refine v_iincN C (lv1 := [(4, .int (nI (i + 1))), (0, .ref (a 0 0)), (1, .int (nI (j_x))), (2, .int (m)), (3, .int (nI (mz)))]) i rfl dX8_digs_37 rfl 4 rfl (by decide) rfl ?_
    refine v_goto C (q := 10) dX8_digs_40 rfl ?_
    refine xx_lv [1, 2, 3, 4, 0] (lv' := [(0, .ref (a 0 0)), (1, .int (nI (j_x))), (2, .int (m)), (3, .int (nI (mz))), (4, .int (nI (i + 1)))]) rfl ?_
    refine xx_wc (w2 := wl a (E G.2.2.1 a s (dgI t fz (i + 1))) L) (lv' := [(0, .ref (a 0 0)), (1, .int (nI (j_x))), (2, .int (m)), (3, .int (nI (mz))), (4, .int (nI (i + 1)))]) (by rfl) (by first | rfl | (simp [h1, Nat.not_le.mpr h1, Nat.add_assoc])) ?_
    exact ih_i (by omega)

abbrev r_X8_bestOrder : Room := { frames := 3, cells := 0, slots := 0, locals := 73 }
set_option maxRecDepth 4000 in
theorem c_X8_bestOrder {l : Launch} {G : GG} {a : AD} {s t s0 : SS} {L : List (Nat × Nat)} {mz : Nat} {fz : Nat} (hst : l.stackTraces = false) (hG : GOK G) (hL : Live L s0) (x : Int32) (j_x : Nat) (e_x : x = nI j_x) (l_x : j_x < 30) (m : Int32) (hz : t 24 j_x = nI mz) (hz5 : 1 ≤ mz ∧ mz < 6) (hfz : t 23 j_x = nI fz) (hfz40 : fz + mz ≤ 40) : Mth l yX8_bestOrder cX8_bestOrder 7 (Option.some Jvm.ClassFile.FieldType.int) r_X8_bestOrder G (wl a (E G.2.2.1 a s t) L) [.ref (a 0 0), .int x, .int m] (RI (.int (nI ((boW t fz mz m (ordL (mz + 1))).2.1))) (wl a (E G.2.2.1 a s (boW t fz mz m (ordL (mz + 1))).1) L) (True)) nX := by
  refine mth_of rfl (Nat.le_of_ble_eq_true rfl) hst hG (fun X hX C0 => ?_)
  subst hX
  have C : Cx X G cX8_bestOrder 7 RX8 (Option.some Jvm.ClassFile.FieldType.int) r_X8_bestOrder "bestOrder" [] := C0
  clear C0
  show V X G 7 _ 0 0 _ 0 [(0, .ref (a 0 0)), (1, .int (x)), (2, .int (m))] []
  subst e_x
  have hob := ordL_b (mz + 1) (by omega)
  refine v_iconst C (v := 0) dX8_bestOrder_0 rfl rfl ?_
  refine v_istore_n C (lv1 := [(3, .int (0)), (0, .ref (a 0 0)), (1, .int (nI (j_x))), (2, .int (m))]) dX8_bestOrder_1 rfl (by decide) rfl ?_
  refine v_iconst C (v := (-1)) dX8_bestOrder_2 rfl rfl ?_
  refine v_istore C (lv1 := [(4, .int ((-1))), (3, .int (0)), (0, .ref (a 0 0)), (1, .int (nI (j_x))), (2, .int (m))]) dX8_bestOrder_3 rfl (by decide) rfl ?_
  refine v_iconst C (v := 0) dX8_bestOrder_5 rfl rfl ?_
  refine v_istore C (lv1 := [(5, .int (0)), (4, .int ((-1))), (3, .int (0)), (0, .ref (a 0 0)), (1, .int (nI (j_x))), (2, .int (m))]) dX8_bestOrder_6 rfl (by decide) rfl ?_
  refine xx_lv [3, 4, 5, 2, 1, 0] (lv' := [(0, .ref (a 0 0)), (1, .int (nI (j_x))), (2, .int (m)), (3, .int (0)), (4, .int ((-1))), (5, .int (0))]) rfl ?_
  refine xx_wc (w2 := wl a (E G.2.2.1 a s (boW t fz mz m 0).1) L) (lv' := [(0, .ref (a 0 0)), (1, .int (nI (j_x))), (2, .int (m)), (3, .int (nI ((boW t fz mz m 0).2.1))), (4, .int ((boW t fz mz m 0).2.2)), (5, .int (nI (0)))]) (by rfl) (by first | rfl | (simp [bI, ]; done)) ?_
  refine xx_loop (ordL (mz + 1)) 0 (fun i => wl a (E G.2.2.1 a s (boW t fz mz m i).1) L) (fun i => [(0, .ref (a 0 0)), (1, .int (nI (j_x))), (2, .int (m)), (3, .int (nI ((boW t fz mz m i).2.1))), (4, .int ((boW t fz mz m i).2.2)), (5, .int (nI (i)))]) (by omega) ?_
  intro i hi0 hiN ih_i
  refine v_iload C dX8_bestOrder_8 rfl 5 rfl ?_
  refine v_aload_n C dX8_bestOrder_10 rfl 0 rfl ?_
  refine v_get C (v := .ref (a 1 24)) g_X8_65 (m0 (s := s) (t := ((boW t fz mz m i).1)) (g := G.2.2.1) hL) (rg (by decide) rfl) dX8_bestOrder_11 rfl ?_
  refine v_iload_n C dX8_bestOrder_14 rfl 1 rfl ?_
  refine v_ialdE C (len := 30) j_x (m1 (s := s) (t := ((boW t fz mz m i).1)) (g := G.2.2.1) hL 24 rfl) (nI_clamp (by omega)) (pk_in j_x 30 (by omega)) dX8_bestOrder_15 rfl ?_
  refine xx_top (y := t 24 j_x) (congrFun (boW_o (k := 24) (by decide) (by decide) _) _) ?_
  refine xx_top (y := nI mz) hz ?_
  refine w_invSr C [.int (nI (mz))] 0 0 L_X8_242 (c_X8_orders (s := s) (t := ((boW t fz mz m i).1))  hst hG hL (nI (mz)) mz rfl (by omega)) rfl rfl rfl dX8_bestOrder_16 rfl kx_no (fun h1 => ?_)
  refine v_icN_ge C (t := 78) i (ordL (mz + 1)) rfl rfl (by omega) (by omega) dX8_bestOrder_19 rfl rfl (fun h2 => ?_) (fun h2 => ?_)
  · skip
    refine v_iload_n C dX8_bestOrder_78 rfl 3 rfl ?_
    exact v_iret C (by decide) (by decide) dX8_bestOrder_79 ⟨congrArg (fun z => some (Value.int z)) (by (have e1 : i = ordL (mz + 1) := by omega); subst e1; rfl), by (have e1 : i = ordL (mz + 1) := by omega); subst e1; rfl, by trivial⟩
  · skip
    refine v_aload_n C dX8_bestOrder_22 rfl 0 rfl ?_
    refine v_aload_n C dX8_bestOrder_23 rfl 0 rfl ?_
    refine v_get C (v := .ref (a 1 24)) g_X8_65 (m0 (s := s) (t := ((boW t fz mz m i).1)) (g := G.2.2.1) hL) (rg (by decide) rfl) dX8_bestOrder_24 rfl ?_
    refine v_iload_n C dX8_bestOrder_27 rfl 1 rfl ?_
    refine v_ialdE C (len := 30) j_x (m1 (s := s) (t := ((boW t fz mz m i).1)) (g := G.2.2.1) hL 24 rfl) (nI_clamp (by omega)) (pk_in j_x 30 (by omega)) dX8_bestOrder_28 rfl ?_
    refine xx_top (y := t 24 j_x) (congrFun (boW_o (k := 24) (by decide) (by decide) _) _) ?_
    refine xx_top (y := nI mz) hz ?_
    refine v_iload C dX8_bestOrder_29 rfl 5 rfl ?_
    refine w_invVv C [.int (nI (mz)), .int (nI (i))] 0 0 L_X8_245 (c_X8_laysOrder (s := s) (t := ((boW t fz mz m i).1))  hst hG hL (nI (mz)) mz rfl (by omega) (nI (i)) i rfl (by omega) (by omega)) (m0 (s := s) (t := ((boW t fz mz m i).1)) (g := G.2.2.1) hL) rfl rfl rfl rfl dX8_bestOrder_31 rfl kx_no (fun h3 => ?_)
    refine v_aload_n C dX8_bestOrder_34 rfl 0 rfl ?_
    refine v_iload_n C dX8_bestOrder_35 rfl 1 rfl ?_
    refine v_iload_n C dX8_bestOrder_36 rfl 2 rfl ?_
    refine w_invVr C [.int (nI (j_x)), .int (m)] 0 0 L_X8_248 (c_X8_digs (s := s) (t := ((lyW ((boW t fz mz m i).1) mz i mz))) (mz := mz) (fz := fz) (op := ((lyC mz i))) hst hG hL (nI (j_x)) j_x rfl (by omega) m (Eq.trans (congrFun (Eq.trans (lyW_o (k := 24) (by decide) _) (boW_o (k := 24) (by decide) (by decide) _)) _) hz) hz5 (Eq.trans (congrFun (Eq.trans (lyW_o (k := 23) (by decide) _) (boW_o (k := 23) (by decide) (by decide) _)) _) hfz) hfz40 (fun p hp => ⟨lyW_43 mz hp, (ly_all mz (by omega) i (by omega) p hp).1⟩)) (m0 (s := s) (t := ((lyW ((boW t fz mz m i).1) mz i mz))) (g := G.2.2.1) hL) rfl rfl rfl rfl dX8_bestOrder_37 rfl kx_no (fun h4 => ?_)
    refine v_istore C (lv1 := [(6, .int ((dgW (dgI (lyW ((boW t fz mz m i).1) mz i mz) fz mz) fz mz m (lyC mz i) mz).2)), (0, .ref (a 0 0)), (1, .int (nI (j_x))), (2, .int (m)), (3, .int (nI ((boW t fz mz m i).2.1))), (4, .int ((boW t fz mz m i).2.2)), (5, .int (nI (i)))]) dX8_bestOrder_40 rfl (by decide) rfl ?_
    refine v_iload C dX8_bestOrder_42 rfl 0 rfl ?_
    refine v_iload C dX8_bestOrder_44 rfl 5 rfl ?_
    refine v_icmp_le C (t := 54) dX8_bestOrder_46 rfl rfl (fun h5 => ?_) (fun h5 => ?_)
    · skip
      refine v_iload_n C dX8_bestOrder_54 rfl 4 rfl ?_
      refine v_istore_n C (lv1 := [(3, .int (nI ((boW t fz mz m i).2.1))), (6, .int ((dgW (dgI (lyW ((boW t fz mz m i).1) mz i mz) fz mz) fz mz m (lyC mz i) mz).2)), (0, .ref (a 0 0)), (1, .int (nI (j_x))), (2, .int (m)), (4, .int ((boW t fz mz m i).2.2)), (5, .int (nI (i)))]) dX8_bestOrder_55 rfl (by decide) rfl ?_
      refine v_iload C dX8_bestOrder_56 rfl 1 rfl ?_
      refine v_iload C dX8_bestOrder_58 rfl 5 rfl ?_
      refine v_icmp_le C (t := 68) dX8_bestOrder_60 rfl rfl (fun _ => ?_) (fun h => absurd h5 h)
      refine v_iload C dX8_bestOrder_68 rfl 5 rfl ?_
      refine v_istore C (lv1 := [(4, .int ((boW t fz mz m i).2.2)), (3, .int (nI ((boW t fz mz m i).2.1))), (6, .int ((dgW (dgI (lyW ((boW t fz mz m i).1) mz i mz) fz mz) fz mz m (lyC mz i) mz).2)), (0, .ref (a 0 0)), (1, .int (nI (j_x))), (2, .int (m)), (5, .int (nI (i)))]) dX8_bestOrder_70 rfl (by decide) rfl ?_
      refine v_iincN C (lv1 := [(5, .int (nI (i + 1))), (4, .int ((boW t fz mz m i).2.2)), (3, .int (nI ((boW t fz mz m i).2.1))), (6, .int ((dgW (dgI (lyW ((boW t fz mz m i).1) mz i mz) fz mz) fz mz m (lyC mz i) mz).2)), (0, .ref (a 0 0)), (1, .int (nI (j_x))), (2, .int (m))]) i rfl dX8_bestOrder_72 rfl 6 rfl (by decide) rfl ?_
      refine v_goto C (q := 8) dX8_bestOrder_75 rfl ?_
      refine xx_lv [4, 5, 6, 2, 1, 0] (lv' := [(0, .ref (a 0 0)), (1, .int (nI (j_x))), (2, .int (m)), (3, .int (nI ((boW t fz mz m i).2.1))), (4, .int ((boW t fz mz m i).2.2)), (5, .int (nI (i + 1)))]) rfl ?_
      refine xx_wc (w2 := wl a (E G.2.2.1 a s (boW t fz mz m (i + 1)).1) L) (lv' := [(0, .ref (a 0 0)), (1, .int (nI (j_x))), (2, .int (m)), (3, .int (nI ((boW t fz mz m (i + 1)).2.1))), (4, .int ((boW t fz mz m (i + 1)).2.2)), (5, .int (nI (i + 1)))]) (by rfl) (by first | (simp only [boW, h2, Nat.not_le.mpr h2, h5, Int32.not_lt.mpr h5, if_true, if_false]; done) | (simp only [boW, h2, Nat.not_le.mpr h2, h5, Int32.not_lt.mpr h5, if_true, if_false]; rfl)) ?_
      exact ih_i (by omega)
    · skip
      refine v_iload C dX8_bestOrder_49 rfl 6 rfl ?_
      refine v_goto C (q := 55) dX8_bestOrder_51 rfl ?_
      refine v_istore_n C (lv1 := [(3, .int (nI (i))), (6, .int ((dgW (dgI (lyW ((boW t fz mz m i).1) mz i mz) fz mz) fz mz m (lyC mz i) mz).2)), (0, .ref (a 0 0)), (1, .int (nI (j_x))), (2, .int (m)), (4, .int ((boW t fz mz m i).2.2)), (5, .int (nI (i)))]) dX8_bestOrder_55 rfl (by decide) rfl ?_
      refine v_iload C dX8_bestOrder_56 rfl 1 rfl ?_
      refine v_iload C dX8_bestOrder_58 rfl 5 rfl ?_
      refine v_icmp_le C (t := 68) dX8_bestOrder_60 rfl rfl (fun h => absurd h h5) (fun _ => ?_)
      refine v_iload C dX8_bestOrder_63 rfl 1 rfl ?_
      refine v_goto C (q := 70) dX8_bestOrder_65 rfl ?_
      refine v_istore C (lv1 := [(4, .int ((dgW (dgI (lyW ((boW t fz mz m i).1) mz i mz) fz mz) fz mz m (lyC mz i) mz).2)), (3, .int (nI (i))), (6, .int ((dgW (dgI (lyW ((boW t fz mz m i).1) mz i mz) fz mz) fz mz m (lyC mz i) mz).2)), (0, .ref (a 0 0)), (1, .int (nI (j_x))), (2, .int (m)), (5, .int (nI (i)))]) dX8_bestOrder_70 rfl (by decide) rfl ?_
      refine v_iincN C (lv1 := [(5, .int (nI (i + 1))), (4, .int ((dgW (dgI (lyW ((boW t fz mz m i).1) mz i mz) fz mz) fz mz m (lyC mz i) mz).2)), (3, .int (nI (i))), (6, .int ((dgW (dgI (lyW ((boW t fz mz m i).1) mz i mz) fz mz) fz mz m (lyC mz i) mz).2)), (0, .ref (a 0 0)), (1, .int (nI (j_x))), (2, .int (m))]) i rfl dX8_bestOrder_72 rfl 6 rfl (by decide) rfl ?_
      refine v_goto C (q := 8) dX8_bestOrder_75 rfl ?_
      refine xx_lv [4, 5, 6, 2, 1, 0] (lv' := [(0, .ref (a 0 0)), (1, .int (nI (j_x))), (2, .int (m)), (3, .int (nI (i))), (4, .int ((dgW (dgI (lyW ((boW t fz mz m i).1) mz i mz) fz mz) fz mz m (lyC mz i) mz).2)), (5, .int (nI (i + 1)))]) rfl ?_
      refine xx_wc (w2 := wl a (E G.2.2.1 a s (boW t fz mz m (i + 1)).1) L) (lv' := [(0, .ref (a 0 0)), (1, .int (nI (j_x))), (2, .int (m)), (3, .int (nI ((boW t fz mz m (i + 1)).2.1))), (4, .int ((boW t fz mz m (i + 1)).2.2)), (5, .int (nI (i + 1)))]) (by rfl) (by first | (simp only [boW, h2, Nat.not_le.mpr h2, h5, Int32.not_le.mp h5, if_true, if_false]; done) | (simp only [boW, h2, Nat.not_le.mpr h2, h5, Int32.not_le.mp h5, if_true, if_false]; rfl)) ?_
      exact ih_i (by omega)

abbrev r_X8_asksPlan : Room := { frames := 2, cells := 0, slots := 0, locals := 43 }
set_option maxRecDepth 4000 in
theorem c_X8_asksPlan {l : Launch} {G : GG} {a : AD} {s t s0 : SS} {L : List (Nat × Nat)} {nc : Nat} (hst : l.stackTraces = false) (hG : GOK G) (hL : Live L s0) (x : Int32) (m : Int32) (r_ : Int32) (hc : t 21 0 = nI nc) (hc30 : nc ≤ 30) : Mth l yX8_asksPlan cX8_asksPlan 5 (Option.some Jvm.ClassFile.FieldType.boolean) r_X8_asksPlan G (wl a (E G.2.2.1 a s t) L) [.ref (a 0 0), .int x, .int m, .int r_] (RI (.int (bI (apE t x m r_ = 0))) (wl a (E G.2.2.1 a s (su t 45 0 (apE t x m r_))) L) (True)) nX := by
  refine mth_of rfl (Nat.le_of_ble_eq_true rfl) hst hG (fun X hX C0 => ?_)
  subst hX
  have C : Cx X G cX8_asksPlan 5 RX8 (Option.some Jvm.ClassFile.FieldType.boolean) r_X8_asksPlan "asksPlan" [] := C0
  clear C0
  show V X G 5 _ 0 0 _ 0 [(0, .ref (a 0 0)), (1, .int (x)), (2, .int (m)), (3, .int (r_))] []
  refine v_aload_n C dX8_asksPlan_0 rfl 0 rfl ?_
  refine v_iload_n C dX8_asksPlan_1 rfl 1 rfl ?_
  refine w_invVr C [.int (x)] 0 0 L_X8_230 (c_X8_isClaim (s := s) (t := t)  hst hG hL x) (m0 (s := s) (t := t) (g := G.2.2.1) hL) rfl rfl rfl rfl dX8_asksPlan_2 rfl kx_no (fun h1 => ?_)
  refine v_ifB_eq C (t := 16) dX8_asksPlan_5 rfl rfl (fun h2 => ?_) (fun h2 => ?_)
  · skip
    refine v_iconst C (v := 0) dX8_asksPlan_16 rfl rfl ?_
    refine v_istore C (lv1 := [(4, .int (0)), (0, .ref (a 0 0)), (1, .int (x)), (2, .int (m)), (3, .int (r_))]) dX8_asksPlan_17 rfl (by decide) rfl ?_
    refine v_aload_n C dX8_asksPlan_19 rfl 1 rfl ?_
    refine v_iload C dX8_asksPlan_20 rfl 0 rfl ?_
    refine v_if_ne C (t := 29) dX8_asksPlan_22 rfl rfl (fun h => absurd h (by decide)) (fun _ => ?_)
    refine v_iconst C (v := 1) dX8_asksPlan_25 rfl rfl ?_
    refine v_goto C (q := 55) dX8_asksPlan_26 rfl ?_
    refine w_invVr C [.int (1)] 0 0 L_X8_145 (c_X8_holdsTo (s := s) (t := t)  hst hG hL 1) (m0 (s := s) (t := t) (g := G.2.2.1) hL) rfl rfl rfl rfl dX8_asksPlan_55 rfl kx_no (fun h3 => ?_)
    exact v_zret C bI_z (by decide) (by decide) dX8_asksPlan_58 ⟨congrArg (fun z => some (Value.int z)) (by first | rfl | (simp only [h2, apE, bI, pM, pU, n10, n20, n30, n0, if_true, if_false, ite_true, ite_false, not_true_eq_false, not_false_eq_true, and_true, true_and, and_false, false_and, or_true, true_or, or_false, false_or, reduceIte, and_self, or_self, ne_eq, eq_self_iff_true]; first | done | rfl) | (simp [bI, h2, apE]; done) | (simp only [apE, bI, ← Int32.not_le] at *; simp [h2]; done) | (simp_all [bI, h2, apE]; done) | (simp_all [bI, h2, apE]; rfl) | (exfalso; omega)), by first | rfl | (simp only [h2, apE, bI, pM, pU, n10, n20, n30, n0, if_true, if_false, ite_true, ite_false, not_true_eq_false, not_false_eq_true, and_true, true_and, and_false, false_and, or_true, true_or, or_false, false_or, reduceIte, and_self, or_self, ne_eq, eq_self_iff_true]; first | done | rfl) | (simp [bI, h2, apE]; done) | (simp only [apE, bI, ← Int32.not_le] at *; simp [h2]; done) | (simp_all [bI, h2, apE]; done) | (simp_all [bI, h2, apE]; rfl) | (exfalso; omega), by trivial⟩
  · skip
    refine v_iload_n C dX8_asksPlan_8 rfl 3 rfl ?_
    refine v_if_eq C (t := 16) dX8_asksPlan_9 rfl rfl (fun h4 => ?_) (fun h4 => ?_)
    · skip
      refine v_iconst C (v := 0) dX8_asksPlan_16 rfl rfl ?_
      refine v_istore C (lv1 := [(4, .int (0)), (0, .ref (a 0 0)), (1, .int (x)), (2, .int (m)), (3, .int (r_))]) dX8_asksPlan_17 rfl (by decide) rfl ?_
      refine v_aload_n C dX8_asksPlan_19 rfl 1 rfl ?_
      refine v_iload C dX8_asksPlan_20 rfl 0 rfl ?_
      refine v_if_ne C (t := 29) dX8_asksPlan_22 rfl rfl (fun h => absurd h (by decide)) (fun _ => ?_)
      refine v_iconst C (v := 1) dX8_asksPlan_25 rfl rfl ?_
      refine v_goto C (q := 55) dX8_asksPlan_26 rfl ?_
      refine w_invVr C [.int (1)] 0 0 L_X8_145 (c_X8_holdsTo (s := s) (t := t)  hst hG hL 1) (m0 (s := s) (t := t) (g := G.2.2.1) hL) rfl rfl rfl rfl dX8_asksPlan_55 rfl kx_no (fun h5 => ?_)
      exact v_zret C bI_z (by decide) (by decide) dX8_asksPlan_58 ⟨congrArg (fun z => some (Value.int z)) (by first | rfl | (simp only [h2, eq_true h4, apE, bI, pM, pU, n10, n20, n30, n0, if_true, if_false, ite_true, ite_false, not_true_eq_false, not_false_eq_true, and_true, true_and, and_false, false_and, or_true, true_or, or_false, false_or, reduceIte, and_self, or_self, ne_eq, eq_self_iff_true]; first | done | rfl) | (simp [bI, h2, eq_true h4, apE]; done) | (simp only [apE, bI, ← Int32.not_le] at *; simp [h2, eq_true h4]; done) | (simp_all [bI, h2, eq_true h4, apE]; done) | (simp_all [bI, h2, eq_true h4, apE]; rfl) | (exfalso; omega)), by first | rfl | (simp only [h2, eq_true h4, apE, bI, pM, pU, n10, n20, n30, n0, if_true, if_false, ite_true, ite_false, not_true_eq_false, not_false_eq_true, and_true, true_and, and_false, false_and, or_true, true_or, or_false, false_or, reduceIte, and_self, or_self, ne_eq, eq_self_iff_true]; first | done | rfl) | (simp [bI, h2, eq_true h4, apE]; done) | (simp only [apE, bI, ← Int32.not_le] at *; simp [h2, eq_true h4]; done) | (simp_all [bI, h2, eq_true h4, apE]; done) | (simp_all [bI, h2, eq_true h4, apE]; rfl) | (exfalso; omega), by trivial⟩
    · skip
      refine v_iconst C (v := 1) dX8_asksPlan_12 rfl rfl ?_
      refine v_goto C (q := 17) dX8_asksPlan_13 rfl ?_
      refine v_istore C (lv1 := [(4, .int (1)), (0, .ref (a 0 0)), (1, .int (x)), (2, .int (m)), (3, .int (r_))]) dX8_asksPlan_17 rfl (by decide) rfl ?_
      refine v_aload_n C dX8_asksPlan_19 rfl 1 rfl ?_
      refine v_iload C dX8_asksPlan_20 rfl 0 rfl ?_
      refine v_if_ne C (t := 29) dX8_asksPlan_22 rfl rfl (fun _ => ?_) (fun h => absurd h (by decide))
      refine v_iload_n C dX8_asksPlan_29 rfl 3 rfl ?_
      refine w_invSr C [.int (m)] 0 0 L_X8_189 (c_X8_isMethod (s := s) (t := t)  hst hG hL m) rfl rfl rfl dX8_asksPlan_30 rfl kx_no (fun h6 => ?_)
      refine v_ifB_ne C (t := 40) dX8_asksPlan_33 rfl rfl (fun h7 => ?_) (fun h7 => ?_)
      · skip
        refine v_aload_n C dX8_asksPlan_40 rfl 1 rfl ?_
        refine v_get C (v := .ref (a 1 24)) g_X8_65 (m0 (s := s) (t := t) (g := G.2.2.1) hL) (rg (by decide) rfl) dX8_asksPlan_41 rfl ?_
        refine v_iload_n C dX8_asksPlan_44 rfl 2 rfl ?_
        refine v_iald C (len := 30) (m1 (s := s) (t := t) (g := G.2.2.1) hL 24 rfl) (vp_cnt (by assumption) hc hc30 (by decide)) dX8_asksPlan_45 rfl ?_
        refine v_iconst C (v := 5) dX8_asksPlan_46 rfl rfl ?_
        refine v_icmp_le C (t := 54) dX8_asksPlan_47 rfl rfl (fun h8 => ?_) (fun h8 => ?_)
        · skip
          refine v_iconst C (v := 0) dX8_asksPlan_54 rfl rfl ?_
          refine w_invVr C [.int (0)] 0 0 L_X8_145 (c_X8_holdsTo (s := s) (t := t)  hst hG hL 0) (m0 (s := s) (t := t) (g := G.2.2.1) hL) rfl rfl rfl rfl dX8_asksPlan_55 rfl kx_no (fun h9 => ?_)
          exact v_zret C bI_z (by decide) (by decide) dX8_asksPlan_58 ⟨congrArg (fun z => some (Value.int z)) (by first | rfl | (simp only [h2, h4, h7, h8, Int32.not_lt.mpr h8, apE, bI, pM, pU, n10, n20, n30, n0, if_true, if_false, ite_true, ite_false, not_true_eq_false, not_false_eq_true, and_true, true_and, and_false, false_and, or_true, true_or, or_false, false_or, reduceIte, and_self, or_self, ne_eq, eq_self_iff_true]; first | done | rfl) | (simp [bI, h2, h4, h7, h8, Int32.not_lt.mpr h8, apE]; done) | (simp only [apE, bI, ← Int32.not_le] at *; simp [h2, h4, h7, h8, Int32.not_lt.mpr h8]; done) | (simp_all [bI, h2, h4, h7, h8, Int32.not_lt.mpr h8, apE]; done) | (simp_all [bI, h2, h4, h7, h8, Int32.not_lt.mpr h8, apE]; rfl) | (exfalso; omega)), by first | rfl | (simp only [h2, h4, h7, h8, Int32.not_lt.mpr h8, apE, bI, pM, pU, n10, n20, n30, n0, if_true, if_false, ite_true, ite_false, not_true_eq_false, not_false_eq_true, and_true, true_and, and_false, false_and, or_true, true_or, or_false, false_or, reduceIte, and_self, or_self, ne_eq, eq_self_iff_true]; first | done | rfl) | (simp [bI, h2, h4, h7, h8, Int32.not_lt.mpr h8, apE]; done) | (simp only [apE, bI, ← Int32.not_le] at *; simp [h2, h4, h7, h8, Int32.not_lt.mpr h8]; done) | (simp_all [bI, h2, h4, h7, h8, Int32.not_lt.mpr h8, apE]; done) | (simp_all [bI, h2, h4, h7, h8, Int32.not_lt.mpr h8, apE]; rfl) | (exfalso; omega), by trivial⟩
        · skip
          refine v_iconst C (v := 3) dX8_asksPlan_50 rfl rfl ?_
          refine v_goto C (q := 55) dX8_asksPlan_51 rfl ?_
          refine w_invVr C [.int (3)] 0 0 L_X8_145 (c_X8_holdsTo (s := s) (t := t)  hst hG hL 3) (m0 (s := s) (t := t) (g := G.2.2.1) hL) rfl rfl rfl rfl dX8_asksPlan_55 rfl kx_no (fun h10 => ?_)
          exact v_zret C bI_z (by decide) (by decide) dX8_asksPlan_58 ⟨congrArg (fun z => some (Value.int z)) (by first | rfl | (simp only [h2, h4, h7, h8, Int32.not_le.mp h8, apE, bI, pM, pU, n10, n20, n30, n0, if_true, if_false, ite_true, ite_false, not_true_eq_false, not_false_eq_true, and_true, true_and, and_false, false_and, or_true, true_or, or_false, false_or, reduceIte, and_self, or_self, ne_eq, eq_self_iff_true]; first | done | rfl) | (simp [bI, h2, h4, h7, h8, Int32.not_le.mp h8, apE]; done) | (simp only [apE, bI, ← Int32.not_le] at *; simp [h2, h4, h7, h8, Int32.not_le.mp h8]; done) | (simp_all [bI, h2, h4, h7, h8, Int32.not_le.mp h8, apE]; done) | (simp_all [bI, h2, h4, h7, h8, Int32.not_le.mp h8, apE]; rfl) | (exfalso; omega)), by first | rfl | (simp only [h2, h4, h7, h8, Int32.not_le.mp h8, apE, bI, pM, pU, n10, n20, n30, n0, if_true, if_false, ite_true, ite_false, not_true_eq_false, not_false_eq_true, and_true, true_and, and_false, false_and, or_true, true_or, or_false, false_or, reduceIte, and_self, or_self, ne_eq, eq_self_iff_true]; first | done | rfl) | (simp [bI, h2, h4, h7, h8, Int32.not_le.mp h8, apE]; done) | (simp only [apE, bI, ← Int32.not_le] at *; simp [h2, h4, h7, h8, Int32.not_le.mp h8]; done) | (simp_all [bI, h2, h4, h7, h8, Int32.not_le.mp h8, apE]; done) | (simp_all [bI, h2, h4, h7, h8, Int32.not_le.mp h8, apE]; rfl) | (exfalso; omega), by trivial⟩
      · skip
        refine v_iconst C (v := 2) dX8_asksPlan_36 rfl rfl ?_
        refine v_goto C (q := 55) dX8_asksPlan_37 rfl ?_
        refine w_invVr C [.int (2)] 0 0 L_X8_145 (c_X8_holdsTo (s := s) (t := t)  hst hG hL 2) (m0 (s := s) (t := t) (g := G.2.2.1) hL) rfl rfl rfl rfl dX8_asksPlan_55 rfl kx_no (fun h11 => ?_)
        exact v_zret C bI_z (by decide) (by decide) dX8_asksPlan_58 ⟨congrArg (fun z => some (Value.int z)) (by first | rfl | (simp only [h2, h4, h7, apE, bI, pM, pU, n10, n20, n30, n0, if_true, if_false, ite_true, ite_false, not_true_eq_false, not_false_eq_true, and_true, true_and, and_false, false_and, or_true, true_or, or_false, false_or, reduceIte, and_self, or_self, ne_eq, eq_self_iff_true]; first | done | rfl) | (simp [bI, h2, h4, h7, apE]; done) | (simp only [apE, bI, ← Int32.not_le] at *; simp [h2, h4, h7]; done) | (simp_all [bI, h2, h4, h7, apE]; done) | (simp_all [bI, h2, h4, h7, apE]; rfl) | (exfalso; omega)), by first | rfl | (simp only [h2, h4, h7, apE, bI, pM, pU, n10, n20, n30, n0, if_true, if_false, ite_true, ite_false, not_true_eq_false, not_false_eq_true, and_true, true_and, and_false, false_and, or_true, true_or, or_false, false_or, reduceIte, and_self, or_self, ne_eq, eq_self_iff_true]; first | done | rfl) | (simp [bI, h2, h4, h7, apE]; done) | (simp only [apE, bI, ← Int32.not_le] at *; simp [h2, h4, h7]; done) | (simp_all [bI, h2, h4, h7, apE]; done) | (simp_all [bI, h2, h4, h7, apE]; rfl) | (exfalso; omega), by trivial⟩

