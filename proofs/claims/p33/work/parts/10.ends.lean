/-! ends in one form: what is answered, the world behind it, what is known then -/
abbrev RI (x : Value) (w2 : va_W) (P : Prop) : Option Value → va_W → Prop := fun v w1 => v = some x ∧ w1 = w2 ∧ P
abbrev RV (w2 : va_W) (P : Prop) : Option Value → va_W → Prop := fun v w1 => v = none ∧ w1 = w2 ∧ P
abbrev XW (PE : String → Prop) (w2 : va_W) : String → va_W → Prop := fun E w1 => PE E ∧ w1 = w2
def xI : String := "java/lang/IndexOutOfBoundsException"
def xA : String := "java/lang/IllegalArgumentException"
def xS : String := "java/lang/IllegalStateException"
/-- which exception, by a number: 1, 2, 3 -/
abbrev PX (e : Nat) (E : String) : Prop := (E = xI ∧ e = 1) ∨ (E = xA ∧ e = 2) ∨ (E = xS ∧ e = 3)
section VC3
variable {X : XS} {G : GG} {cc : ByteArray} {nL : Nat} {own : String} {ret : Option FieldType} {rm : Room} {nm : String} {tb : List ExceptionTableEntry} {w w2 : va_W} {k n : Nat} {Q : State → Prop} {pc q : Nat} {lv : List (Nat × Value)} {st : List Value}
theorem w_invVr (C : Cx X G cc nL own ret rm nm tb) {i nL1 np : Nat} {y : MethodName} {cc1 : ByteArray} {ret1 : Option FieldType} {rm1 : Room} {x : Value} {P : Prop} {XP : String → va_W → Prop} {b ci : Nat} {fs st0 : List Value} (As : List Value) (k1 n1 : Nat) (L : LkV own i y cc1 nL1 ret1 np) (hM : Mth X.2.1 y cc1 nL1 ret1 rm1 G w (.ref b :: As) (RI x w2 P) XP) (hm : (b, Sum.inr (ci, fs)) ∈ w) (hcl : (vwCl[ci]?).map (fun r => r.1) = some y.cls)
    (hnp : As.length = np) (hst0 : st0 = As.reverse ++ .ref b :: st) (hc : nck rm1 rm nL1 k n k1 n1 st = true) (d : decode cc pc = .ok (.invokevirtual i, 3)) (hq : pc + 3 = q)
    (kx : ∀ (E : String) (w1 : va_W), XP E w1 → VX X G nL w1 k1 n1 Q pc lv E) (kk : P → V X G nL w2 k1 n1 Q q lv (x :: st)) : V X G nL w k n Q pc lv st0 :=
  w_invV C As k1 n1 L hM hm hcl hnp hst0 hc d hq kx (fun v w1 h => by obtain ⟨rfl, rfl, h⟩ := h; exact kk h)
theorem w_invVv (C : Cx X G cc nL own ret rm nm tb) {i nL1 np : Nat} {y : MethodName} {cc1 : ByteArray} {ret1 : Option FieldType} {rm1 : Room} {P : Prop} {XP : String → va_W → Prop} {b ci : Nat} {fs st0 : List Value} (As : List Value) (k1 n1 : Nat) (L : LkV own i y cc1 nL1 ret1 np) (hM : Mth X.2.1 y cc1 nL1 ret1 rm1 G w (.ref b :: As) (RV w2 P) XP) (hm : (b, Sum.inr (ci, fs)) ∈ w) (hcl : (vwCl[ci]?).map (fun r => r.1) = some y.cls)
    (hnp : As.length = np) (hst0 : st0 = As.reverse ++ .ref b :: st) (hc : nck rm1 rm nL1 k n k1 n1 st = true) (d : decode cc pc = .ok (.invokevirtual i, 3)) (hq : pc + 3 = q)
    (kx : ∀ (E : String) (w1 : va_W), XP E w1 → VX X G nL w1 k1 n1 Q pc lv E) (kk : P → V X G nL w2 k1 n1 Q q lv st) : V X G nL w k n Q pc lv st0 :=
  w_invV C As k1 n1 L hM hm hcl hnp hst0 hc d hq kx (fun v w1 h => by obtain ⟨rfl, rfl, h⟩ := h; exact kk h)
theorem w_invSr (C : Cx X G cc nL own ret rm nm tb) {i nL1 np : Nat} {y : MethodName} {cc1 : ByteArray} {ret1 : Option FieldType} {rm1 : Room} {x : Value} {P : Prop} {XP : String → va_W → Prop} {st0 : List Value} (As : List Value) (k1 n1 : Nat) (L : LkS own i y cc1 nL1 ret1 np) (hM : Mth X.2.1 y cc1 nL1 ret1 rm1 G w As (RI x w2 P) XP)
    (hnp : As.length = np) (hst0 : st0 = As.reverse ++ st) (hc : nck rm1 rm nL1 k n k1 n1 st = true) (d : decode cc pc = .ok (.invokestatic i, 3)) (hq : pc + 3 = q)
    (kx : ∀ (E : String) (w1 : va_W), XP E w1 → VX X G nL w1 k1 n1 Q pc lv E) (kk : P → V X G nL w2 k1 n1 Q q lv (x :: st)) : V X G nL w k n Q pc lv st0 :=
  w_invS C As k1 n1 L hM hnp hst0 hc d hq kx (fun v w1 h => by obtain ⟨rfl, rfl, h⟩ := h; exact kk h)
theorem w_invSv (C : Cx X G cc nL own ret rm nm tb) {i nL1 np : Nat} {y : MethodName} {cc1 : ByteArray} {ret1 : Option FieldType} {rm1 : Room} {P : Prop} {XP : String → va_W → Prop} {st0 : List Value} (As : List Value) (k1 n1 : Nat) (L : LkS own i y cc1 nL1 ret1 np) (hM : Mth X.2.1 y cc1 nL1 ret1 rm1 G w As (RV w2 P) XP)
    (hnp : As.length = np) (hst0 : st0 = As.reverse ++ st) (hc : nck rm1 rm nL1 k n k1 n1 st = true) (d : decode cc pc = .ok (.invokestatic i, 3)) (hq : pc + 3 = q)
    (kx : ∀ (E : String) (w1 : va_W), XP E w1 → VX X G nL w1 k1 n1 Q pc lv E) (kk : P → V X G nL w2 k1 n1 Q q lv st) : V X G nL w k n Q pc lv st0 :=
  w_invS C As k1 n1 L hM hnp hst0 hc d hq kx (fun v w1 h => by obtain ⟨rfl, rfl, h⟩ := h; exact kk h)
theorem w_invSNr (C : Cx X G cc nL own ret rm nm tb) {i nL1 np : Nat} {y : MethodName} {cc1 : ByteArray} {ret1 : Option FieldType} {rm1 : Room} {x : Value} {P : Prop} {st0 : List Value} (As : List Value) (k1 n1 : Nat) (L : LkSN own i y cc1 nL1 ret1 np) (hM : Mth X.2.1 y cc1 nL1 ret1 rm1 G w As (RI x w2 P) nX)
    (hnp : As.length = np) (hst0 : st0 = As.reverse ++ st) (hc : nck rm1 rm nL1 k n k1 n1 st = true) (d : decode cc pc = .ok (.invokestatic i, 3)) (hq : pc + 3 = q)
    (kk : P → V X G nL w2 k1 n1 Q q lv (x :: st)) : V X G nL w k n Q pc lv st0 :=
  w_invSN C As k1 n1 L hM hnp hst0 hc d hq (fun v w1 h => by obtain ⟨rfl, rfl, h⟩ := h; exact kk h)
theorem xx_cg {lv' : List (Nat × Value)} (h : lv = lv') (kk : V X G nL w k n Q pc lv' st) : V X G nL w k n Q pc lv st := h ▸ kk
theorem xx_st {st' : List Value} (h : st = st') (kk : V X G nL w k n Q pc lv st') : V X G nL w k n Q pc lv st := h ▸ kk
/-- a loop that counts up to N -/
theorem xx_loop (N i0 : Nat) (Wf : Nat → va_W) (lvf : Nat → List (Nat × Value)) (h : i0 ≤ N) (body : ∀ i, i0 ≤ i → i ≤ N → (i < N → V X G nL (Wf (i + 1)) k n Q pc (lvf (i + 1)) st) → V X G nL (Wf i) k n Q pc (lvf i) st) : V X G nL (Wf i0) k n Q pc (lvf i0) st := by
  have key : ∀ m i, i0 ≤ i → i + m = N → V X G nL (Wf i) k n Q pc (lvf i) st := by
    intro m
    induction m with
    | zero => exact fun i h0 hi => body i h0 (by omega) (fun h => absurd h (by omega))
    | succ m ih => exact fun i h0 hi => body i h0 (by omega) (fun _ => ih (i + 1) (by omega) (by omega))
  exact key (N - i0) i0 (Nat.le_refl _) (by omega)
theorem v_ialdE (C : Cx X G cc nL own ret rm nm tb) {a len : Nat} {f : Nat → Int32} {i : Int32} (j : Nat) (hm : (a, Sum.inl (G.2.2.1 0, len, Sum.inl f)) ∈ w) (he : i.toNatClampNeg = j) (hin : vp_in i len) (d : decode cc pc = .ok (.iaload, 1)) (hq : pc + 1 = q)
    (kk : V X G nL w k n Q q lv (.int (f j) :: st)) : V X G nL w k n Q pc lv (.int i :: .ref a :: st) := by
  subst he
  exact v_iald C hm hin d hq kk
theorem v_iastE (C : Cx X G cc nL own ret rm nm tb) {a len : Nat} {f : Nat → Int32} {i x : Int32} (j : Nat) (hs : ∃ q0 : Nat, w[q0]? = some (a, Sum.inl (G.2.2.1 0, len, Sum.inl f)) ∧ w.set q0 (a, Sum.inl (G.2.2.1 0, len, Sum.inl (upd f j x))) = w2) (he : i.toNatClampNeg = j) (hin : vp_in i len) (d : decode cc pc = .ok (.iastore, 1)) (hq : pc + 1 = q)
    (kk : V X G nL w2 k n Q q lv st) : V X G nL w k n Q pc lv (.int x :: .int i :: .ref a :: st) := by
  subst he
  exact v_iast C hs hin d hq kk
end VC3
theorem rg {f : Nat → Value} {N j : Nat} {v : Value} (h : j < N) (hv : f j = v) : ((List.range N).map f)[j]? = some v := by
  rw [List.getElem?_map, List.getElem?_range h, ← hv]; rfl
theorem rg_len {f : Nat → Value} {N j : Nat} (h : j < N) : j < ((List.range N).map f).length := by
  rw [List.length_map, List.length_range]; exact h
section WM
variable {g : Nat → Nat} {a : AD} {s t s0 : SS} {L : List (Nat × Nat)}
theorem m1 (hL : Live L s0) (j : Nat) (hj : mA j = true) : (a 1 j, Sum.inl (g 0, mN j, Sum.inl (t j))) ∈ wl a (E g a s t) L := wl_mem (F := E g a s t) (inL hL (k := 1) hj)
theorem m2 (hL : Live L s0) : (a 2 0, Sum.inr (7, (List.range 12).map (cF a s))) ∈ wl a (E g a s t) L := wl_mem (F := E g a s t) (inL hL (k := 2) rfl)
theorem m3 (hL : Live L s0) : (a 3 0, Sum.inr (2, [.ref (a 8 0), .ref (a 8 1), .int (s 6 0), .int (s 8 0)])) ∈ wl a (E g a s t) L := wl_mem (F := E g a s t) (inL hL (k := 3) rfl)
theorem m4 (hL : Live L s0) : (a 4 0, Sum.inr (6, [.ref (a 8 2), .ref (a 8 3), .int (s 5 0)])) ∈ wl a (E g a s t) L := wl_mem (F := E g a s t) (inL hL (k := 4) rfl)
theorem m5 (hL : Live L s0) : (a 5 0, Sum.inr (5, [.ref (a 8 4)])) ∈ wl a (E g a s t) L := wl_mem (F := E g a s t) (inL hL (k := 5) rfl)
theorem m6 (hL : Live L s0) (i : Nat) (hi : i < 3) : (a 6 i, Sum.inr (0, [.int (s 55 i), .ref (a 16 i), .int (s (lI i) 0)])) ∈ wl a (E g a s t) L := wl_mem (F := E g a s t) (inL hL (k := 6) hi)
theorem m8 (hL : Live L s0) (i : Nat) (hi : i < 5) : (a 8 i, Sum.inl (g 0, gN i, Sum.inl (s (gI i)))) ∈ wl a (E g a s t) L := wl_mem (F := E g a s t) (inL hL (k := 8) hi)
theorem m9 (hL : Live L s0) (i : Nat) (hi : i < tn (s0 12 0)) : (a 9 i, Sum.inr (3, (List.range 9).map (nF a s i))) ∈ wl a (E g a s t) L := wl_mem (F := E g a s t) (inL hL (k := 9) hi)
theorem m10 (hL : Live L s0) (i : Nat) (hi : i < tn (s0 12 0)) : (a 10 i, Sum.inl (g 0, 12, Sum.inl (rw_ 12 (s 20) i))) ∈ wl a (E g a s t) L := wl_mem (F := E g a s t) (inL hL (k := 10) hi)
theorem m11 (hL : Live L s0) (i : Nat) (hi : i < tn (s0 12 0)) : (a 11 i, Sum.inl (g 0, 40, Sum.inl (rw_ 40 (s 52) i))) ∈ wl a (E g a s t) L := wl_mem (F := E g a s t) (inL hL (k := 11) hi)
theorem m12 (hL : Live L s0) (i : Nat) (hi : i < tn (s0 21 0)) : (a 12 i, Sum.inr (1, (List.range 11).map (fun j => Value.int (s (kI j) i)))) ∈ wl a (E g a s t) L := wl_mem (F := E g a s t) (inL hL (k := 12) hi)
theorem m13 (hL : Live L s0) (i : Nat) (hi : i < tn (s0 33 0)) : (a 13 i, Sum.inr (4, [.int (s 34 i), .int (s 35 i)])) ∈ wl a (E g a s t) L := wl_mem (F := E g a s t) (inL hL (k := 13) hi)
end WM
