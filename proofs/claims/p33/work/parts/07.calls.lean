theorem xx_monoX {X : XS} {G : GG} {nL : Nat} {w : va_W} {k n k' n' : Nat} {Q : State → Prop} {pc : Nat} {lv : List (Nat × Value)} {E : String} (h1 : k ≤ k') (h2 : n ≤ n') (kk : VX X G nL w k' n' Q pc lv E) : VX X G nL w k n Q pc lv E :=
  fun H locs ls q ce rest hP hD hS hl a b c => vx_widen h1 h2 (kk H locs ls q ce rest hP hD hS hl a b c)
/-- all that is to be counted at a call -/
def nck (rm1 rm : Room) (nL1 k n k1 n1 : Nat) (st : List Value) : Bool := Nat.ble (rm1.frames + 1) rm.frames && (Nat.ble (8 + (nL1 + 11) + rm1.locals) rm.locals && (Nat.ble (k + rm1.cells) k1 && (Nat.ble k1 rm.cells && (Nat.ble (n + rm1.slots) n1 && (Nat.ble n1 rm.slots && Nat.ble ((st.map fun v => v.category).sum) 8)))))
theorem nck_of {rm1 rm : Room} {nL1 k n k1 n1 : Nat} {st : List Value} (h : nck rm1 rm nL1 k n k1 n1 st = true) : (rm1.frames + 1 ≤ rm.frames ∧ 8 + (nL1 + 11) + rm1.locals ≤ rm.locals) ∧ (k + rm1.cells ≤ k1 ∧ n + rm1.slots ≤ n1) ∧ (k + rm1.cells ≤ rm.cells ∧ n + rm1.slots ≤ rm.slots) ∧ (st.map fun v => v.category).sum ≤ 8 := by
  simp only [nck, Bool.and_eq_true, Nat.ble_eq] at h
  obtain ⟨h1, h2, h3, h4, h5, h6, h7⟩ := h
  exact ⟨⟨h1, h2⟩, ⟨h3, h5⟩, ⟨Nat.le_trans h3 h4, Nat.le_trans h5 h6⟩, h7⟩
section VC2
variable {X : XS} {G : GG} {cc : ByteArray} {nL : Nat} {own : String} {ret : Option FieldType} {rm : Room} {nm : String} {tb : List ExceptionTableEntry} {w w' : va_W} {k n : Nat} {Q : State → Prop} {pc q : Nat} {lv : List (Nat × Value)} {st : List Value}
/-- a virtual call -/
theorem w_invV (C : Cx X G cc nL own ret rm nm tb) {i nL1 np : Nat} {y : MethodName} {cc1 : ByteArray} {ret1 : Option FieldType} {rm1 : Room} {R : Option Value → va_W → Prop} {XP : String → va_W → Prop} {b ci : Nat} {fs st0 : List Value} (As : List Value) (k1 n1 : Nat) (L : LkV own i y cc1 nL1 ret1 np) (hM : Mth X.2.1 y cc1 nL1 ret1 rm1 G w (.ref b :: As) R XP) (hm : (b, Sum.inr (ci, fs)) ∈ w) (hcl : (vwCl[ci]?).map (fun r => r.1) = some y.cls)
    (hnp : As.length = np) (hst0 : st0 = As.reverse ++ .ref b :: st) (hc : nck rm1 rm nL1 k n k1 n1 st = true) (d : decode cc pc = .ok (.invokevirtual i, 3)) (hq : pc + 3 = q)
    (kx : ∀ (E : String) (w1 : va_W), XP E w1 → VX X G nL w1 k1 n1 Q pc lv E) (kk : ∀ (v : Option Value) (w1 : va_W), R v w1 → V X G nL w1 k1 n1 Q q lv (v.toList ++ st)) : V X G nL w k n Q pc lv st0 := by
  obtain ⟨h1, ⟨h2, h3⟩, h4, h5⟩ := nck_of hc
  exact v_invV C L hM hm hcl hnp hst0 h1 h4 h5 d hq (fun E w1 h => xx_monoX h2 h3 (kx E w1 h)) (fun v w1 h => xx_mono h2 h3 (kk v w1 h))
/-- .. of a constant object -/
theorem w_invS (C : Cx X G cc nL own ret rm nm tb) {i nL1 np : Nat} {y : MethodName} {cc1 : ByteArray} {ret1 : Option FieldType} {rm1 : Room} {R : Option Value → va_W → Prop} {XP : String → va_W → Prop} {st0 : List Value} (As : List Value) (k1 n1 : Nat) (L : LkS own i y cc1 nL1 ret1 np) (hM : Mth X.2.1 y cc1 nL1 ret1 rm1 G w As R XP)
    (hnp : As.length = np) (hst0 : st0 = As.reverse ++ st) (hc : nck rm1 rm nL1 k n k1 n1 st = true) (d : decode cc pc = .ok (.invokestatic i, 3)) (hq : pc + 3 = q)
    (kx : ∀ (E : String) (w1 : va_W), XP E w1 → VX X G nL w1 k1 n1 Q pc lv E) (kk : ∀ (v : Option Value) (w1 : va_W), R v w1 → V X G nL w1 k1 n1 Q q lv (v.toList ++ st)) : V X G nL w k n Q pc lv st0 := by
  obtain ⟨h1, ⟨h2, h3⟩, h4, h5⟩ := nck_of hc
  exact v_invS C L hM hnp hst0 h1 h4 h5 d hq (fun E w1 h => xx_monoX h2 h3 (kx E w1 h)) (fun v w1 h => xx_mono h2 h3 (kk v w1 h))
theorem w_invSN (C : Cx X G cc nL own ret rm nm tb) {i nL1 np : Nat} {y : MethodName} {cc1 : ByteArray} {ret1 : Option FieldType} {rm1 : Room} {R : Option Value → va_W → Prop} {st0 : List Value} (As : List Value) (k1 n1 : Nat) (L : LkSN own i y cc1 nL1 ret1 np) (hM : Mth X.2.1 y cc1 nL1 ret1 rm1 G w As R nX)
    (hnp : As.length = np) (hst0 : st0 = As.reverse ++ st) (hc : nck rm1 rm nL1 k n k1 n1 st = true) (d : decode cc pc = .ok (.invokestatic i, 3)) (hq : pc + 3 = q)
    (kk : ∀ (v : Option Value) (w1 : va_W), R v w1 → V X G nL w1 k1 n1 Q q lv (v.toList ++ st)) : V X G nL w k n Q pc lv st0 := by
  obtain ⟨h1, ⟨h2, h3⟩, h4, h5⟩ := nck_of hc
  exact v_invSN C L hM hnp hst0 h1 h4 h5 d hq (fun v w1 h => xx_mono h2 h3 (kk v w1 h))
theorem w_invI (C : Cx X G cc nL own ret rm nm tb) {i nL1 np : Nat} {y : MethodName} {cc1 : ByteArray} {rm1 : Room} {R : Option Value → va_W → Prop} {b : Nat} {st0 : List Value} (As : List Value) (k1 n1 : Nat) (L : LkI own i y cc1 nL1 np) (hM : Mth X.2.1 y cc1 nL1 none rm1 G w (.ref b :: As) R nX)
    (hnp : As.length = np) (hst0 : st0 = As.reverse ++ .ref b :: st) (hc : nck rm1 rm nL1 k n k1 n1 st = true) (d : decode cc pc = .ok (.invokespecial i, 3)) (hq : pc + 3 = q)
    (kk : ∀ (v : Option Value) (w1 : va_W), R v w1 → V X G nL w1 k1 n1 Q q lv (v.toList ++ st)) : V X G nL w k n Q pc lv st0 := by
  obtain ⟨h1, ⟨h2, h3⟩, h4, h5⟩ := nck_of hc
  exact v_invI C L hM hnp hst0 h1 h4 h5 d hq (fun v w1 h => xx_mono h2 h3 (kk v w1 h))
/-- nothing can come out by a throw -/
theorem kx_no {k1 n1 : Nat} : ∀ (E : String) (w1 : va_W), nX E w1 → VX X G nL w1 k1 n1 Q pc lv E := fun _ _ h => absurd h (fun z => z)
theorem kx_out {R : Option Value → va_W → Prop} {XP XP1 : String → va_W → Prop} {k1 n1 : Nat} (C : Cx X G cc nL own ret rm nm []) (hc : (Nat.ble k1 rm.cells && Nat.ble n1 rm.slots) = true) (h : ∀ (E : String) (w1 : va_W), XP1 E w1 → XP E w1) : ∀ (E : String) (w1 : va_W), XP1 E w1 → VX X G nL w1 k1 n1 (Tg X G rm R XP) pc lv E := by
  simp only [Bool.and_eq_true, Nat.ble_eq] at hc
  exact fun E w1 h1 => v_out C hc.1 hc.2 (h E w1 h1)
/-- a condition as a number -/
def bI (P : Prop) [Decidable P] : Int32 := if P then 1 else 0
theorem bI_t {P : Prop} [Decidable P] (h : P) : bI P = 1 := if_pos h
theorem bI_f {P : Prop} [Decidable P] (h : ¬ P) : bI P = 0 := if_neg h
theorem bI_z {P : Prop} [Decidable P] : narrow .boolean (.int (bI P)) = .int (bI P) := by
  unfold bI
  split <;> rfl
theorem bI_c {P Q : Prop} [Decidable P] [Decidable Q] (h : P ↔ Q) : bI P = bI Q := by
  unfold bI
  by_cases c : P
  · rw [if_pos c, if_pos (h.mp c)]
  · rw [if_neg c, if_neg (fun z => c (h.mpr z))]
theorem bI_e0 {P : Prop} [Decidable P] : bI P = 0 ↔ ¬ P := by
  unfold bI
  split
  · exact ⟨fun h => absurd h (by decide), fun h => absurd (by assumption) h⟩
  · exact ⟨fun _ => by assumption, fun _ => rfl⟩
theorem v_ifB_eq (C : Cx X G cc nL own ret rm nm tb) {P : Prop} [Decidable P] {z : Int} {t : Nat} (d : decode cc pc = .ok (.ifCond .eq z, 3)) (ht : (pc : Int) + z = (t : Int)) (hq : pc + 3 = q) (kt : ¬ P → V X G nL w k n Q t lv st) (kf : P → V X G nL w k n Q q lv st) : V X G nL w k n Q pc lv (.int (bI P) :: st) :=
  v_if_eq C d ht hq (fun h => kt (bI_e0.mp h)) (fun h => kf (Classical.byContradiction fun z => h (bI_e0.mpr z)))
theorem v_ifB_ne (C : Cx X G cc nL own ret rm nm tb) {P : Prop} [Decidable P] {z : Int} {t : Nat} (d : decode cc pc = .ok (.ifCond .ne z, 3)) (ht : (pc : Int) + z = (t : Int)) (hq : pc + 3 = q) (kt : P → V X G nL w k n Q t lv st) (kf : ¬ P → V X G nL w k n Q q lv st) : V X G nL w k n Q pc lv (.int (bI P) :: st) :=
  v_if_ne C d ht hq (fun h => kt (Classical.byContradiction fun z => h (bI_e0.mpr z))) (fun h => kf (bI_e0.mp h))
end VC2
