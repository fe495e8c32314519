section LN
variable {X : XS} {G : GG} {cc : ByteArray} {nL : Nat} {own : String} {ret : Option FieldType} {rm : Room} {nm : String} {tb : List ExceptionTableEntry} {w w2 : va_W} {k n : Nat} {Q : State → Prop} {pc q : Nat} {lv : List (Nat × Value)} {st : List Value}
theorem nI_z {a : Nat} (ha : a < 2 ^ 31) : nI a = 0 ↔ a = 0 := nI_eq (b := 0) ha (by omega)
theorem nI_p {a : Nat} (ha : a < 2 ^ 31) : 0 < nI a ↔ 0 < a := nI_ltI (a := 0) (by omega) ha
theorem v_ifN_eq (C : Cx X G cc nL own ret rm nm tb) {x : Int32} {z : Int} {t : Nat} (a : Nat) (hx : x = nI a) (ha : a < 2 ^ 31) (d : decode cc pc = .ok (.ifCond .eq z, 3)) (ht : (pc : Int) + z = (t : Int)) (hq : pc + 3 = q) (kt : a = 0 → V X G nL w k n Q t lv st) (kf : ¬ a = 0 → V X G nL w k n Q q lv st) : V X G nL w k n Q pc lv (.int x :: st) := by
  subst hx
  exact v_if_eq C d ht hq (fun h => kt ((nI_z ha).mp h)) (fun h => kf fun z => h ((nI_z ha).mpr z))
theorem v_ifN_ne (C : Cx X G cc nL own ret rm nm tb) {x : Int32} {z : Int} {t : Nat} (a : Nat) (hx : x = nI a) (ha : a < 2 ^ 31) (d : decode cc pc = .ok (.ifCond .ne z, 3)) (ht : (pc : Int) + z = (t : Int)) (hq : pc + 3 = q) (kt : ¬ a = 0 → V X G nL w k n Q t lv st) (kf : a = 0 → V X G nL w k n Q q lv st) : V X G nL w k n Q pc lv (.int x :: st) := by
  subst hx
  exact v_if_ne C d ht hq (fun h => kt fun z => h ((nI_z ha).mpr z)) (fun h => kf ((nI_z ha).mp h))
theorem v_ifN_gt (C : Cx X G cc nL own ret rm nm tb) {x : Int32} {z : Int} {t : Nat} (a : Nat) (hx : x = nI a) (ha : a < 2 ^ 31) (d : decode cc pc = .ok (.ifCond .gt z, 3)) (ht : (pc : Int) + z = (t : Int)) (hq : pc + 3 = q) (kt : 0 < a → V X G nL w k n Q t lv st) (kf : a = 0 → V X G nL w k n Q q lv st) : V X G nL w k n Q pc lv (.int x :: st) := by
  subst hx
  exact v_if_gt C d ht hq (fun h => kt ((nI_p ha).mp h)) (fun h => kf (Nat.eq_zero_of_not_pos fun z => h ((nI_p ha).mpr z)))
theorem nI_gtN {n : Nat} {c : Int32} (hn : n < 2 ^ 31) (hc : c < 0) : c < nI n := Int32.lt_of_lt_of_le hc (nI_pos' hn)
theorem ng {a : Nat} (ha : a < 1000) : ¬ (0 : Int32) ≤ -1 - nI a := by
  rw [show (-1 : Int32) - nI a = -(nI (a + 1)) from by rw [nI_succ, Int32.neg_add, Int32.sub_eq_add_neg, Int32.sub_eq_add_neg, Int32.add_comm]]
  rw [Int32.le_iff_toInt_le, Int32.toInt_neg, nI_toInt (by omega)]
  have h0 : (0 : Int32).toInt = 0 := by decide
  rw [h0, Int.bmod_eq_of_le (by omega) (by omega)]
  omega
theorem ng0 {a : Nat} (ha : a < 1000) : ¬ (1 : Int32) ≤ 0 - nI a := by
  rw [show (0 : Int32) - nI a = -(nI a) from by rw [Int32.sub_eq_add_neg, Int32.zero_add]]
  rw [Int32.le_iff_toInt_le, Int32.toInt_neg, nI_toInt (by omega)]
  have h0 : (1 : Int32).toInt = 1 := by decide
  rw [h0, Int.bmod_eq_of_le (by omega) (by omega)]
  omega
theorem nle {a b : Nat} (h : b < a) (ha : a < 2 ^ 31) : ¬ nI a ≤ nI b := fun z => by
  have := (nI_leI ha (by omega)).mp z
  omega
/-- a call of one of the law's own methods -/
theorem l_invS (C : Cx X G cc nL RL ret rm nm tb) {i nL1 np : Nat} {y : MethodName} {cc1 : ByteArray} {ret1 : Option FieldType} {rm1 : Room} {R : Option Value → va_W → Prop} {As st0 : List Value} (L : LkS RL i y cc1 nL1 ret1 np) (hM : Mth X.2.1 y cc1 nL1 ret1 rm1 G w As R nX) (hnp : As.length = np) (hst0 : st0 = As.reverse ++ st) (k1 n1 : Nat) (hk : (k + rm1.cells ≤ k1 ∧ k1 ≤ rm.cells) ∧ n + rm1.slots ≤ n1 ∧ n1 ≤ rm.slots) (hf : (Nat.ble (rm1.frames + 1) rm.frames && (Nat.ble (8 + (nL1 + 11) + rm1.locals) rm.locals && Nat.ble ((st.map fun v => v.category).sum) 8)) = true) (d : decode cc pc = .ok (.invokestatic i, 3)) (hq : pc + 3 = q) (kk : ∀ (v : Option Value) (w1 : va_W), R v w1 → V X G nL w1 k1 n1 Q q lv (v.toList ++ st)) : V X G nL w k n Q pc lv st0 := by
  simp only [Bool.and_eq_true, Nat.ble_eq] at hf
  exact v_invS C L hM hnp hst0 ⟨hf.1, hf.2.1⟩ ⟨Nat.le_trans hk.1.1 hk.1.2, Nat.le_trans hk.2.1 hk.2.2⟩ hf.2.2 d hq kx_no (fun v w1 h => xx_mono hk.1.1 hk.2.1 (kk v w1 h))
/-- the script, as it lies ahead of all -/
def ScrG (G : GG) (b L : Nat) (xs : Nat → Int32) : Prop := (∀ (s : State) (H : Heap), G.2.2.2 s H → va_X b L xs s H) ∧ b < G.1 ∧ L ≤ 260
theorem v_sld (C : Cx X G cc nL own ret rm nm tb) {b L : Nat} {xs : Nat → Int32} (S : ScrG G b L xs) (j : Nat) (hj : j < L) (d : decode cc pc = .ok (.iaload, 1)) (hq : pc + 1 = q)
    (kk : V X G nL w k n Q q lv (.int (xs j) :: st)) : V X G nL w k n Q pc lv (.int (nI j) :: .ref b :: st) := by
  subst hq
  obtain ⟨s1, s2, s4⟩ := S
  obtain ⟨p, l, e, R, s, m, args, below, meth, c⟩ := X
  obtain ⟨hx, hb, hml, hown, hts, hst, hlk, hr, hR, hG, hF, hz, hK, hnm, htb⟩ := C
  intro H locs ls hP hD hS hl
  refine va_sld hx hb (s1 _ _ hF) (Nat.lt_of_lt_of_le s2 hz) (fun h => absurd (show G.1 ≤ b from h) (by omega)) hS (pk_in j L hj rfl (by omega)) d ?_
  rw [show (nI j).toNatClampNeg = j from nI_clamp (by omega)]
  exact kk H locs ls hP hD hS hl
theorem v_slen (C : Cx X G cc nL own ret rm nm tb) {b L : Nat} {xs : Nat → Int32} (S : ScrG G b L xs) (d : decode cc pc = .ok (.arraylength, 1)) (hq : pc + 1 = q)
    (kk : V X G nL w k n Q q lv (.int (nI L) :: st)) : V X G nL w k n Q pc lv (.ref b :: st) := by
  subst hq
  obtain ⟨s1, s2, s4⟩ := S
  obtain ⟨p, l, e, R, s, m, args, below, meth, c⟩ := X
  obtain ⟨hx, hb, hml, hown, hts, hst, hlk, hr, hR, hG, hF, hz, hK, hnm, htb⟩ := C
  intro H locs ls hP hD hS hl
  exact va_slen hx hb (s1 _ _ hF) (Nat.lt_of_lt_of_le s2 hz) (fun h => absurd (show G.1 ≤ b from h) (by omega)) hS d (kk H locs ls hP hD hS hl)
end LN
/-- the numbers of what is thrown -/
theorem xL3_1 : ∀ q ∈ L3, q.2 = 1 → xc q.1 = -1791000000 := List.forall_mem_cons.mpr ⟨fun _ => xc_I, List.forall_mem_cons.mpr ⟨fun h => absurd h (by decide), List.forall_mem_cons.mpr ⟨fun h => absurd h (by decide), fun _ h => absurd h List.not_mem_nil⟩⟩⟩
theorem xL3_2 : ∀ q ∈ L3, q.2 = 2 → xc q.1 = -1792000000 := List.forall_mem_cons.mpr ⟨fun h => absurd h (by decide), List.forall_mem_cons.mpr ⟨fun _ => xc_A, List.forall_mem_cons.mpr ⟨fun h => absurd h (by decide), fun _ h => absurd h List.not_mem_nil⟩⟩⟩
theorem xL3_3 : ∀ q ∈ L3, q.2 = 3 → xc q.1 = -1793000000 := List.forall_mem_cons.mpr ⟨fun h => absurd h (by decide), List.forall_mem_cons.mpr ⟨fun h => absurd h (by decide), List.forall_mem_cons.mpr ⟨fun _ => xc_S, fun _ h => absurd h List.not_mem_nil⟩⟩⟩
theorem xLA_1 : ∀ q ∈ LA, q.2 = 1 → xc q.1 = -1792000000 := List.forall_mem_cons.mpr ⟨fun _ => xc_A, fun _ h => absurd h List.not_mem_nil⟩
theorem xLAS_1 : ∀ q ∈ LAS, q.2 = 1 → xc q.1 = -1792000000 := List.forall_mem_cons.mpr ⟨fun _ => xc_A, List.forall_mem_cons.mpr ⟨fun h => absurd h (by decide), fun _ h => absurd h List.not_mem_nil⟩⟩
theorem xLAS_2 : ∀ q ∈ LAS, q.2 = 2 → xc q.1 = -1793000000 := List.forall_mem_cons.mpr ⟨fun h => absurd h (by decide), List.forall_mem_cons.mpr ⟨fun _ => xc_S, fun _ h => absurd h List.not_mem_nil⟩⟩
theorem xLI1_1 : ∀ q ∈ LI1, q.2 = 1 → xc q.1 = -1791000000 := List.forall_mem_cons.mpr ⟨fun _ => xc_I, fun _ h => absurd h List.not_mem_nil⟩
theorem xLIS_1 : ∀ q ∈ LIS, q.2 = 1 → xc q.1 = -1791000000 := List.forall_mem_cons.mpr ⟨fun _ => xc_I, List.forall_mem_cons.mpr ⟨fun h => absurd h (by decide), fun _ h => absurd h List.not_mem_nil⟩⟩
theorem xLIS_2 : ∀ q ∈ LIS, q.2 = 2 → xc q.1 = -1793000000 := List.forall_mem_cons.mpr ⟨fun h => absurd h (by decide), List.forall_mem_cons.mpr ⟨fun _ => xc_S, fun _ h => absurd h List.not_mem_nil⟩⟩
theorem xLIA_1 : ∀ q ∈ LIA, q.2 = 1 → xc q.1 = -1791000000 := List.forall_mem_cons.mpr ⟨fun _ => xc_I, List.forall_mem_cons.mpr ⟨fun h => absurd h (by decide), fun _ h => absurd h List.not_mem_nil⟩⟩
theorem xLIA_2 : ∀ q ∈ LIA, q.2 = 2 → xc q.1 = -1792000000 := List.forall_mem_cons.mpr ⟨fun h => absurd h (by decide), List.forall_mem_cons.mpr ⟨fun _ => xc_A, fun _ h => absurd h List.not_mem_nil⟩⟩
/-- the script's number, its sign cut off -/
theorem and_nn (x : Int32) : Nn (x &&& 2147483647) := Nn.le0 (by
  rw [Int32.le_iff_toInt_le]
  show (0 : Int) ≤ (x.toBitVec &&& 2147483647#32).toInt
  rw [BitVec.toInt_eq_toNat_of_lt]
  · exact Int.natCast_nonneg _
  · rw [BitVec.toNat_and]
    have h := Nat.and_le_right (n := x.toBitVec.toNat) (m := (2147483647#32).toNat)
    have e : (2147483647#32).toNat = 2147483647 := by decide
    omega)
