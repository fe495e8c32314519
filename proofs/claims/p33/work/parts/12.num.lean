section VN
variable {X : XS} {G : GG} {cc : ByteArray} {nL : Nat} {own : String} {ret : Option FieldType} {rm : Room} {nm : String} {tb : List ExceptionTableEntry} {w w2 : va_W} {k n : Nat} {Q : State → Prop} {pc q : Nat} {lv : List (Nat × Value)} {st : List Value}
/-- the same number under another name -/
theorem xx_top {x y : Int32} (h : x = y) (kk : V X G nL w k n Q pc lv (.int y :: st)) : V X G nL w k n Q pc lv (.int x :: st) := h ▸ kk
theorem xx_wc {lv' : List (Nat × Value)} (hw : w = w2) (h : lv = lv') (kk : V X G nL w2 k n Q pc lv' st) : V X G nL w k n Q pc lv st := by
  subst hw
  exact h ▸ kk
theorem v_iaddN (C : Cx X G cc nL own ret rm nm tb) {x y : Int32} (a b : Nat) (hx : x = nI a) (hy : y = nI b) (d : decode cc pc = .ok (.iadd, 1)) (hq : pc + 1 = q) (kk : V X G nL w k n Q q lv (.int (nI (a + b)) :: st)) : V X G nL w k n Q pc lv (.int y :: .int x :: st) :=
  v_iadd C d hq (xx_top (by rw [hx, hy, nI_add]) kk)
theorem v_imulN (C : Cx X G cc nL own ret rm nm tb) {x y : Int32} (a b : Nat) (hx : x = nI a) (hy : y = nI b) (d : decode cc pc = .ok (.imul, 1)) (hq : pc + 1 = q) (kk : V X G nL w k n Q q lv (.int (nI (a * b)) :: st)) : V X G nL w k n Q pc lv (.int y :: .int x :: st) :=
  v_imul C d hq (xx_top (by rw [hx, hy, pk_mul]) kk)
theorem v_isubN (C : Cx X G cc nL own ret rm nm tb) {x y : Int32} (a b : Nat) (hab : b ≤ a) (hx : x = nI a) (hy : y = nI b) (d : decode cc pc = .ok (.isub, 1)) (hq : pc + 1 = q) (kk : V X G nL w k n Q q lv (.int (nI (a - b)) :: st)) : V X G nL w k n Q pc lv (.int y :: .int x :: st) :=
  v_isub C d hq (xx_top (by rw [hx, hy, pk_sub hab]) kk)
theorem v_iincN (C : Cx X G cc nL own ret rm nm tb) {i : Nat} {x : Int32} {lv1 : List (Nat × Value)} (a : Nat) (hx : x = nI a) (d : decode cc pc = .ok (.iinc i 1, 3)) (hq : pc + 3 = q) (j : Nat) (h : lv[j]? = some (i, .int x)) (hn : i < nL) (hl1 : (i, Value.int (nI (a + 1))) :: lv.filter (fun q => !(q.1 == i) && !(q.1 + 1 == i && q.2.category == 2)) = lv1) (kk : V X G nL w k n Q q lv1 st) : V X G nL w k n Q pc lv st :=
  v_iinc C d hq j h (by rw [hx]; exact (nI_succ a).symm) hn hl1 kk
theorem v_icN_eq (C : Cx X G cc nL own ret rm nm tb) {x y : Int32} {z : Int} {t : Nat} (a b : Nat) (hx : x = nI a) (hy : y = nI b) (ha : a < 2 ^ 31) (hb : b < 2 ^ 31) (d : decode cc pc = .ok (.if_icmp .eq z, 3)) (ht : (pc : Int) + z = (t : Int)) (hq : pc + 3 = q) (kt : a = b → V X G nL w k n Q t lv st) (kf : ¬ a = b → V X G nL w k n Q q lv st) : V X G nL w k n Q pc lv (.int y :: .int x :: st) := by
  subst hx hy
  exact v_icmp_eq C d ht hq (fun h => kt ((nI_eq ha hb).mp h)) (fun h => kf fun z => h ((nI_eq ha hb).mpr z))
theorem v_icN_ne (C : Cx X G cc nL own ret rm nm tb) {x y : Int32} {z : Int} {t : Nat} (a b : Nat) (hx : x = nI a) (hy : y = nI b) (ha : a < 2 ^ 31) (hb : b < 2 ^ 31) (d : decode cc pc = .ok (.if_icmp .ne z, 3)) (ht : (pc : Int) + z = (t : Int)) (hq : pc + 3 = q) (kt : ¬ a = b → V X G nL w k n Q t lv st) (kf : a = b → V X G nL w k n Q q lv st) : V X G nL w k n Q pc lv (.int y :: .int x :: st) := by
  subst hx hy
  exact v_icmp_ne C d ht hq (fun h => kt fun z => h ((nI_eq ha hb).mpr z)) (fun h => kf ((nI_eq ha hb).mp h))
theorem v_icN_lt (C : Cx X G cc nL own ret rm nm tb) {x y : Int32} {z : Int} {t : Nat} (a b : Nat) (hx : x = nI a) (hy : y = nI b) (ha : a < 2 ^ 31) (hb : b < 2 ^ 31) (d : decode cc pc = .ok (.if_icmp .lt z, 3)) (ht : (pc : Int) + z = (t : Int)) (hq : pc + 3 = q) (kt : a < b → V X G nL w k n Q t lv st) (kf : b ≤ a → V X G nL w k n Q q lv st) : V X G nL w k n Q pc lv (.int y :: .int x :: st) := by
  subst hx hy
  exact v_icmp_lt C d ht hq (fun h => kt ((nI_ltI ha hb).mp h)) (fun h => kf (Nat.le_of_not_lt fun z => h ((nI_ltI ha hb).mpr z)))
theorem v_icN_ge (C : Cx X G cc nL own ret rm nm tb) {x y : Int32} {z : Int} {t : Nat} (a b : Nat) (hx : x = nI a) (hy : y = nI b) (ha : a < 2 ^ 31) (hb : b < 2 ^ 31) (d : decode cc pc = .ok (.if_icmp .ge z, 3)) (ht : (pc : Int) + z = (t : Int)) (hq : pc + 3 = q) (kt : b ≤ a → V X G nL w k n Q t lv st) (kf : a < b → V X G nL w k n Q q lv st) : V X G nL w k n Q pc lv (.int y :: .int x :: st) := by
  subst hx hy
  exact v_icmp_ge C d ht hq (fun h => kt ((nI_leI hb ha).mp h)) (fun h => kf (Nat.lt_of_not_le fun z => h ((nI_leI hb ha).mpr z)))
theorem v_icN_gt (C : Cx X G cc nL own ret rm nm tb) {x y : Int32} {z : Int} {t : Nat} (a b : Nat) (hx : x = nI a) (hy : y = nI b) (ha : a < 2 ^ 31) (hb : b < 2 ^ 31) (d : decode cc pc = .ok (.if_icmp .gt z, 3)) (ht : (pc : Int) + z = (t : Int)) (hq : pc + 3 = q) (kt : b < a → V X G nL w k n Q t lv st) (kf : a ≤ b → V X G nL w k n Q q lv st) : V X G nL w k n Q pc lv (.int y :: .int x :: st) := by
  subst hx hy
  exact v_icmp_gt C d ht hq (fun h => kt ((nI_ltI hb ha).mp h)) (fun h => kf (Nat.le_of_not_lt fun z => h ((nI_ltI hb ha).mpr z)))
theorem v_icN_le (C : Cx X G cc nL own ret rm nm tb) {x y : Int32} {z : Int} {t : Nat} (a b : Nat) (hx : x = nI a) (hy : y = nI b) (ha : a < 2 ^ 31) (hb : b < 2 ^ 31) (d : decode cc pc = .ok (.if_icmp .le z, 3)) (ht : (pc : Int) + z = (t : Int)) (hq : pc + 3 = q) (kt : a ≤ b → V X G nL w k n Q t lv st) (kf : b < a → V X G nL w k n Q q lv st) : V X G nL w k n Q pc lv (.int y :: .int x :: st) := by
  subst hx hy
  exact v_icmp_le C d ht hq (fun h => kt ((nI_leI ha hb).mp h)) (fun h => kf (Nat.lt_of_not_le fun z => h ((nI_leI ha hb).mpr z)))
/-- a loop that counts up to N, with something that stays known -/
theorem xx_loopP (N i0 : Nat) (Wf : Nat → va_W) (lvf : Nat → List (Nat × Value)) (P : Nat → Prop) (h : i0 ≤ N) (h0 : P i0) (body : ∀ i, i0 ≤ i → i ≤ N → P i → (i < N → P (i + 1) → V X G nL (Wf (i + 1)) k n Q pc (lvf (i + 1)) st) → V X G nL (Wf i) k n Q pc (lvf i) st) : V X G nL (Wf i0) k n Q pc (lvf i0) st := by
  have key : ∀ m i, i0 ≤ i → i + m = N → P i → V X G nL (Wf i) k n Q pc (lvf i) st := by
    intro m
    induction m with
    | zero => exact fun i h0 hi hp => body i h0 (by omega) hp (fun h => absurd h (by omega))
    | succ m ih => exact fun i h0 hi hp => body i h0 (by omega) hp (fun _ hp1 => ih (i + 1) (by omega) (by omega) hp1)
  exact key (N - i0) i0 (Nat.le_refl _) (by omega) h0
end VN
