/-! the law's world: the class's state s, the law's own arrays t (0: m, 1: u, 2: w, 3: y); r: where they lie (4: the class's object) -/
def Wd (G : GG) (r : Nat → Nat) (s t : SS) (nm nc nr : Nat) (w : va_W) : Prop := ∃ (a : AD) (L : List (Nat × Nat)) (s0 : SS), w = wl a (E G.2.2.1 a s t) L ∧ Live L s0 ∧ (a 2 0 = r 4 ∧ ∀ j, j < 4 → a 1 j = r j) ∧ LsT G.2.2.1 a s s0 0 nm ∧ LsT G.2.2.1 a s s0 1 nc ∧ LsT G.2.2.1 a s s0 2 nr
/-- what the class's methods ask -/
def Bs (s : SS) (nm nc nr : Nat) : Prop := (nm ≤ 12 ∧ nc ≤ 30 ∧ nr ≤ 20) ∧ (∃ dd, s 0 0 = nI dd ∧ dd ≤ 5000) ∧ (∀ i, i < nc → vp_in (s 22 i) nm) ∧ (∀ i, i < nc → vp_in (s 23 i) 40 ∧ vp_in (s 24 i) 11 ∧ tn (s 23 i) + tn (s 24 i) ≤ 40) ∧ (∀ i, i < nr → vp_in (s 34 i) nm) ∧ ∀ i, i < nc → ¬ s 53 i = -1 → vp_in (s 53 i) nm
theorem lv0 {g : Nat → Nat} {a : AD} {s s0 : SS} {n : Nat} (h : LsT g a s s0 0 n) : ∀ i, i < n → i < tn (s0 12 0) := fun i hi => by
  have h9 : tn (s0 12 0) = n := h.2.2.2
  omega
theorem lv1 {g : Nat → Nat} {a : AD} {s s0 : SS} {n : Nat} (h : LsT g a s s0 1 n) : ∀ i, i < n → i < tn (s0 21 0) := fun i hi => by
  have h9 : tn (s0 21 0) = n := h.2.2.2
  omega
theorem lv2 {g : Nat → Nat} {a : AD} {s s0 : SS} {n : Nat} (h : LsT g a s s0 2 n) : ∀ i, i < n → i < tn (s0 33 0) := fun i hi => by
  have h9 : tn (s0 33 0) = n := h.2.2.2
  omega
theorem mA4 {j : Nat} (h : j < 4) : mA j = true := Nat.ble_eq_true_of_le (by omega)
theorem Wd.cnt {G : GG} {r : Nat → Nat} {s t : SS} {nm nc nr : Nat} {w : va_W} (h : Wd G r s t nm nc nr w) : s 12 0 = nI nm ∧ s 21 0 = nI nc ∧ s 33 0 = nI nr := by
  obtain ⟨a, L, s0, -, -, -, h0, h1, h2⟩ := h
  exact ⟨h0.1.1, h1.1.1, h2.1.1⟩
theorem pE_no {L : List (String × Int32)} {e : Int32} {E : String} (h : pE L e E) (he : e = 0) (hL : ∀ q ∈ L, ¬ q.2 = 0) : False := by
  obtain ⟨v, hv, h2⟩ := h
  exact hL _ hv (h2.symm.trans he)
section LQ
variable {X : XS} {G : GG} {cc : ByteArray} {nL : Nat} {ret : Option FieldType} {rm : Room} {nme : String} {tb : List ExceptionTableEntry} {w : va_W} {k n : Nat} {Q : State → Prop} {pc q : Nat} {lv : List (Nat × Value)} {st : List Value} {r : Nat → Nat} {s t : SS} {nm nc nr : Nat}
theorem v_mld (C : Cx X G cc nL RL ret rm nme tb) (hW : Wd G r s t nm nc nr w) (z : Nat) (hz : z < 4) (j : Nat) (hj : j < mN z) (d : decode cc pc = .ok (.iaload, 1)) (hq : pc + 1 = q) (kk : V X G nL w k n Q q lv (.int (t z j) :: st)) : V X G nL w k n Q pc lv (.int (nI j) :: .ref (r z) :: st) := by
  obtain ⟨a, L, s0, rfl, hL, ⟨-, hm⟩, -⟩ := hW
  have hN : mN z ≤ 60 := by unfold mN; split <;> omega
  rw [← hm z hz]
  exact v_ialdE C (len := mN z) j (m1 (s := s) (t := t) (g := G.2.2.1) hL z (mA4 hz)) (nI_clamp (by omega)) (pk_in j (mN z) hj rfl (by omega)) d hq kk
theorem v_mst (C : Cx X G cc nL RL ret rm nme tb) (hW : Wd G r s t nm nc nr w) (z : Nat) (hz : z < 4) (j : Nat) (hj : j < mN z) {x : Int32} (d : decode cc pc = .ok (.iastore, 1)) (hq : pc + 1 = q) (kk : ∀ w1, Wd G r s (su t z j x) nm nc nr w1 → V X G nL w1 k n Q q lv st) : V X G nL w k n Q pc lv (.int x :: .int (nI j) :: .ref (r z) :: st) := by
  obtain ⟨a, L, s0, rfl, hL, ⟨ho, hm⟩, T⟩ := hW
  have hN : mN z ≤ 60 := by unfold mN; split <;> omega
  rw [← hm z hz]
  exact v_iastE C (len := mN z) j (put_m1 (s := s) (t := t) (g := G.2.2.1) hL z (mA4 hz) j x) (nI_clamp (by omega)) (pk_in j (mN z) hj rfl (by omega)) d hq (kk _ ⟨a, L, s0, rfl, hL, ⟨ho, hm⟩, T⟩)

theorem lq_day (C : Cx X G cc nL RL ret rm nme tb) (hW : Wd G r s t nm nc nr w) (hB : Bs s nm nc nr) {u_ : Nat} {y_ : Int32} (hy : s 0 0 = y_) (k1 n1 : Nat) (hk : (k + 0 ≤ k1 ∧ k1 ≤ rm.cells) ∧ n + 0 ≤ n1 ∧ n1 ≤ rm.slots) (hf : (Nat.ble 1 rm.frames && (Nat.ble 20 rm.locals && Nat.ble ((st.map fun v => v.category).sum) 8)) = true) (d : decode cc pc = .ok (.invokevirtual 127, 3)) (hq : pc + 3 = q) (kk : V X G nL w k1 n1 Q q lv (.int y_ :: st)) : V X G nL w k n Q pc lv (.ref (r 4) :: st) := by
  obtain ⟨a, L, s0, rfl, hL, ⟨ho, -⟩, T0, T1, T2⟩ := hW
  obtain ⟨⟨hm12, hc30, hr20⟩, ⟨dd, hday, hdd⟩, hco, hcf, hro, hsl⟩ := hB
  have hst : X.2.1.stackTraces = false := C.2.2.2.2.2.1
  have hG : GOK G := C.2.2.2.2.2.2.2.2.2.1
  simp only [Bool.and_eq_true, Nat.ble_eq] at hf
  rw [← ho]
  refine v_invV C (As := []) L_L_127 (c_X7_day (s := s) (t := t)  hst hG hL   ) (m2 (s := s) (t := t) (g := G.2.2.1) hL) rfl rfl rfl ⟨hf.1, hf.2.1⟩ ⟨Nat.le_trans hk.1.1 hk.1.2, Nat.le_trans hk.2.1 hk.2.2⟩ hf.2.2 d hq (fun E w1 h => absurd h (fun z => z)) (fun v w1 h => ?_)
  obtain ⟨rfl, rfl, -⟩ := h
  subst hy
  exact xx_mono hk.1.1 hk.2.1 kk

theorem lq_sample (C : Cx X G cc nL RL ret rm nme tb) (hW : Wd G r s t nm nc nr w) (hB : Bs s nm nc nr) {c : Int32} (he : sampleE s c = 0) {y_ : Int32} (hy : sampleR s c = y_) (k1 n1 : Nat) (hk : (k + 1 ≤ k1 ∧ k1 ≤ rm.cells) ∧ n + 6 ≤ n1 ∧ n1 ≤ rm.slots) (hf : (Nat.ble 9 rm.frames && (Nat.ble 143 rm.locals && Nat.ble ((st.map fun v => v.category).sum) 8)) = true) (d : decode cc pc = .ok (.invokevirtual 39, 3)) (hq : pc + 3 = q) (kk : V X G nL w k1 n1 Q q lv (.int y_ :: st)) : V X G nL w k n Q pc lv (.int c :: .ref (r 4) :: st) := by
  obtain ⟨a, L, s0, rfl, hL, ⟨ho, -⟩, T0, T1, T2⟩ := hW
  obtain ⟨⟨hm12, hc30, hr20⟩, ⟨dd, hday, hdd⟩, hco, hcf, hro, hsl⟩ := hB
  have hst : X.2.1.stackTraces = false := C.2.2.2.2.2.1
  have hG : GOK G := C.2.2.2.2.2.2.2.2.2.1
  simp only [Bool.and_eq_true, Nat.ble_eq] at hf
  rw [← ho]
  refine v_invV C (As := [.int c]) L_L_39 (c_X7_sample (s := s) (t := t)  hst hG hL  c ) (m2 (s := s) (t := t) (g := G.2.2.1) hL) rfl rfl rfl ⟨hf.1, hf.2.1⟩ ⟨Nat.le_trans hk.1.1 hk.1.2, Nat.le_trans hk.2.1 hk.2.2⟩ hf.2.2 d hq (fun E w1 h => (pE_no h.1 he (by decide)).elim) (fun v w1 h => ?_)
  obtain ⟨rfl, rfl, -⟩ := h
  subst hy
  exact xx_mono hk.1.1 hk.2.1 kk

theorem lq_holds (C : Cx X G cc nL RL ret rm nme tb) (hW : Wd G r s t nm nc nr w) (hB : Bs s nm nc nr) {c : Int32} (he : holdsE s nc c = 0) {y_ : Int32} (hy : heldC s c nc = y_) (k1 n1 : Nat) (hk : (k + 1 ≤ k1 ∧ k1 ≤ rm.cells) ∧ n + 6 ≤ n1 ∧ n1 ≤ rm.slots) (hf : (Nat.ble 9 rm.frames && (Nat.ble 143 rm.locals && Nat.ble ((st.map fun v => v.category).sum) 8)) = true) (d : decode cc pc = .ok (.invokevirtual 79, 3)) (hq : pc + 3 = q) (kk : V X G nL w k1 n1 Q q lv (.int y_ :: st)) : V X G nL w k n Q pc lv (.int c :: .ref (r 4) :: st) := by
  obtain ⟨a, L, s0, rfl, hL, ⟨ho, -⟩, T0, T1, T2⟩ := hW
  obtain ⟨⟨hm12, hc30, hr20⟩, ⟨dd, hday, hdd⟩, hco, hcf, hro, hsl⟩ := hB
  have hst : X.2.1.stackTraces = false := C.2.2.2.2.2.1
  have hG : GOK G := C.2.2.2.2.2.2.2.2.2.1
  simp only [Bool.and_eq_true, Nat.ble_eq] at hf
  rw [← ho]
  refine v_invV C (As := [.int c]) L_L_79 (c_X7_holds (s := s) (t := t) (nc := nc) hst hG hL  c T1.1 (lv1 T1)) (m2 (s := s) (t := t) (g := G.2.2.1) hL) rfl rfl rfl ⟨hf.1, hf.2.1⟩ ⟨Nat.le_trans hk.1.1 hk.1.2, Nat.le_trans hk.2.1 hk.2.2⟩ hf.2.2 d hq (fun E w1 h => (pE_no h.1 he (by decide)).elim) (fun v w1 h => ?_)
  obtain ⟨rfl, rfl, -⟩ := h
  subst hy
  exact xx_mono hk.1.1 hk.2.1 kk

theorem lq_belief (C : Cx X G cc nL RL ret rm nme tb) (hW : Wd G r s t nm nc nr w) (hB : Bs s nm nc nr) {c : Int32} (he : beliefE s c = 0) {y_ : Int32} (hy : beliefR s c = y_) (k1 n1 : Nat) (hk : (k + 1 ≤ k1 ∧ k1 ≤ rm.cells) ∧ n + 6 ≤ n1 ∧ n1 ≤ rm.slots) (hf : (Nat.ble 9 rm.frames && (Nat.ble 143 rm.locals && Nat.ble ((st.map fun v => v.category).sum) 8)) = true) (d : decode cc pc = .ok (.invokevirtual 97, 3)) (hq : pc + 3 = q) (kk : V X G nL w k1 n1 Q q lv (.int y_ :: st)) : V X G nL w k n Q pc lv (.int c :: .ref (r 4) :: st) := by
  obtain ⟨a, L, s0, rfl, hL, ⟨ho, -⟩, T0, T1, T2⟩ := hW
  obtain ⟨⟨hm12, hc30, hr20⟩, ⟨dd, hday, hdd⟩, hco, hcf, hro, hsl⟩ := hB
  have hst : X.2.1.stackTraces = false := C.2.2.2.2.2.1
  have hG : GOK G := C.2.2.2.2.2.2.2.2.2.1
  simp only [Bool.and_eq_true, Nat.ble_eq] at hf
  rw [← ho]
  refine v_invV C (As := [.int c]) L_L_97 (c_X7_belief (s := s) (t := t)  hst hG hL  c ) (m2 (s := s) (t := t) (g := G.2.2.1) hL) rfl rfl rfl ⟨hf.1, hf.2.1⟩ ⟨Nat.le_trans hk.1.1 hk.1.2, Nat.le_trans hk.2.1 hk.2.2⟩ hf.2.2 d hq (fun E w1 h => (pE_no h.1 he (by decide)).elim) (fun v w1 h => ?_)
  obtain ⟨rfl, rfl, -⟩ := h
  subst hy
  exact xx_mono hk.1.1 hk.2.1 kk

theorem lq_ofMiner (C : Cx X G cc nL RL ret rm nme tb) (hW : Wd G r s t nm nc nr w) (hB : Bs s nm nc nr) {x w_ : Int32} (he : ofMinerE s nm nr x w_ = 0) {y_ : Int32} (hy : ofMinerRC s nm nr x w_ = y_) (k1 n1 : Nat) (hk : (k + 2 ≤ k1 ∧ k1 ≤ rm.cells) ∧ n + 12 ≤ n1 ∧ n1 ≤ rm.slots) (hf : (Nat.ble 9 rm.frames && (Nat.ble 156 rm.locals && Nat.ble ((st.map fun v => v.category).sum) 8)) = true) (d : decode cc pc = .ok (.invokevirtual 85, 3)) (hq : pc + 3 = q) (kk : V X G nL w k1 n1 Q q lv (.int y_ :: st)) : V X G nL w k n Q pc lv (.int w_ :: .int x :: .ref (r 4) :: st) := by
  obtain ⟨a, L, s0, rfl, hL, ⟨ho, -⟩, T0, T1, T2⟩ := hW
  obtain ⟨⟨hm12, hc30, hr20⟩, ⟨dd, hday, hdd⟩, hco, hcf, hro, hsl⟩ := hB
  have hst : X.2.1.stackTraces = false := C.2.2.2.2.2.1
  have hG : GOK G := C.2.2.2.2.2.2.2.2.2.1
  simp only [Bool.and_eq_true, Nat.ble_eq] at hf
  rw [← ho]
  refine v_invV C (As := [.int x, .int w_]) L_L_85 (c_X7_ofMiner (s := s) (t := t) (nm := nm) (nr := nr) hst hG hL  x w_ T0.1 hm12 (lv0 T0) T2.1 hr20 (lv2 T2) hro) (m2 (s := s) (t := t) (g := G.2.2.1) hL) rfl rfl rfl ⟨hf.1, hf.2.1⟩ ⟨Nat.le_trans hk.1.1 hk.1.2, Nat.le_trans hk.2.1 hk.2.2⟩ hf.2.2 d hq (fun E w1 h => (pE_no h.1 he (by decide)).elim) (fun v w1 h => ?_)
  obtain ⟨rfl, rfl, -⟩ := h
  subst hy
  exact xx_mono hk.1.1 hk.2.1 kk

theorem lq_ofClaim (C : Cx X G cc nL RL ret rm nme tb) (hW : Wd G r s t nm nc nr w) (hB : Bs s nm nc nr) {x w_ : Int32} (he : ofClaimE s x w_ = 0) {y_ : Int32} (hy : ofClaimR s x w_ = y_) (k1 n1 : Nat) (hk : (k + 2 ≤ k1 ∧ k1 ≤ rm.cells) ∧ n + 12 ≤ n1 ∧ n1 ≤ rm.slots) (hf : (Nat.ble 9 rm.frames && (Nat.ble 147 rm.locals && Nat.ble ((st.map fun v => v.category).sum) 8)) = true) (d : decode cc pc = .ok (.invokevirtual 82, 3)) (hq : pc + 3 = q) (kk : V X G nL w k1 n1 Q q lv (.int y_ :: st)) : V X G nL w k n Q pc lv (.int w_ :: .int x :: .ref (r 4) :: st) := by
  obtain ⟨a, L, s0, rfl, hL, ⟨ho, -⟩, T0, T1, T2⟩ := hW
  obtain ⟨⟨hm12, hc30, hr20⟩, ⟨dd, hday, hdd⟩, hco, hcf, hro, hsl⟩ := hB
  have hst : X.2.1.stackTraces = false := C.2.2.2.2.2.1
  have hG : GOK G := C.2.2.2.2.2.2.2.2.2.1
  simp only [Bool.and_eq_true, Nat.ble_eq] at hf
  rw [← ho]
  refine v_invV C (As := [.int x, .int w_]) L_L_82 (c_X7_ofClaim (s := s) (t := t) (nc := nc) hst hG hL  x w_ T1.1 (lv1 T1)) (m2 (s := s) (t := t) (g := G.2.2.1) hL) rfl rfl rfl ⟨hf.1, hf.2.1⟩ ⟨Nat.le_trans hk.1.1 hk.1.2, Nat.le_trans hk.2.1 hk.2.2⟩ hf.2.2 d hq (fun E w1 h => (pE_no h.1 he (by decide)).elim) (fun v w1 h => ?_)
  obtain ⟨rfl, rfl, -⟩ := h
  subst hy
  exact xx_mono hk.1.1 hk.2.1 kk

theorem lq_gets (C : Cx X G cc nL RL ret rm nme tb) (hW : Wd G r s t nm nc nr w) (hB : Bs s nm nc nr) {x : Int32} (he : getsE s x = 0) {y_ : Int32} (hy : getsR s x = y_) (k1 n1 : Nat) (hk : (k + 1 ≤ k1 ∧ k1 ≤ rm.cells) ∧ n + 6 ≤ n1 ∧ n1 ≤ rm.slots) (hf : (Nat.ble 8 rm.frames && (Nat.ble 131 rm.locals && Nat.ble ((st.map fun v => v.category).sum) 8)) = true) (d : decode cc pc = .ok (.invokevirtual 88, 3)) (hq : pc + 3 = q) (kk : V X G nL w k1 n1 Q q lv (.int y_ :: st)) : V X G nL w k n Q pc lv (.int x :: .ref (r 4) :: st) := by
  obtain ⟨a, L, s0, rfl, hL, ⟨ho, -⟩, T0, T1, T2⟩ := hW
  obtain ⟨⟨hm12, hc30, hr20⟩, ⟨dd, hday, hdd⟩, hco, hcf, hro, hsl⟩ := hB
  have hst : X.2.1.stackTraces = false := C.2.2.2.2.2.1
  have hG : GOK G := C.2.2.2.2.2.2.2.2.2.1
  simp only [Bool.and_eq_true, Nat.ble_eq] at hf
  rw [← ho]
  refine v_invV C (As := [.int x]) L_L_88 (c_X7_gets (s := s) (t := t) (nm := nm) (nr := nr) hst hG hL  x T0.1 hm12 (lv0 T0) T2.1 hr20 (lv2 T2) hro) (m2 (s := s) (t := t) (g := G.2.2.1) hL) rfl rfl rfl ⟨hf.1, hf.2.1⟩ ⟨Nat.le_trans hk.1.1 hk.1.2, Nat.le_trans hk.2.1 hk.2.2⟩ hf.2.2 d hq (fun E w1 h => (pE_no h.1 he (by decide)).elim) (fun v w1 h => ?_)
  obtain ⟨rfl, rfl, -⟩ := h
  subst hy
  exact xx_mono hk.1.1 hk.2.1 kk

theorem lq_gold (C : Cx X G cc nL RL ret rm nme tb) (hW : Wd G r s t nm nc nr w) (hB : Bs s nm nc nr) {w_ : Int32} (he : goldE s nm w_ = 0) {y_ : Int32} (hy : goldR s nm w_ = y_) (k1 n1 : Nat) (hk : (k + 1 ≤ k1 ∧ k1 ≤ rm.cells) ∧ n + 6 ≤ n1 ∧ n1 ≤ rm.slots) (hf : (Nat.ble 9 rm.frames && (Nat.ble 145 rm.locals && Nat.ble ((st.map fun v => v.category).sum) 8)) = true) (d : decode cc pc = .ok (.invokevirtual 91, 3)) (hq : pc + 3 = q) (kk : V X G nL w k1 n1 Q q lv (.int y_ :: st)) : V X G nL w k n Q pc lv (.int w_ :: .ref (r 4) :: st) := by
  obtain ⟨a, L, s0, rfl, hL, ⟨ho, -⟩, T0, T1, T2⟩ := hW
  obtain ⟨⟨hm12, hc30, hr20⟩, ⟨dd, hday, hdd⟩, hco, hcf, hro, hsl⟩ := hB
  have hst : X.2.1.stackTraces = false := C.2.2.2.2.2.1
  have hG : GOK G := C.2.2.2.2.2.2.2.2.2.1
  simp only [Bool.and_eq_true, Nat.ble_eq] at hf
  rw [← ho]
  refine v_invV C (As := [.int w_]) L_L_91 (c_X7_gold (s := s) (t := t) (nm := nm) hst hG hL  w_ T0.1 hm12 (lv0 T0)) (m2 (s := s) (t := t) (g := G.2.2.1) hL) rfl rfl rfl ⟨hf.1, hf.2.1⟩ ⟨Nat.le_trans hk.1.1 hk.1.2, Nat.le_trans hk.2.1 hk.2.2⟩ hf.2.2 d hq (fun E w1 h => (pE_no h.1 he (by decide)).elim) (fun v w1 h => ?_)
  obtain ⟨rfl, rfl, -⟩ := h
  subst hy
  exact xx_mono hk.1.1 hk.2.1 kk

theorem lq_camp (C : Cx X G cc nL RL ret rm nme tb) (hW : Wd G r s t nm nc nr w) (hB : Bs s nm nc nr) {w_ : Int32} (he : campE s nm w_ = 0) {y_ : Int32} (hy : campRC s nm w_ = y_) (k1 n1 : Nat) (hk : (k + 1 ≤ k1 ∧ k1 ≤ rm.cells) ∧ n + 6 ≤ n1 ∧ n1 ≤ rm.slots) (hf : (Nat.ble 9 rm.frames && (Nat.ble 145 rm.locals && Nat.ble ((st.map fun v => v.category).sum) 8)) = true) (d : decode cc pc = .ok (.invokevirtual 94, 3)) (hq : pc + 3 = q) (kk : V X G nL w k1 n1 Q q lv (.int y_ :: st)) : V X G nL w k n Q pc lv (.int w_ :: .ref (r 4) :: st) := by
  obtain ⟨a, L, s0, rfl, hL, ⟨ho, -⟩, T0, T1, T2⟩ := hW
  obtain ⟨⟨hm12, hc30, hr20⟩, ⟨dd, hday, hdd⟩, hco, hcf, hro, hsl⟩ := hB
  have hst : X.2.1.stackTraces = false := C.2.2.2.2.2.1
  have hG : GOK G := C.2.2.2.2.2.2.2.2.2.1
  simp only [Bool.and_eq_true, Nat.ble_eq] at hf
  rw [← ho]
  refine v_invV C (As := [.int w_]) L_L_94 (c_X7_camp (s := s) (t := t) (nm := nm) hst hG hL  w_ T0.1 hm12 (lv0 T0)) (m2 (s := s) (t := t) (g := G.2.2.1) hL) rfl rfl rfl ⟨hf.1, hf.2.1⟩ ⟨Nat.le_trans hk.1.1 hk.1.2, Nat.le_trans hk.2.1 hk.2.2⟩ hf.2.2 d hq (fun E w1 h => (pE_no h.1 he (by decide)).elim) (fun v w1 h => ?_)
  obtain ⟨rfl, rfl, -⟩ := h
  subst hy
  exact xx_mono hk.1.1 hk.2.1 kk

end LQ