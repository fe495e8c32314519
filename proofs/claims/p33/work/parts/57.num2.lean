/-! numbers that aren't negative, sums of them -/
def Nn (x : Int32) : Prop := x = nI (tn x)
theorem tn_nI {n : Nat} (h : n < 2 ^ 31) : tn (nI n) = n := nI_clamp h
theorem tn_lt (x : Int32) : tn x < 2 ^ 31 := Int32.toNatClampNeg_lt x
theorem Nn.of {n : Nat} (h : n < 2 ^ 31) : Nn (nI n) := by unfold Nn; rw [tn_nI h]
theorem Nn.e {x : Int32} (h : Nn x) : x = nI (tn x) := h
theorem Nn.o {n : Nat} {x : Int32} (h : x = nI n) (hn : n < 2 ^ 31) : Nn x ∧ tn x = n := by
  subst h
  exact ⟨Nn.of hn, tn_nI hn⟩
theorem tn_0 : tn (0 : Int32) = 0 := by decide
theorem Nn.z : Nn (0 : Int32) := by unfold Nn; rw [tn_0]; rfl
theorem Nn.ge {x : Int32} (h : Nn x) : (0 : Int32) ≤ x := by
  rw [h.e]
  exact nI_pos' (tn_lt x)
theorem Nn.le0 {x : Int32} (h : (0 : Int32) ≤ x) : Nn x := (Int32.ofNat_toNatClampNeg x h).symm
theorem Nn.inj {x y : Int32} (hx : Nn x) (hy : Nn y) (h : tn x = tn y) : x = y := by rw [hx.e, hy.e, h]
theorem Nn.eq0 {x : Int32} (h : Nn x) : x = 0 ↔ tn x = 0 := ⟨fun e => by rw [e, tn_0], fun e => by rw [h.e, e]; rfl⟩
theorem Nn.eqc {x : Int32} {n : Nat} (h : Nn x) (hn : n < 2 ^ 31) : x = nI n ↔ tn x = n := ⟨fun e => by rw [e, tn_nI hn], fun e => by rw [h.e, e]⟩
theorem Nn.le {x y : Int32} (hx : Nn x) (hy : Nn y) : x ≤ y ↔ tn x ≤ tn y := by
  have h := nI_leI (tn_lt x) (tn_lt y)
  rwa [← hx.e, ← hy.e] at h
theorem Nn.lt {x y : Int32} (hx : Nn x) (hy : Nn y) : x < y ↔ tn x < tn y := by
  have h := nI_ltI (tn_lt x) (tn_lt y)
  rwa [← hx.e, ← hy.e] at h
theorem Nn.lec {x : Int32} {n : Nat} (hx : Nn x) (hn : n < 2 ^ 31) : x ≤ nI n ↔ tn x ≤ n := by
  rw [hx.le (Nn.of hn), tn_nI hn]
theorem Nn.ltc {x : Int32} {n : Nat} (hx : Nn x) (hn : n < 2 ^ 31) : x < nI n ↔ tn x < n := by
  rw [hx.lt (Nn.of hn), tn_nI hn]
theorem Nn.cle {x : Int32} {n : Nat} (hx : Nn x) (hn : n < 2 ^ 31) : nI n ≤ x ↔ n ≤ tn x := by
  rw [(Nn.of hn).le hx, tn_nI hn]
theorem Nn.clt {x : Int32} {n : Nat} (hx : Nn x) (hn : n < 2 ^ 31) : nI n < x ↔ n < tn x := by
  rw [(Nn.of hn).lt hx, tn_nI hn]
theorem Nn.add {x y : Int32} (hx : Nn x) (hy : Nn y) (h : tn x + tn y < 2 ^ 31) : Nn (x + y) ∧ tn (x + y) = tn x + tn y := by
  have e : x + y = nI (tn x + tn y) := by
    rw [← nI_add, ← hx.e, ← hy.e]
  exact Nn.o e h
theorem Nn.sub {x y : Int32} (hx : Nn x) (hy : Nn y) (h : tn y ≤ tn x) : Nn (x - y) ∧ tn (x - y) = tn x - tn y := by
  have e : x - y = nI (tn x - tn y) := by
    rw [← pk_sub h, ← hx.e, ← hy.e]
  exact Nn.o e (by have := tn_lt x; omega)
theorem Nn.vp {x : Int32} {n : Nat} (h : vp_in x n) (hn : n < 2 ^ 31) : Nn x ∧ tn x < n := by
  obtain ⟨j, hj, rfl⟩ := vp_in_of h hn
  have hj2 : j < 2 ^ 31 := Nat.lt_trans hj hn
  exact ⟨Nn.of hj2, by rw [tn_nI hj2]; exact hj⟩
theorem Nn.pv {x : Int32} {n : Nat} (hx : Nn x) (h : tn x < n) (hn : n < 2 ^ 31) : vp_in x n := by
  rw [hx.e]
  exact vp_in_nI h hn
theorem nI_inj {a b : Nat} (ha : a < 2 ^ 31) (hb : b < 2 ^ 31) (h : nI a = nI b) : a = b := (nI_eq ha hb).mp h
/-- x less 1 -/
theorem nI_prd {n : Nat} (h : 0 < n) : nI n - 1 = nI (n - 1) := pk_sub h
theorem nI_m {n : Nat} (h : n < 2 ^ 31) : (nI n - 1 = -1) ↔ n = 0 := by
  constructor
  · intro e
    by_cases h0 : n = 0
    · exact h0
    · rw [nI_prd (by omega)] at e
      have h1 := nI_toInt (n := n - 1) (by omega)
      rw [e] at h1
      have h2 : (-1 : Int32).toInt = -1 := by decide
      omega
  · rintro rfl
    decide
def SN (f : Nat → Int32) : Nat → Nat
  | 0 => 0
  | n + 1 => SN f n + tn (f n)
theorem sum_SN {f : Nat → Int32} : ∀ n, (∀ i, i < n → Nn (f i)) → sumN f n = nI (SN f n)
  | 0, _ => rfl
  | n + 1, h => by
    show sumN f n + f n = nI (SN f n + tn (f n))
    rw [sum_SN n (fun i hi => h i (by omega)), ← nI_add, ← (h n (by omega)).e]
theorem SN_c {f g : Nat → Int32} : ∀ n, (∀ i, i < n → f i = g i) → SN f n = SN g n
  | 0, _ => rfl
  | n + 1, h => by
    show SN f n + tn (f n) = SN g n + tn (g n)
    rw [SN_c n (fun i hi => h i (by omega)), h n (by omega)]
theorem SN_o {f : Nat → Int32} {i : Nat} {v : Int32} : ∀ n, n ≤ i → SN (upd f i v) n = SN f n := fun n hn => SN_c n (fun j hj => if_neg (by omega))
theorem SN_u {f : Nat → Int32} {i : Nat} {v : Int32} : ∀ n, i < n → SN (upd f i v) n + tn (f i) = SN f n + tn v
  | 0, h => absurd h (Nat.not_lt_zero i)
  | n + 1, h => by
    show SN (upd f i v) n + tn (upd f i v n) + tn (f i) = SN f n + tn (f n) + tn v
    by_cases e : i = n
    · subst e
      rw [SN_o i (Nat.le_refl i), show upd f i v i = v from if_pos rfl]
      omega
    · rw [show upd f i v n = f n from if_neg (fun z => e z.symm)]
      have := SN_u (f := f) (v := v) n (show i < n by omega)
      omega
theorem SN_le {f : Nat → Int32} {i : Nat} : ∀ n, i < n → tn (f i) ≤ SN f n
  | 0, h => absurd h (Nat.not_lt_zero i)
  | n + 1, h => by
    show tn (f i) ≤ SN f n + tn (f n)
    by_cases e : i = n
    · subst e; omega
    · have := SN_le (f := f) n (show i < n by omega)
      omega
theorem SN_le2 {f : Nat → Int32} {i j : Nat} : ∀ n, i < n → j < n → i ≠ j → tn (f i) + tn (f j) ≤ SN f n
  | 0, h, _, _ => absurd h (Nat.not_lt_zero i)
  | n + 1, h, h2, hne => by
    show tn (f i) + tn (f j) ≤ SN f n + tn (f n)
    by_cases e : i = n
    · subst e
      have := SN_le (f := f) i (show j < i by omega)
      omega
    · by_cases e2 : j = n
      · subst e2
        have := SN_le (f := f) j (show i < j by omega)
        omega
      · have := SN_le2 (f := f) n (show i < n by omega) (show j < n by omega) hne
        omega
theorem SN_b {f : Nat → Int32} {b : Nat} : ∀ n, (∀ i, i < n → tn (f i) ≤ b) → SN f n ≤ b * n
  | 0, _ => Nat.le_refl _
  | n + 1, h => by
    show SN f n + tn (f n) ≤ b * (n + 1)
    have h1 := SN_b n (fun i hi => h i (by omega))
    have h2 := h n (by omega)
    rw [Nat.mul_add, Nat.mul_one]
    omega
theorem SN_tail {f : Nat → Int32} {n : Nat} (h : ∀ i, n ≤ i → f i = 0) : ∀ d, SN f (n + d) = SN f n
  | 0 => rfl
  | d + 1 => by
    show SN f (n + d) + tn (f (n + d)) = _
    rw [SN_tail h d, h _ (by omega), tn_0, Nat.add_zero]
/-- budgets -/
theorem bl {B t c x : Nat} (h : B + t ≤ c) (hx : x ≤ t) : B + x ≤ c := Nat.le_trans (Nat.add_le_add_left hx B) h
theorem bm {B x y : Nat} (hx : x ≤ y) : B + x ≤ B + y := Nat.add_le_add_left hx B
/-- what a chain of tests says -/
theorem e3_1 {P Q R : Prop} [Decidable P] [Decidable Q] [Decidable R] (h : ¬ P) : (if ¬ P then (1 : Int32) else if ¬ Q then 2 else if R then 3 else 0) = 1 := if_pos h
theorem e3_2 {P Q R : Prop} [Decidable P] [Decidable Q] [Decidable R] (hp : P) (h : ¬ Q) : (if ¬ P then (1 : Int32) else if ¬ Q then 2 else if R then 3 else 0) = 2 := by rw [if_neg (fun z => z hp), if_pos h]
theorem e3_3 {P Q R : Prop} [Decidable P] [Decidable Q] [Decidable R] (hp : P) (hq : Q) (h : R) : (if ¬ P then (1 : Int32) else if ¬ Q then 2 else if R then 3 else 0) = 3 := by rw [if_neg (fun z => z hp), if_neg (fun z => z hq), if_pos h]
theorem e3_0 {P Q R : Prop} [Decidable P] [Decidable Q] [Decidable R] (hp : P) (hq : Q) (h : ¬ R) : (if ¬ P then (1 : Int32) else if ¬ Q then 2 else if R then 3 else 0) = 0 := by rw [if_neg (fun z => z hp), if_neg (fun z => z hq), if_neg h]
theorem e1_1 {P : Prop} [Decidable P] (h : ¬ P) : (if P then (0 : Int32) else 1) = 1 := if_neg h
theorem e1_0 {P : Prop} [Decidable P] (h : P) : (if P then (0 : Int32) else 1) = 0 := if_pos h
theorem e2_1 {P Q : Prop} [Decidable P] [Decidable Q] (h : ¬ P) : (if ¬ P then (1 : Int32) else if Q then 0 else 2) = 1 := if_pos h
theorem e2_2 {P Q : Prop} [Decidable P] [Decidable Q] (hp : P) (h : ¬ Q) : (if ¬ P then (1 : Int32) else if Q then 0 else 2) = 2 := by rw [if_neg (fun z => z hp), if_neg h]
theorem e2_0 {P Q : Prop} [Decidable P] [Decidable Q] (hp : P) (h : Q) : (if ¬ P then (1 : Int32) else if Q then 0 else 2) = 0 := by rw [if_neg (fun z => z hp), if_pos h]
theorem e4_1 {P Q : Prop} [Decidable P] [Decidable Q] (h : ¬ P) : (if ¬ P then (1 : Int32) else if Q then 2 else 0) = 1 := if_pos h
theorem e4_2 {P Q : Prop} [Decidable P] [Decidable Q] (hp : P) (h : Q) : (if ¬ P then (1 : Int32) else if Q then 2 else 0) = 2 := by rw [if_neg (fun z => z hp), if_pos h]
theorem e4_0 {P Q : Prop} [Decidable P] [Decidable Q] (hp : P) (h : ¬ Q) : (if ¬ P then (1 : Int32) else if Q then 2 else 0) = 0 := by rw [if_neg (fun z => z hp), if_neg h]
