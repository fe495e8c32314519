/-! digging, in numbers -/
def msN (k : Nat) : Nat := match k with
  | 0 => 20 | 1 => 100 | 2 => 400 | _ => 2000
def hnN (k : Nat) : Nat := match k with
  | 0 => 90 | 1 => 70 | 2 => 80 | _ => 50
def rcN (k x c : Nat) : Nat := min x (msN k) * (hnN k - 3 * c) / 100
theorem hnN_le (k : Nat) : hnN k ≤ 100 := by
  unfold hnN
  split <;> omega
theorem min_nat {a b : Nat} (ha : a < 2 ^ 31) (hb : b < 2 ^ 31) : minF (nI a) (nI b) = nI (min a b) := by
  unfold minF
  by_cases h : a < b
  · rw [if_pos ((nI_ltI ha hb).mpr h), Nat.min_eq_left (by omega)]
  · rw [if_neg (fun q => h ((nI_ltI ha hb).mp q)), Nat.min_eq_right (by omega)]
theorem most_nat : ∀ k, k < 4 → mostF (nI k) = nI (msN k) ∧ hundF (nI k) = nI (hnN k) ∧ msN k ≤ 2000 ∧ 50 ≤ hnN k := by decide
theorem rcN_le {k x c : Nat} : rcN k x c ≤ min x (msN k) := by
  unfold rcN
  have hq : hnN k - 3 * c ≤ 100 := by
    have := hnN_le k
    omega
  have h1 := Nat.mul_le_mul_left (min x (msN k)) hq
  have h2 := Nat.div_le_div_right (c := 100) h1
  rw [Nat.mul_div_cancel _ (by decide)] at h2
  exact h2
def bestN (k : Nat) : Nat := match k with
  | 0 => 18 | 1 => 70 | 2 => 320 | _ => 1000
theorem rcN_best {k x c : Nat} (hk : k < 4) : rcN k x c ≤ bestN k := by
  unfold rcN
  have h1 : min x (msN k) * (hnN k - 3 * c) ≤ msN k * hnN k := Nat.mul_le_mul (Nat.min_le_right _ _) (Nat.sub_le _ _)
  have h2 := Nat.div_le_div_right (c := 100) h1
  have h3 : ∀ k, k < 4 → msN k * hnN k / 100 = bestN k := by decide
  rw [h3 k hk] at h2
  exact h2
theorem rc_nat {k x c : Nat} (hk : k < 4) (hx : x < 2 ^ 31) (hc : c ≤ 9) : rcF (nI k) (nI (min x (msN k))) (nI c) = nI (rcN k x c) := by
  obtain ⟨h1, h2, h3, h4⟩ := most_nat k hk
  unfold rcF rcN
  rw [h2, show (3 : Int32) = nI 3 from rfl, pk_mul, pk_sub (by omega), pk_mul, show (100 : Int32) = nI 100 from rfl]
  have hq : hnN k - 3 * c ≤ 100 := by
    have := hnN_le k
    omega
  have hm : min x (msN k) ≤ 2000 := by omega
  have h9 := Nat.mul_le_mul hm hq
  exact pk_div (by omega) (by omega) (by omega)
theorem gr_nat {z : SS} {x : Nat} (hx : x < 40) : grF z (nI x) = z 9 x ∧ claF z (nI x) = z 10 x := by
  have h1 := cell_in hx
  unfold grF claF
  rw [if_pos h1, if_pos h1, tn_nI (by omega)]
  exact ⟨rfl, rfl⟩
/-- a plan downwards: what comes from above, what is brought -/
def YA (s : SS) (f g : Nat) : Nat → Nat
  | 0 => 0
  | i + 1 => min (tn (s 9 (f + i)) + YA s f g i) (msN g) - rcN g (tn (s 9 (f + i)) + YA s f g i) (tn (s 10 (f + i)))
def YS (s : SS) (f g : Nat) : Nat → Nat
  | 0 => 0
  | i + 1 => YS s f g i + rcN g (tn (s 9 (f + i)) + YA s f g i) (tn (s 10 (f + i)))
theorem YA_b {s : SS} {f g : Nat} (hg : g < 4) : ∀ i, YA s f g i ≤ 2000
  | 0 => Nat.zero_le _
  | i + 1 => by
    have := (most_nat g hg).2.2.1
    unfold YA
    omega
theorem yd_n {s : SS} {nm nc nr k f g : Nat} (hJ : Js s nm nc nr k) (hk : k ≤ 131) (hg : g < 4) : ∀ M, f + M ≤ 40 → ydA s f g M = nI (YA s f g M) ∧ ydS s f g M = nI (YS s f g M)
  | 0, _ => ⟨rfl, rfl⟩
  | i + 1, h => by
    obtain ⟨h1, h2⟩ := yd_n (f := f) hJ hk hg i (by omega)
    obtain ⟨e1, e2⟩ := gr_nat (z := s) (x := f + i) (by omega)
    have g1 := hJ.g9 (c := f + i) (by omega)
    have g2 := hJ.2.2.1.2.1 (f + i) (by omega)
    have ht := hJ.tt
    obtain ⟨m1, m2, m3, m4⟩ := most_nat g hg
    have hy := YA_b (s := s) (f := f) hg i
    have hx : grF s (nI (f + i)) + ydA s f g i = nI (tn (s 9 (f + i)) + YA s f g i) := by
      rw [e1, h1, ← nI_add, ← g1.1.e]
    have hc : claF s (nI (f + i)) = nI (tn (s 10 (f + i))) := e2.trans g2.1.e
    have hm : minF (nI (tn (s 9 (f + i)) + YA s f g i)) (mostF (nI g)) = nI (min (tn (s 9 (f + i)) + YA s f g i) (msN g)) := by rw [m1, min_nat (by omega) (by omega)]
    have hr := rc_nat (k := g) (x := tn (s 9 (f + i)) + YA s f g i) hg (by omega) g2.2
    constructor
    · unfold ydA
      rw [hx, hm, hc, hr, pk_sub rcN_le]
      rfl
    · unfold ydS
      rw [hx, hm, hc, hr, h2, nI_add]
      rfl
theorem ys_le {s : SS} {f g : Nat} : ∀ M, YS s f g M + YA s f g M ≤ SN (fun j => s 9 (f + j)) M
  | 0 => Nat.le_refl _
  | i + 1 => by
    have h1 := ys_le (s := s) (f := f) (g := g) i
    have h2 := rcN_le (k := g) (x := tn (s 9 (f + i)) + YA s f g i) (c := tn (s 10 (f + i)))
    have e1 : YS s f g (i + 1) = YS s f g i + rcN g (tn (s 9 (f + i)) + YA s f g i) (tn (s 10 (f + i))) := rfl
    have e2 : YA s f g (i + 1) = min (tn (s 9 (f + i)) + YA s f g i) (msN g) - rcN g (tn (s 9 (f + i)) + YA s f g i) (tn (s 10 (f + i))) := rfl
    have e3 : SN (fun j => s 9 (f + j)) (i + 1) = SN (fun j => s 9 (f + j)) i + tn (s 9 (f + i)) := rfl
    omega
theorem ys_18 {s : SS} {f : Nat} : ∀ M, YS s f 0 M ≤ 18 * M
  | 0 => Nat.le_refl _
  | i + 1 => by
    have h1 := ys_18 (s := s) (f := f) i
    have h2 := rcN_best (k := 0) (x := tn (s 9 (f + i)) + YA s f 0 i) (c := tn (s 10 (f + i))) (by omega)
    have e1 : YS s f 0 (i + 1) = YS s f 0 i + rcN 0 (tn (s 9 (f + i)) + YA s f 0 i) (tn (s 10 (f + i))) := rfl
    have e2 : bestN 0 = 18 := rfl
    omega
def UP (s : SS) (f : Nat) : Nat → Nat
  | 0 => 0
  | i + 1 => UP s f i + 100 * (tn (s 9 (f + i)) / 100 + 1)
theorem up_le {s : SS} {f : Nat} : ∀ M, SN (fun j => s 9 (f + j)) M ≤ UP s f M
  | 0 => Nat.le_refl _
  | i + 1 => by
    have h1 := up_le (s := s) (f := f) i
    have e3 : SN (fun j => s 9 (f + j)) (i + 1) = SN (fun j => s 9 (f + j)) i + tn (s 9 (f + i)) := rfl
    have e4 : UP s f (i + 1) = UP s f i + 100 * (tn (s 9 (f + i)) / 100 + 1) := rfl
    omega
theorem up_b {s : SS} {nm nc nr k f : Nat} (hJ : Js s nm nc nr k) (hk : k ≤ 131) : ∀ M, f + M ≤ 40 → UP s f M ≤ 13200000 * M
  | 0, _ => Nat.le_refl _
  | i + 1, h => by
    have h1 := up_b (f := f) hJ hk i (by omega)
    have g1 := hJ.g9 (c := f + i) (by omega)
    have ht := hJ.tt
    have e4 : UP s f (i + 1) = UP s f i + 100 * (tn (s 9 (f + i)) / 100 + 1) := rfl
    omega
theorem met_in {g : Nat} (h : g < 4) : (0 : Int32) ≤ nI g ∧ nI g ≤ 3 := ⟨nI_pos' (by omega), (nI_leI (b := 3) (by omega) (by omega)).mpr (by omega)⟩
