def priceF (x : Int32) : Int32 := if x < 100 then 5 + (100 - x) / 5 else 5
theorem bI_n {P : Prop} [Decidable P] : vp_nar .boolean (bI P) = bI P := by
  unfold bI
  split <;> rfl
theorem bI_fit {P : Prop} [Decidable P] : fits .boolean (.int (bI P)) = true := by
  unfold bI
  split <;> rfl
theorem rw_in {w i b : Nat} {f : Nat → Int32} (h : b < w) : rw_ w f i b = f (w * i + b) := if_pos h
theorem in_nI {x : Int32} {N : Nat} (h : vp_in x N) (hN : N < 2 ^ 31) : x = nI (tn x) := by
  obtain ⟨j, hj, rfl⟩ := vp_in_of h hN
  rw [show tn (nI j) = j from nI_clamp (by omega)]
theorem in_lt {x : Int32} {N : Nat} (h : vp_in x N) : tn x < N := by
  have h1 := vp_in_iff.mp h
  have h2 : tn x = x.toInt.toNat := rfl
  omega
def pM (e r : Int32) : Int32 := if e = 0 then r else 0
def pU (e : Int32) (u t : SS) : SS := if e = 0 then u else su t 45 0 e
theorem n10 : ((1 : Int32) = 0) = False := by decide
theorem n20 : ((2 : Int32) = 0) = False := by decide
theorem n30 : ((3 : Int32) = 0) = False := by decide
theorem n0 : ((0 : Int32) = 0) = True := by decide
theorem vp_rng {x M : Int32} {n N : Nat} (hM : M.toInt = n) (hN : n < N) (h : (0 : Int32) ≤ x ∧ x ≤ M) : vp_in x N := by
  have h0 : (0 : Int32).toInt = 0 := by decide
  have h1 := Int32.le_iff_toInt_le.mp h.1
  have h2 := Int32.le_iff_toInt_le.mp h.2
  rw [vp_in_iff]
  omega
theorem vp_cnt {x z : Int32} {n N : Nat} (h : (0 : Int32) ≤ x ∧ x ≤ z - 1) (hz : z = nI n) (hn : n ≤ N) (hN : N < 1000) : vp_in x N := by
  subst hz
  have h0 : (0 : Int32).toInt = 0 := by decide
  have h1 := Int32.le_iff_toInt_le.mp h.1
  have h2 := Int32.le_iff_toInt_le.mp h.2
  have h3 := pk_sub_toInt (a := n) (b := 1) (by omega) (by omega)
  rw [show nI 1 = (1 : Int32) from rfl] at h3
  rw [vp_in_iff]
  omega
theorem s45_0 {t : SS} {e : Int32} {i : Nat} : su t 45 0 e 0 i = t 0 i := rfl
theorem s45_1 {t : SS} {e : Int32} {i : Nat} : su t 45 0 e 1 i = t 1 i := rfl
theorem s45_2 {t : SS} {e : Int32} {i : Nat} : su t 45 0 e 2 i = t 2 i := rfl
theorem s45_3 {t : SS} {e : Int32} {i : Nat} : su t 45 0 e 3 i = t 3 i := rfl
theorem s45_4 {t : SS} {e : Int32} {i : Nat} : su t 45 0 e 4 i = t 4 i := rfl
theorem s45_5 {t : SS} {e : Int32} {i : Nat} : su t 45 0 e 5 i = t 5 i := rfl
theorem s45_6 {t : SS} {e : Int32} {i : Nat} : su t 45 0 e 6 i = t 6 i := rfl
theorem s45_7 {t : SS} {e : Int32} {i : Nat} : su t 45 0 e 7 i = t 7 i := rfl
theorem s45_8 {t : SS} {e : Int32} {i : Nat} : su t 45 0 e 8 i = t 8 i := rfl
theorem s45_9 {t : SS} {e : Int32} {i : Nat} : su t 45 0 e 9 i = t 9 i := rfl
theorem s45_10 {t : SS} {e : Int32} {i : Nat} : su t 45 0 e 10 i = t 10 i := rfl
theorem s45_11 {t : SS} {e : Int32} {i : Nat} : su t 45 0 e 11 i = t 11 i := rfl
theorem s45_12 {t : SS} {e : Int32} {i : Nat} : su t 45 0 e 12 i = t 12 i := rfl
theorem s45_13 {t : SS} {e : Int32} {i : Nat} : su t 45 0 e 13 i = t 13 i := rfl
theorem s45_14 {t : SS} {e : Int32} {i : Nat} : su t 45 0 e 14 i = t 14 i := rfl
theorem s45_15 {t : SS} {e : Int32} {i : Nat} : su t 45 0 e 15 i = t 15 i := rfl
theorem s45_16 {t : SS} {e : Int32} {i : Nat} : su t 45 0 e 16 i = t 16 i := rfl
theorem s45_17 {t : SS} {e : Int32} {i : Nat} : su t 45 0 e 17 i = t 17 i := rfl
theorem s45_18 {t : SS} {e : Int32} {i : Nat} : su t 45 0 e 18 i = t 18 i := rfl
theorem s45_19 {t : SS} {e : Int32} {i : Nat} : su t 45 0 e 19 i = t 19 i := rfl
theorem s45_20 {t : SS} {e : Int32} {i : Nat} : su t 45 0 e 20 i = t 20 i := rfl
theorem s45_21 {t : SS} {e : Int32} {i : Nat} : su t 45 0 e 21 i = t 21 i := rfl
theorem s45_22 {t : SS} {e : Int32} {i : Nat} : su t 45 0 e 22 i = t 22 i := rfl
theorem s45_23 {t : SS} {e : Int32} {i : Nat} : su t 45 0 e 23 i = t 23 i := rfl
theorem s45_24 {t : SS} {e : Int32} {i : Nat} : su t 45 0 e 24 i = t 24 i := rfl
theorem s45_25 {t : SS} {e : Int32} {i : Nat} : su t 45 0 e 25 i = t 25 i := rfl
theorem s45_26 {t : SS} {e : Int32} {i : Nat} : su t 45 0 e 26 i = t 26 i := rfl
theorem s45_27 {t : SS} {e : Int32} {i : Nat} : su t 45 0 e 27 i = t 27 i := rfl
theorem s45_28 {t : SS} {e : Int32} {i : Nat} : su t 45 0 e 28 i = t 28 i := rfl
theorem s45_29 {t : SS} {e : Int32} {i : Nat} : su t 45 0 e 29 i = t 29 i := rfl
theorem s45_30 {t : SS} {e : Int32} {i : Nat} : su t 45 0 e 30 i = t 30 i := rfl
theorem s45_31 {t : SS} {e : Int32} {i : Nat} : su t 45 0 e 31 i = t 31 i := rfl
theorem s45_32 {t : SS} {e : Int32} {i : Nat} : su t 45 0 e 32 i = t 32 i := rfl
theorem s45_33 {t : SS} {e : Int32} {i : Nat} : su t 45 0 e 33 i = t 33 i := rfl
theorem s45_34 {t : SS} {e : Int32} {i : Nat} : su t 45 0 e 34 i = t 34 i := rfl
theorem s45_35 {t : SS} {e : Int32} {i : Nat} : su t 45 0 e 35 i = t 35 i := rfl
theorem s45_36 {t : SS} {e : Int32} {i : Nat} : su t 45 0 e 36 i = t 36 i := rfl
theorem s45_37 {t : SS} {e : Int32} {i : Nat} : su t 45 0 e 37 i = t 37 i := rfl
theorem s45_38 {t : SS} {e : Int32} {i : Nat} : su t 45 0 e 38 i = t 38 i := rfl
theorem s45_39 {t : SS} {e : Int32} {i : Nat} : su t 45 0 e 39 i = t 39 i := rfl
theorem s45_40 {t : SS} {e : Int32} {i : Nat} : su t 45 0 e 40 i = t 40 i := rfl
theorem s45_41 {t : SS} {e : Int32} {i : Nat} : su t 45 0 e 41 i = t 41 i := rfl
theorem s45_42 {t : SS} {e : Int32} {i : Nat} : su t 45 0 e 42 i = t 42 i := rfl
theorem s45_43 {t : SS} {e : Int32} {i : Nat} : su t 45 0 e 43 i = t 43 i := rfl
theorem s45_44 {t : SS} {e : Int32} {i : Nat} : su t 45 0 e 44 i = t 44 i := rfl

def sumN (f : Nat → Int32) : Nat → Int32
  | 0 => 0
  | i + 1 => sumN f i + f i
def livN (z : SS) (n : Nat) : Int32 := sumN (fun i => if z 17 i = 0 then 0 else 1) n
/-- the latest claim that is held and has the cell -/
def heldM (z : SS) (x : Int32) : Nat → Int32
  | 0 => -1
  | i + 1 => if ¬ z 25 i = 0 ∧ (z 23 i ≤ x ∧ x ≤ z 23 i + z 24 i - 1) then nI i else heldM z x i
def freeM (z : SS) (c nc : Nat) : Nat → Int32
  | 0 => 1
  | i + 1 => if freeM z c nc i = 0 then 0 else if heldM z (nI (c + i)) nc = -1 then 1 else 0
def minF (x y : Int32) : Int32 := if x < y then x else y
def lfW (z : SS) : Nat → Int32
  | 0 => z 1 0
  | i + 1 => lfW z i - (if z 17 (tn (z 34 i)) = 0 then 0 else minF (z 35 i) (lfW z i))
def gvW (z : SS) : Nat → Int32
  | 0 => 0
  | i + 1 => if z 17 (tn (z 34 i)) = 0 then 0 else minF (z 35 i) (lfW z i)
def inW (z : SS) (x : Int32) (n : Nat) : Int32 := sumN (fun i => if z 34 i = x then gvW z (i + 1) else 0) n
def needF (m : Int32) : Int32 := if m = 0 then 0 else if m = 1 then 2 else if m = 2 then 10 else 40
def mostF (m : Int32) : Int32 := if m = 0 then 20 else if m = 1 then 100 else if m = 2 then 400 else 2000
def hundF (m : Int32) : Int32 := if m = 0 then 90 else if m = 1 then 70 else if m = 2 then 80 else 50
def takF (m g : Int32) : Int32 := minF g (mostF m)
def recF (m g c : Int32) : Int32 := minF g (mostF m) * (hundF m - 3 * c) / 100
def shW (z : SS) (j : Nat) (m : Int32) : Nat → SS
  | 0 => z
  | b + 1 => su (shW z j m b) 13 b (shW z j m b 13 b + m * z 20 (12 * j + b) / 100)
def shL (z : SS) (j : Nat) (m : Int32) : Nat → Int32
  | 0 => m
  | b + 1 => shL z j m b - m * z 20 (12 * j + b) / 100
theorem shW_o {z : SS} {j : Nat} {m : Int32} {k : Nat} (h : k ≠ 13) : ∀ n, shW z j m n k = z k
  | 0 => rfl
  | n + 1 => by rw [shW, su_o h, shW_o h n]
def shaF (z : SS) (j : Nat) (m : Int32) (n : Nat) : SS := su (shW z j m n) 13 j (shW z j m n 13 j + shL z j m n)
def mayF (z : SS) (nc : Nat) (x c m : Int32) : Int32 := if heldM z c nc = -1 then (if m = 0 then 1 else 0) else if z 22 (tn (heldM z c nc)) = x then 1 else 0
theorem heldM_in {z : SS} {x : Int32} : ∀ n, heldM z x n = -1 ∨ ∃ i, i < n ∧ heldM z x n = nI i
  | 0 => Or.inl rfl
  | n + 1 => by
    unfold heldM
    split
    · exact Or.inr ⟨n, by omega, rfl⟩
    · rcases heldM_in n with h | ⟨i, hi, h⟩
      · exact Or.inl h
      · exact Or.inr ⟨i, by omega, h⟩
theorem heldM_vp {z : SS} {x : Int32} {n : Nat} (h : ¬ heldM z x n = -1) (hn : n ≤ 30) : vp_in (heldM z x n) 30 := by
  rcases heldM_in (z := z) (x := x) n with h1 | ⟨i, hi, h1⟩
  · exact absurd h1 h
  · rw [h1]; exact vp_in_nI (by omega) (by omega)
def eatF (z : SS) (j : Nat) : SS := if 0 < z 15 j then su (su z 15 j (z 15 j - 1)) 17 j (minF (z 17 j + 1) 10) else su z 17 j (if z 17 j < 2 then 0 else z 17 j - 2)
def sltW (z : SS) (c : Nat) : Nat → Int32
  | 0 => 0
  | k + 1 => if ¬ sltW z c k = 0 then 1 else if (z 40 k = z 29 c ∧ (z 23 c ≤ z 41 k ∧ z 41 k ≤ z 23 c + z 24 c - 1)) ∧ (z 32 c - 30 ≤ z 42 k ∧ z 42 k ≤ z 32 c) then 1 else 0
theorem freeM_z {z : SS} {c nc : Nat} : ∀ {n : Nat}, narrow .boolean (.int (freeM z c nc n)) = .int (freeM z c nc n)
  | 0 => by unfold freeM; rfl
  | n + 1 => by
    unfold freeM
    split
    · rfl
    · split <;> rfl
theorem sltW_z {z : SS} {c : Nat} : ∀ {n : Nat}, narrow .boolean (.int (sltW z c n)) = .int (sltW z c n)
  | 0 => by unfold sltW; rfl
  | n + 1 => by
    unfold sltW
    split
    · rfl
    · split <;> rfl
theorem heldM_c {z z' : SS} {x : Int32} (h25 : z' 25 = z 25) (h23 : z' 23 = z 23) (h24 : z' 24 = z 24) : ∀ n, heldM z' x n = heldM z x n
  | 0 => rfl
  | n + 1 => by unfold heldM; rw [h25, h23, h24, heldM_c h25 h23 h24 n]
theorem heldM_45 {z : SS} {e : Int32} {x : Int32} {n : Nat} : heldM (su z 45 0 e) x n = heldM z x n := heldM_c (z := z) (z' := su z 45 0 e) rfl rfl rfl n
theorem lfW_c {z z' : SS} (h1 : z' 1 = z 1) (h17 : z' 17 = z 17) (h34 : z' 34 = z 34) (h35 : z' 35 = z 35) : ∀ n, lfW z' n = lfW z n
  | 0 => by unfold lfW; rw [h1]
  | n + 1 => by unfold lfW; rw [h17, h34, h35, lfW_c h1 h17 h34 h35 n]
theorem gvW_c {z z' : SS} (h1 : z' 1 = z 1) (h17 : z' 17 = z 17) (h34 : z' 34 = z 34) (h35 : z' 35 = z 35) : ∀ n, gvW z' n = gvW z n
  | 0 => rfl
  | n + 1 => by simp only [gvW, h17, h34, h35, lfW_c h1 h17 h34 h35 n]
theorem gvW_45 {z : SS} {e : Int32} {n : Nat} : gvW (su z 45 0 e) n = gvW z n := gvW_c (z := z) (z' := su z 45 0 e) rfl rfl rfl rfl n
theorem inW_c {z z' : SS} {x : Int32} (h1 : z' 1 = z 1) (h17 : z' 17 = z 17) (h34 : z' 34 = z 34) (h35 : z' 35 = z 35) (n : Nat) : inW z' x n = inW z x n := by
  unfold inW
  congr 1
  funext i
  rw [h34, gvW_c h1 h17 h34 h35]
theorem inW_45 {z : SS} {e x : Int32} {n : Nat} : inW (su z 45 0 e) x n = inW z x n := inW_c (z := z) (z' := su z 45 0 e) rfl rfl rfl rfl n
theorem sltW_c {z z' : SS} {c : Nat} (h23 : z' 23 = z 23) (h24 : z' 24 = z 24) (h29 : z' 29 = z 29) (h32 : z' 32 = z 32) (h40 : z' 40 = z 40) (h41 : z' 41 = z 41) (h42 : z' 42 = z 42) : ∀ n, sltW z' c n = sltW z c n
  | 0 => rfl
  | n + 1 => by unfold sltW; rw [h23, h24, h29, h32, h40, h41, h42, sltW_c h23 h24 h29 h32 h40 h41 h42 n]
theorem livN_45 {z : SS} {e : Int32} {n : Nat} : livN (su z 45 0 e) n = livN z n := rfl
theorem sum9_45 {z : SS} {e : Int32} {n : Nat} : sumN ((su z 45 0 e) 9) n = sumN (z 9) n := rfl
theorem sum13_45 {z : SS} {e : Int32} {n : Nat} : sumN ((su z 45 0 e) 13) n = sumN (z 13) n := rfl
theorem ix144 {x y : Int32} (hx : vp_in x 12) (hy : vp_in y 12) : vp_in (12 * y + x) 144 ∧ (12 * y + x).toNatClampNeg = 12 * tn y + tn x := by
  obtain ⟨i, hi, rfl⟩ := vp_in_of hx (by omega)
  obtain ⟨j, hj, rfl⟩ := vp_in_of hy (by omega)
  have e1 : tn (nI i) = i := nI_clamp (by omega)
  have e2 : tn (nI j) = j := nI_clamp (by omega)
  rw [e1, e2, show (12 : Int32) = nI 12 from rfl, pk_mul, nI_add]
  exact ⟨vp_in_nI (by omega) (by omega), nI_clamp (by omega)⟩
def brF (d b a : Int32) : Int32 := (d.toInt64 * b.toInt64 / a.toInt64).toInt32
def payF (d r : Int32) : Int32 := (d.toInt64 * r.toInt64 / 10).toInt32
theorem i64_ne {x d : Int32} (h1 : (1 : Int32) ≤ d) (h2 : d ≤ x) : ¬ x.toInt64 = 0 := by
  intro h
  have h3 : x.toInt64.toInt = 0 := by rw [h]; rfl
  rw [Int32.toInt_toInt64] at h3
  have h4 := Int32.le_iff_toInt_le.mp h1
  have h5 := Int32.le_iff_toInt_le.mp h2
  have h6 : (1 : Int32).toInt = 1 := by decide
  omega
theorem vp_up {x : Int32} {n N : Nat} (h : vp_in x n) (hn : n ≤ N) : vp_in x N := by
  rw [vp_in_iff] at h ⊢
  omega
theorem sltW_su {z : SS} {c n i : Nat} {v e : Int32} : sltW (su (su z 45 0 e) 28 i v) c n = sltW z c n := sltW_c (z := z) (z' := su (su z 45 0 e) 28 i v) rfl rfl rfl rfl rfl rfl rfl n
theorem sltW_45 {z : SS} {c n : Nat} {e : Int32} : sltW (su z 45 0 e) c n = sltW z c n := sltW_c (z := z) (z' := su z 45 0 e) rfl rfl rfl rfl rfl rfl rfl n

def groundE (z : SS) (c : Int32) (m : Int32) (g : Int32) : Int32 := if ¬ ((0 : Int32) ≤ c ∧ c ≤ 39) then 1 else if ¬ ((0 ≤ m ∧ m ≤ 100000) ∧ (0 ≤ g ∧ g ≤ 9)) then 2 else if 0 < z 0 0 ∨ ¬ z 8 0 = 0 then 3 else 0
def groundR (z : SS) (c : Int32) (m : Int32) (g : Int32) : Int32 := z 9 (tn c)
def groundU (z : SS) (c : Int32) (m : Int32) (g : Int32) : SS := su (su z 9 (tn c) m) 10 (tn c) g
def flowE (z : SS) (x : Int32) : Int32 := if (0 ≤ x ∧ x ≤ 1000) then 0 else 1
def flowR (z : SS) (x : Int32) : Int32 := z 1 0
def flowU (z : SS) (x : Int32) : SS := su z 1 0 x
def minerE (z : SS) (nm : Nat) (f : Int32) (c : Int32) : Int32 := if ¬ ((0 ≤ f ∧ f ≤ 1000) ∧ (0 ≤ c ∧ c ≤ 100000)) then 1 else if nm = 12 then 2 else 0
def minerR (z : SS) (nm : Nat) (f : Int32) (c : Int32) : Int32 := nI nm
def minerU (z : SS) (nm : Nat) (f : Int32) (c : Int32) : SS := su (su (su (su (su z 15 nm f) 16 nm c) 17 nm 10) 19 nm (-1)) 12 0 (nI (nm + 1))
def rateE (z : SS) (x : Int32) : Int32 := if (1 ≤ x ∧ x ≤ 100) then 0 else 1
def rateR (z : SS) (x : Int32) : Int32 := z 4 0
def rateU (z : SS) (x : Int32) : SS := su z 4 0 x
def rightE (z : SS) (nr : Nat) (x : Int32) (i_ : Int32) : Int32 := if ¬ ((0 : Int32) ≤ x ∧ x ≤ z 12 0 - 1) then 1 else if ¬ (1 ≤ i_ ∧ i_ ≤ 200) then 2 else if z 17 (tn x) = 0 ∨ nr = 20 then 3 else 0
def rightR (z : SS) (nr : Nat) (x : Int32) (i_ : Int32) : Int32 := nI nr
def rightU (z : SS) (nr : Nat) (x : Int32) (i_ : Int32) : SS := su (su (su z 34 nr x) 35 nr i_) 33 0 (nI (nr + 1))
def sampleE (z : SS) (c : Int32) : Int32 := if ((0 : Int32) ≤ c ∧ c ≤ 39) then 0 else 1
def sampleR (z : SS) (c : Int32) : Int32 := z 9 (tn c) / 100
def brassE (z : SS) (x : Int32) (m : Int32) : Int32 := if ¬ ((0 : Int32) ≤ x ∧ x ≤ z 12 0 - 1) then 1 else if ¬ (1 ≤ m ∧ m ≤ 10000) then 2 else if z 17 (tn x) = 0 ∨ 100000 < z 14 (tn x) + m then 3 else 0
def brassR (z : SS) (x : Int32) (m : Int32) : Int32 := z 14 (tn x) + m
def brassU (z : SS) (x : Int32) (m : Int32) : SS := su z 14 (tn x) (z 14 (tn x) + m)
def rumourE (z : SS) (c : Int32) (b : Int32) : Int32 := if ¬ ((0 : Int32) ≤ c ∧ c ≤ 39) then 1 else if (0 ≤ b ∧ b ≤ 100) then 0 else 2
def rumourR (z : SS) (c : Int32) (b : Int32) : Int32 := z 11 (tn c)
def rumourU (z : SS) (c : Int32) (b : Int32) : SS := su z 11 (tn c) b
def beliefE (z : SS) (c : Int32) : Int32 := if ((0 : Int32) ≤ c ∧ c ≤ 39) then 0 else 1
def beliefR (z : SS) (c : Int32) : Int32 := z 11 (tn c)
def holdsE (z : SS) (nc : Nat) (c : Int32) : Int32 := if ((0 : Int32) ≤ c ∧ c ≤ 39) then 0 else 1
def holdsR (z : SS) (nc : Nat) (c : Int32) : Int32 := heldM z c nc
def meetE (z : SS) (nm : Nat) (m : Int32) (d : Int32) (y : Int32) (n_ : Int32) : Int32 := if ((1 ≤ m ∧ m ≤ 10) ∧ (1 ≤ d ∧ d ≤ 100) ∧ (0 ≤ y ∧ y ≤ 12) ∧ (0 ≤ n_ ∧ n_ ≤ 12)) ∧ y + n_ ≤ livN z nm then 0 else 1
def meetR (z : SS) (nm : Nat) (m : Int32) (d : Int32) (y : Int32) (n_ : Int32) : Int32 := bI (n_ < y)
def meetU (z : SS) (nm : Nat) (m : Int32) (d : Int32) (y : Int32) (n_ : Int32) : SS := if n_ < y then su (su z 2 0 m) 3 0 d else z
def buyE (z : SS) (x : Int32) (m : Int32) : Int32 := if ¬ ((0 : Int32) ≤ x ∧ x ≤ z 12 0 - 1) then 1 else if ¬ (1 ≤ m ∧ m ≤ 1000) then 2 else if z 17 (tn x) = 0 ∨ z 5 0 < m ∨ z 16 (tn x) < m * priceF (z 5 0) then 3 else 0
def buyR (z : SS) (x : Int32) (m : Int32) : Int32 := m * priceF (z 5 0)
def buyU (z : SS) (x : Int32) (m : Int32) : SS := su (su (su z 5 0 (z 5 0 - m)) 15 (tn x) (z 15 (tn x) + m)) 16 (tn x) (z 16 (tn x) - m * priceF (z 5 0))
def goldE (z : SS) (nm : Nat) (w_ : Int32) : Int32 := if (0 ≤ w_ ∧ w_ ≤ 4) then 0 else 1
def goldR (z : SS) (nm : Nat) (w_ : Int32) : Int32 := if w_ = 0 then sumN (z 9) 40 else if w_ = 1 then z 6 0 else if w_ = 2 then sumN (z 13) nm else if w_ = 3 then z 7 0 else sumN (z 9) 40 + z 6 0 + sumN (z 13) nm + z 7 0
def campE (z : SS) (nm : Nat) (w_ : Int32) : Int32 := if (0 ≤ w_ ∧ w_ ≤ 5) then 0 else 1
def campR (z : SS) (nm : Nat) (w_ : Int32) : Int32 := if w_ = 0 then z 2 0 else if w_ = 1 then z 3 0 else if w_ = 2 then z 5 0 else if w_ = 3 then priceF (z 5 0) else if w_ = 4 then z 36 0 else livN z nm
def getsE (z : SS) (x : Int32) : Int32 := if ((0 : Int32) ≤ x ∧ x ≤ z 33 0 - 1) then 0 else 1
def getsR (z : SS) (x : Int32) : Int32 := gvW z (tn x + 1)
def ofClaimE (z : SS) (x : Int32) (w_ : Int32) : Int32 := if ¬ ((0 : Int32) ≤ x ∧ x ≤ z 21 0 - 1) then 1 else if (0 ≤ w_ ∧ w_ ≤ 5) then 0 else 2
def ofClaimR (z : SS) (x : Int32) (w_ : Int32) : Int32 := if w_ = 0 then z 22 (tn x) else if w_ = 1 then z 23 (tn x) else if w_ = 2 then z 24 (tn x) else if w_ = 3 then bI (¬ z 25 (tn x) = 0) else if w_ = 4 then z 26 (tn x) else z 27 (tn x)
def backE (z : SS) (nm : Nat) (x : Int32) (y : Int32) (p : Int32) (m : Int32) : Int32 := if ¬ (((0 : Int32) ≤ x ∧ x ≤ z 12 0 - 1) ∧ ((0 : Int32) ≤ y ∧ y ≤ z 12 0 - 1)) then 1 else if ¬ ((1 ≤ p ∧ p ≤ 100) ∧ (0 ≤ m ∧ m ≤ 100000) ∧ ¬ x = y) then 2 else if z 17 (tn x) = 0 ∨ z 17 (tn y) = 0 ∨ ¬ z 20 (12 * tn y + tn x) = 0 ∨ z 16 (tn x) < m ∨ 100 < sumN (fun b => z 20 (12 * tn y + b)) nm + p then 3 else 0
def backU (z : SS) (nm : Nat) (x : Int32) (y : Int32) (p : Int32) (m : Int32) : SS := su (su (su z 20 (12 * tn y + tn x) p) 16 (tn x) (z 16 (tn x) - m)) 16 (tn y) ((su z 16 (tn x) (z 16 (tn x) - m)) 16 (tn y) + m)
def endE (z : SS) (x : Int32) (y : Int32) : Int32 := if ¬ (((0 : Int32) ≤ x ∧ x ≤ z 12 0 - 1) ∧ ((0 : Int32) ≤ y ∧ y ≤ z 12 0 - 1)) then 1 else if 0 < z 20 (12 * tn y + tn x) then 0 else 2
def endR (z : SS) (x : Int32) (y : Int32) : Int32 := z 20 (12 * tn y + tn x)
def endU (z : SS) (x : Int32) (y : Int32) : SS := su z 20 (12 * tn y + tn x) 0
def saltE (z : SS) (ns : Nat) (x : Int32) (c : Int32) (m : Int32) : Int32 := if ¬ (((0 : Int32) ≤ x ∧ x ≤ z 12 0 - 1) ∧ ((0 : Int32) ≤ c ∧ c ≤ 39)) then 1 else if ¬ (1 ≤ m ∧ m ≤ 10000) then 2 else if z 17 (tn x) = 0 ∨ z 13 (tn x) < m then 3 else 0
def saltR (z : SS) (ns : Nat) (x : Int32) (c : Int32) (m : Int32) : Int32 := z 9 (tn c) + m
def saltU (z : SS) (ns : Nat) (x : Int32) (c : Int32) (m : Int32) : SS := su (su (su (su (su (su (su z 13 (tn x) (z 13 (tn x) - m)) 9 (tn c) (z 9 (tn c) + m)) 40 ns x) 41 ns c) 42 ns (z 0 0)) 39 0 (nI (ns + 1))) 8 0 1
def freightE (z : SS) (nf : Nat) (m : Int32) (d : Int32) : Int32 := if ¬ ((1 ≤ m ∧ m ≤ 1000) ∧ (z 0 0 + 1 ≤ d ∧ d ≤ 5000)) then 1 else if nf = 20 then 2 else 0
def freightU (z : SS) (nf : Nat) (m : Int32) (d : Int32) : SS := su (su (su z 37 nf m) 38 nf d) 36 0 (nI (nf + 1))
def sellE (z : SS) (x : Int32) (d : Int32) : Int32 := if ¬ ((0 : Int32) ≤ x ∧ x ≤ z 12 0 - 1) then 1 else if ¬ (1 ≤ d ∧ d ≤ 1000000) then 2 else if z 17 (tn x) = 0 ∨ z 13 (tn x) + z 14 (tn x) < d then 3 else 0
def sellR (z : SS) (x : Int32) (d : Int32) : Int32 := if z 13 (tn x) + z 14 (tn x) < 20 * z 14 (tn x) then -1 else payF d (z 4 0)
def sellU (z : SS) (x : Int32) (d : Int32) : SS := if z 13 (tn x) + z 14 (tn x) < 20 * z 14 (tn x) then su z 18 (tn x) (z 18 (tn x) + 1) else su (su (su (su z 14 (tn x) (z 14 (tn x) - brF d (z 14 (tn x)) (z 13 (tn x) + z 14 (tn x)))) 13 (tn x) (z 13 (tn x) - (d - brF d (z 14 (tn x)) (z 13 (tn x) + z 14 (tn x))))) 7 0 (z 7 0 + (d - brF d (z 14 (tn x)) (z 13 (tn x) + z 14 (tn x))))) 16 (tn x) (z 16 (tn x) + payF d (z 4 0))
def tradeE (z : SS) (c : Int32) (b : Int32) (m : Int32) : Int32 := if ¬ (((0 : Int32) ≤ c ∧ c ≤ z 21 0 - 1) ∧ ((0 : Int32) ≤ b ∧ b ≤ z 12 0 - 1)) then 1 else if ¬ ((0 ≤ m ∧ m ≤ 100000) ∧ ¬ b = z 22 (tn c)) then 2 else if z 25 (tn c) = 0 ∨ z 17 (tn b) = 0 ∨ z 16 (tn b) < m then 3 else 0
def tradeR (z : SS) (c : Int32) (b : Int32) (m : Int32) : Int32 := z 22 (tn c)
def tradeU (z : SS) (c : Int32) (b : Int32) (m : Int32) : SS := su (su (su (su (su (su (su (su z 29 (tn c) (z 22 (tn c))) 30 (tn c) b) 31 (tn c) m) 32 (tn c) (z 0 0)) 28 (tn c) 0) 16 (tn b) (z 16 (tn b) - m)) 16 (tn (z 22 (tn c))) ((su z 16 (tn b) (z 16 (tn b) - m)) 16 (tn (z 22 (tn c))) + m)) 22 (tn c) b
def suitE (z : SS) (ns : Nat) (c : Int32) : Int32 := if ¬ ((0 : Int32) ≤ c ∧ c ≤ z 21 0 - 1) then 1 else if z 32 (tn c) = -1 ∨ ¬ z 28 (tn c) = 0 ∨ 30 < z 0 0 - z 32 (tn c) then 2 else 0
def suitR (z : SS) (ns : Nat) (c : Int32) : Int32 := if sltW z (tn c) ns = 0 then -1 else minF (z 31 (tn c)) (z 16 (tn (z 29 (tn c))))
def suitU (z : SS) (ns : Nat) (c : Int32) : SS := if sltW z (tn c) ns = 0 then su z 28 (tn c) 1 else su (su (su z 28 (tn c) 1) 16 (tn (z 29 (tn c))) (z 16 (tn (z 29 (tn c))) - minF (z 31 (tn c)) (z 16 (tn (z 29 (tn c)))))) 16 (tn (z 30 (tn c))) ((su z 16 (tn (z 29 (tn c))) (z 16 (tn (z 29 (tn c))) - minF (z 31 (tn c)) (z 16 (tn (z 29 (tn c)))))) 16 (tn (z 30 (tn c))) + minF (z 31 (tn c)) (z 16 (tn (z 29 (tn c)))))

theorem vp_rng1 {x M : Int32} {n N : Nat} (hM : M.toInt = n) (hN : n < N) (h : (1 : Int32) ≤ x ∧ x ≤ M) : vp_in x N := by
  have h0 : (1 : Int32).toInt = 1 := by decide
  have h1 := Int32.le_iff_toInt_le.mp h.1
  have h2 := Int32.le_iff_toInt_le.mp h.2
  rw [vp_in_iff]
  omega
theorem ix40 {c : Int32} (h : (0 : Int32) ≤ c ∧ c ≤ 39) (h9 : ¬ c = 39) : vp_in (c + 1) 40 ∧ (c + 1).toNatClampNeg = tn c + 1 := by
  obtain ⟨j, hj, rfl⟩ := vp_in_of (vp_rng (n := 39) rfl (by decide : 39 < 40) h) (by omega)
  have : ¬ j = 39 := fun e => h9 (by rw [e]; rfl)
  rw [show tn (nI j) = j from nI_clamp (by omega), nI_1]
  exact ⟨vp_in_nI (by omega) (by omega), nI_clamp (by omega)⟩
theorem shaF_o {z : SS} {j : Nat} {m : Int32} {n k : Nat} (h : k ≠ 13) : shaF z j m n k = z k := by
  unfold shaF
  rw [su_o h, shW_o h]
def digF (z : SS) (c m : Int32) : SS := if c = 39 then su (su z 9 (tn c) (z 9 (tn c) - takF m (z 9 (tn c)))) 6 0 (z 6 0 + (takF m (z 9 (tn c)) - recF m (z 9 (tn c)) (z 10 (tn c)))) else su (su z 9 (tn c) (z 9 (tn c) - takF m (z 9 (tn c)))) 9 (tn c + 1) (su z 9 (tn c) (z 9 (tn c) - takF m (z 9 (tn c))) 9 (tn c + 1) + (takF m (z 9 (tn c)) - recF m (z 9 (tn c)) (z 10 (tn c))))
def wkE (z : SS) (h d : Int32) : SS := if h = -1 then z else su z 26 (tn h) d
def arS (z : SS) : Nat → SS × Nat
  | 0 => (z, 0)
  | k + 1 => if (arS z k).1 38 k = z 0 0 then (su (arS z k).1 5 0 ((arS z k).1 5 0 + (arS z k).1 37 k), (arS z k).2) else (su (su (arS z k).1 37 (arS z k).2 ((arS z k).1 37 k)) 38 (arS z k).2 ((arS z k).1 38 k), (arS z k).2 + 1)
theorem arS_le {z : SS} : ∀ n, (arS z n).2 ≤ n
  | 0 => Nat.le_refl _
  | n + 1 => by
    have := arS_le (z := z) n
    unfold arS
    split
    · show (arS z n).2 ≤ n + 1
      omega
    · show (arS z n).2 + 1 ≤ n + 1
      omega
theorem arS_o {z : SS} {k : Nat} (h5 : k ≠ 5) (h37 : k ≠ 37) (h38 : k ≠ 38) : ∀ n, (arS z n).1 k = z k
  | 0 => rfl
  | n + 1 => by
    unfold arS
    split
    · show su _ 5 0 _ k = _
      rw [su_o h5, arS_o h5 h37 h38 n]
    · show su (su _ 37 _ _) 38 _ _ k = _
      rw [su_o h38, su_o h37, arS_o h5 h37 h38 n]
def arF (z : SS) (n : Nat) : SS := su (arS z n).1 36 0 (nI (arS z n).2)
theorem arF_o {z : SS} {n k : Nat} (h5 : k ≠ 5) (h36 : k ≠ 36) (h37 : k ≠ 37) (h38 : k ≠ 38) : arF z n k = z k := by
  unfold arF
  rw [su_o h36, arS_o h5 h37 h38]
def pegE (z : SS) (nc : Nat) (x : Int32) (c : Int32) (m : Int32) : Int32 := if ¬ (((0 : Int32) ≤ x ∧ x ≤ z 12 0 - 1) ∧ ((0 : Int32) ≤ c ∧ c ≤ 39) ∧ m ≤ 40 - c) then 1 else if ¬ (1 ≤ m ∧ m ≤ 10) then 2 else if z 17 (tn x) = 0 ∨ z 2 0 < m ∨ freeM z (tn c) nc (tn m) = 0 ∨ nc = 30 then 3 else 0
def pegR (z : SS) (nc : Nat) (x : Int32) (c : Int32) (m : Int32) : Int32 := nI nc
def pegU (z : SS) (nc : Nat) (x : Int32) (c : Int32) (m : Int32) : SS := su (su (su (su (su (su (su (su z 22 nc x) 23 nc c) 24 nc m) 25 nc 1) 26 nc (z 0 0)) 27 nc (z 3 0)) 32 nc (-1)) 21 0 (nI (nc + 1))
def workE (z : SS) (nm : Nat) (nc : Nat) (nr : Nat) (x : Int32) (c : Int32) (m : Int32) : Int32 := if ¬ (((0 : Int32) ≤ x ∧ x ≤ z 12 0 - 1) ∧ ((0 : Int32) ≤ c ∧ c ≤ 39)) then 1 else if ¬ ((0 : Int32) ≤ m ∧ m ≤ 3) then 2 else if z 17 (tn x) = 0 ∨ z 19 (tn x) = z 0 0 ∨ mayF z nc x c m = 0 ∨ inW z x nr < needF m then 3 else 0
def workR (z : SS) (nm : Nat) (nc : Nat) (nr : Nat) (x : Int32) (c : Int32) (m : Int32) : Int32 := recF m (z 9 (tn c)) (z 10 (tn c))
def workU (z : SS) (nm : Nat) (nc : Nat) (nr : Nat) (x : Int32) (c : Int32) (m : Int32) : SS := wkE (su (su (shaF (digF z c m) (tn x) (recF m (z 9 (tn c)) (z 10 (tn c))) nm) 19 (tn x) (z 0 0)) 8 0 1) (heldM z c nc) (z 0 0)
def ofMinerE (z : SS) (nm : Nat) (nr : Nat) (x : Int32) (w_ : Int32) : Int32 := if ¬ ((0 : Int32) ≤ x ∧ x ≤ z 12 0 - 1) then 1 else if (0 ≤ w_ ∧ w_ ≤ 7) then 0 else 2
def ofMinerR (z : SS) (nm : Nat) (nr : Nat) (x : Int32) (w_ : Int32) : Int32 := if w_ = 0 then z 13 (tn x) else if w_ = 1 then z 14 (tn x) else if w_ = 2 then z 15 (tn x) else if w_ = 3 then z 16 (tn x) else if w_ = 4 then z 17 (tn x) else if w_ = 5 then inW z x nr else if w_ = 6 then z 18 (tn x) else sumN (fun b => z 20 (12 * tn x + b)) nm

theorem eatF_o {z : SS} {j k : Nat} (h15 : k ≠ 15) (h17 : k ≠ 17) : eatF z j k = z k := by
  unfold eatF
  split
  · rw [su_o h17, su_o h15]
  · rw [su_o h17]
def eaW (z : SS) : Nat → SS
  | 0 => z
  | i + 1 => if eaW z i 17 i = 0 then eaW z i else eatF (eaW z i) i
theorem eaW_o {z : SS} {k : Nat} (h15 : k ≠ 15) (h17 : k ≠ 17) : ∀ n, eaW z n k = z k
  | 0 => rfl
  | n + 1 => by
    unfold eaW
    split
    · exact eaW_o h15 h17 n
    · rw [eatF_o h15 h17, eaW_o h15 h17 n]
def fadeF (b : Int32) : Int32 := if b < b / 10 + 1 then 0 else b - (b / 10 + 1)
def fdW (z : SS) : Nat → SS
  | 0 => z
  | i + 1 => su (fdW z i) 11 i (fadeF (fdW z i 11 i))
theorem fdW_o {z : SS} {k : Nat} (h : k ≠ 11) : ∀ n, fdW z n k = z k
  | 0 => rfl
  | n + 1 => by
    unfold fdW
    rw [su_o h, fdW_o h n]
def clW (z : SS) : Nat → SS
  | 0 => z
  | i + 1 => su (clW z i) 25 i (if ¬ clW z i 25 i = 0 ∧ ¬ clW z i 17 (tn (z 22 i)) = 0 ∧ z 0 0 - z 26 i ≤ z 27 i then 1 else 0)
theorem clW_o {z : SS} {k : Nat} (h : k ≠ 25) : ∀ n, clW z n k = z k
  | 0 => rfl
  | n + 1 => by
    unfold clW
    rw [su_o h, clW_o h n]
/-- a day -/
def dayF (z : SS) (nm nc nf : Nat) : SS := clW (fdW (arF (eaW (su z 0 0 (z 0 0 + 1)) nm) nf) 40) nc
theorem dayF_o {z : SS} {nm nc nf k : Nat} (h0 : k ≠ 0) (h5 : k ≠ 5) (h11 : k ≠ 11) (h15 : k ≠ 15) (h17 : k ≠ 17) (h25 : k ≠ 25) (h36 : k ≠ 36) (h37 : k ≠ 37) (h38 : k ≠ 38) : dayF z nm nc nf k = z k := by
  unfold dayF
  rw [clW_o h25, fdW_o h11, arF_o h5 h36 h37 h38, eaW_o h15 h17, su_o h0]
def dayN (z : SS) (nm nf : Nat) : Nat := (arS (eaW (su z 0 0 (z 0 0 + 1)) nm) nf).2
theorem dayF_36 {z : SS} {nm nc nf : Nat} : dayF z nm nc nf 36 0 = nI (dayN z nm nf) := by
  unfold dayF
  rw [clW_o (by decide), fdW_o (by decide)]
  unfold arF
  exact su_a
theorem dayF_0 {z : SS} {nm nc nf : Nat} : dayF z nm nc nf 0 0 = z 0 0 + 1 := by
  unfold dayF
  rw [clW_o (by decide), fdW_o (by decide), arF_o (by decide) (by decide) (by decide) (by decide), eaW_o (by decide) (by decide)]
  exact su_a
def psS (z : SS) (nm nc nf : Nat) : Nat → SS × Nat
  | 0 => (z, nf)
  | i + 1 => (dayF (psS z nm nc nf i).1 nm nc (psS z nm nc nf i).2, dayN (psS z nm nc nf i).1 nm (psS z nm nc nf i).2)
theorem psS_o {z : SS} {nm nc nf k : Nat} (h0 : k ≠ 0) (h5 : k ≠ 5) (h11 : k ≠ 11) (h15 : k ≠ 15) (h17 : k ≠ 17) (h25 : k ≠ 25) (h36 : k ≠ 36) (h37 : k ≠ 37) (h38 : k ≠ 38) : ∀ n, (psS z nm nc nf n).1 k = z k
  | 0 => rfl
  | n + 1 => by
    show dayF _ _ _ _ k = _
    rw [dayF_o h0 h5 h11 h15 h17 h25 h36 h37 h38, psS_o h0 h5 h11 h15 h17 h25 h36 h37 h38 n]
theorem psS_le {z : SS} {nm nc nf : Nat} : ∀ n, (psS z nm nc nf n).2 ≤ nf
  | 0 => Nat.le_refl _
  | n + 1 => Nat.le_trans (arS_le _) (psS_le n)
theorem psS_36 {z : SS} {nm nc nf : Nat} (h : z 36 0 = nI nf) : ∀ n, (psS z nm nc nf n).1 36 0 = nI (psS z nm nc nf n).2
  | 0 => h
  | n + 1 => dayF_36
theorem psS_0 {z : SS} {nm nc nf : Nat} : ∀ n, (psS z nm nc nf n).1 0 0 = z 0 0 + nI n
  | 0 => by show z 0 0 = z 0 0 + 0; rw [Int32.add_zero]
  | n + 1 => by
    show dayF _ _ _ _ 0 0 = _
    rw [dayF_0, psS_0 n, nI_succ, Int32.add_assoc]
def passE (z : SS) (nm : Nat) (nc : Nat) (nf : Nat) (x : Int32) : Int32 := if ¬ (1 ≤ x ∧ x ≤ 200) then 1 else if 5000 < z 0 0 + x then 2 else 0
def passR (z : SS) (nm : Nat) (nc : Nat) (nf : Nat) (x : Int32) : Int32 := z 0 0 + x
def passU (z : SS) (nm : Nat) (nc : Nat) (nf : Nat) (x : Int32) : SS := (psS z nm nc nf (tn x)).1

section VN3
variable {X : XS} {G : GG} {cc : ByteArray} {nL : Nat} {own : String} {ret : Option FieldType} {rm : Room} {nm : String} {tb : List ExceptionTableEntry} {w w2 : va_W} {k n : Nat} {Q : State → Prop} {pc q : Nat} {lv : List (Nat × Value)} {st : List Value}
theorem shr_lt {n c m : Nat} (h : n < m) : n / 2 ^ c < m := Nat.lt_of_le_of_lt (Nat.div_le_self _ _) h
theorem v_idivN (C : Cx X G cc nL own ret rm nm tb) {x y : Int32} (a b : Nat) (hx : x = nI a) (hy : y = nI b) (ha : a < 2 ^ 31) (hb0 : 0 < b) (hb : b < 2 ^ 31) (d : decode cc pc = .ok (.idiv, 1)) (hq : pc + 1 = q) (kk : V X G nL w k n Q q lv (.int (nI (a / b)) :: st)) : V X G nL w k n Q pc lv (.int y :: .int x :: st) := by
  subst hx hy
  exact v_idiv C d hq (nI_ne0 hb0 hb) (xx_top (pk_div ha hb0 hb) kk)
theorem v_iremN (C : Cx X G cc nL own ret rm nm tb) {x y : Int32} (a b : Nat) (hx : x = nI a) (hy : y = nI b) (ha : a < 2 ^ 31) (hb0 : 0 < b) (hb : b < 2 ^ 31) (d : decode cc pc = .ok (.irem, 1)) (hq : pc + 1 = q) (kk : V X G nL w k n Q q lv (.int (nI (a % b)) :: st)) : V X G nL w k n Q pc lv (.int y :: .int x :: st) := by
  subst hx hy
  exact v_irem C d hq (nI_ne0 hb0 hb) (xx_top (pk_rem ha hb0 hb) kk)
theorem and31 : ∀ c, c < 32 → (nI c &&& 31) = nI c := by decide +kernel
theorem smod32 : ∀ c, c < 32 → ((nI c).toBitVec.smod 32).toNat = c := by decide +kernel
theorem v_ishrN (C : Cx X G cc nL own ret rm nm tb) {x y : Int32} (a b : Nat) (hx : x = nI a) (hy : y = nI b) (ha : a < 2 ^ 31) (hb : b < 32) (d : decode cc pc = .ok (.ishr, 1)) (hq : pc + 1 = q) (kk : V X G nL w k n Q q lv (.int (nI (a / 2 ^ b)) :: st)) : V X G nL w k n Q pc lv (.int y :: .int x :: st) := by
  subst hx hy
  exact v_ishr C d hq (xx_top (by rw [and31 b hb]; exact pk_shrN ha _ b (smod32 b hb)) kk)
theorem shl1 : ∀ c, c < 31 → (1 : Int32) <<< (nI c &&& 31) = nI (2 ^ c) := by decide +kernel
theorem v_ishl1 (C : Cx X G cc nL own ret rm nm tb) {y : Int32} (b : Nat) (hy : y = nI b) (hb : b < 31) (d : decode cc pc = .ok (.ishl, 1)) (hq : pc + 1 = q) (kk : V X G nL w k n Q q lv (.int (nI (2 ^ b)) :: st)) : V X G nL w k n Q pc lv (.int y :: .int 1 :: st) := by
  subst hy
  exact v_ishl C d hq (xx_top (shl1 b hb) kk)
theorem v_iand1 (C : Cx X G cc nL own ret rm nm tb) {x : Int32} (a : Nat) (hx : x = nI a) (ha : a < 2 ^ 31) (d : decode cc pc = .ok (.iand, 1)) (hq : pc + 1 = q) (kk : V X G nL w k n Q q lv (.int (nI (a % 2)) :: st)) : V X G nL w k n Q pc lv (.int 1 :: .int x :: st) := by
  subst hx
  exact v_iand C d hq (xx_top (pk_andN (by omega) 1 (by decide)) kk)
theorem nI_or {a b : Nat} : nI a ||| nI b = nI (a ||| b) := by
  apply Int32.toBitVec_inj.mp
  show (BitVec.ofNat 32 a ||| BitVec.ofNat 32 b) = BitVec.ofNat 32 (a ||| b)
  apply BitVec.eq_of_getLsbD_eq
  intro i hi
  simp [BitVec.getLsbD_ofNat, Nat.testBit_or]
theorem v_iorN (C : Cx X G cc nL own ret rm nm tb) {x y : Int32} (a b : Nat) (hx : x = nI a) (hy : y = nI b) (d : decode cc pc = .ok (.ior, 1)) (hq : pc + 1 = q) (kk : V X G nL w k n Q q lv (.int (nI (a ||| b)) :: st)) : V X G nL w k n Q pc lv (.int y :: .int x :: st) := by
  subst hx hy
  exact v_ior C d hq (xx_top nI_or kk)
theorem v_ifN_le (C : Cx X G cc nL own ret rm nm tb) {x : Int32} {z : Int} {t : Nat} (a : Nat) (hx : x = nI a) (ha : a < 2 ^ 31) (d : decode cc pc = .ok (.ifCond .le z, 3)) (ht : (pc : Int) + z = (t : Int)) (hq : pc + 3 = q) (kt : a = 0 → V X G nL w k n Q t lv st) (kf : 0 < a → V X G nL w k n Q q lv st) : V X G nL w k n Q pc lv (.int x :: st) := by
  subst hx
  refine v_if_le C d ht hq (fun h => kt ?_) (fun h => kf ?_)
  · have : nI a ≤ nI 0 := h
    have := (nI_leI ha (by omega)).mp this
    omega
  · have h2 : ¬ nI a ≤ nI 0 := h
    rw [nI_leI ha (by omega)] at h2
    omega
end VN3
