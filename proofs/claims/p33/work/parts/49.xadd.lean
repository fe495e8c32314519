/-- the names of a new miner's cells, a new claim's, a new right's -/
def nM (k n : Nat) : List (Nat × Nat) := match k with
  | 0 => [(9, n), (10, n), (11, n)] | 1 => [(12, n)] | _ => [(13, n)]
theorem nM_k {k n : Nat} {q : Nat × Nat} (h : q ∈ nM k n) : 9 ≤ q.1 ∧ q.1 < 14 ∧ q.2 = n := by
  unfold nM at h
  split at h <;> simp at h
  · rcases h with rfl | rfl | rfl <;> exact ⟨Nat.le_of_ble_eq_true rfl, Nat.le_of_ble_eq_true rfl, rfl⟩
  · subst h; exact ⟨Nat.le_of_ble_eq_true rfl, Nat.le_of_ble_eq_true rfl, rfl⟩
  · subst h; exact ⟨Nat.le_of_ble_eq_true rfl, Nat.le_of_ble_eq_true rfl, rfl⟩
theorem nM_n {k n : Nat} : (nM k n).Nodup := by
  unfold nM
  split <;> simp
theorem nM_no {k n : Nat} {s0 : SS} (hk : k < 3) (h : tn (s0 (lI k) 0) = n) : ∀ q ∈ nM k n, ¬ Lv s0 q.1 q.2 := by
  intro q hq
  rcases (show k = 0 ∨ k = 1 ∨ k = 2 by omega) with rfl | rfl | rfl
  · have h : tn (s0 12 0) = n := h
    simp [nM] at hq
    rcases hq with rfl | rfl | rfl <;> (show ¬ n < tn (s0 12 0); omega)
  · have h : tn (s0 21 0) = n := h
    simp [nM] at hq
    subst hq
    show ¬ n < tn (s0 21 0)
    omega
  · have h : tn (s0 33 0) = n := h
    simp [nM] at hq
    subst hq
    show ¬ n < tn (s0 33 0)
    omega
theorem lI_inj : ∀ k : Nat, k < 3 → ∀ i : Nat, i < 3 → i ≠ k → lI i ≠ lI k := by decide
theorem su_b2 {s : SS} {k i k' i' : Nat} {v : Int32} (h : ¬ (k' = k ∧ i' = i)) : su s k i v k' i' = s k' i' := by
  by_cases c : k' = k
  · subst c
    exact su_b (fun e => h ⟨rfl, e⟩)
  · rw [su_o c]
theorem Lv_k0 {n κ i : Nat} {s0 : SS} {v : Int32} (hv : tn v = n + 1) (h : tn (s0 12 0) = n) (h9 : 9 ≤ κ) (h14 : κ < 14) : Lv (su s0 12 0 v) κ i ↔ Lv s0 κ i ∨ (κ, i) ∈ nM 0 n := by
  have e1 : su s0 12 0 v 12 0 = v := su_a
  have e21 : su s0 12 0 v 21 = s0 21 := su_o (by decide)
  have e33 : su s0 12 0 v 33 = s0 33 := su_o (by decide)
  rcases (show κ = 9 ∨ κ = 10 ∨ κ = 11 ∨ κ = 12 ∨ κ = 13 by omega) with rfl | rfl | rfl | rfl | rfl
  · show i < tn (su s0 12 0 v 12 0) ↔ i < tn (s0 12 0) ∨ _
    rw [e1, hv, h]; simp [nM]; omega
  · show i < tn (su s0 12 0 v 12 0) ↔ i < tn (s0 12 0) ∨ _
    rw [e1, hv, h]; simp [nM]; omega
  · show i < tn (su s0 12 0 v 12 0) ↔ i < tn (s0 12 0) ∨ _
    rw [e1, hv, h]; simp [nM]; omega
  · show i < tn (su s0 12 0 v 21 0) ↔ i < tn (s0 21 0) ∨ _
    rw [e21]; simp [nM]
  · show i < tn (su s0 12 0 v 33 0) ↔ i < tn (s0 33 0) ∨ _
    rw [e33]; simp [nM]
theorem Lv_k1 {n κ i : Nat} {s0 : SS} {v : Int32} (hv : tn v = n + 1) (h : tn (s0 21 0) = n) (h9 : 9 ≤ κ) (h14 : κ < 14) : Lv (su s0 21 0 v) κ i ↔ Lv s0 κ i ∨ (κ, i) ∈ nM 1 n := by
  have e1 : su s0 21 0 v 21 0 = v := su_a
  have e12 : su s0 21 0 v 12 = s0 12 := su_o (by decide)
  have e33 : su s0 21 0 v 33 = s0 33 := su_o (by decide)
  rcases (show κ = 9 ∨ κ = 10 ∨ κ = 11 ∨ κ = 12 ∨ κ = 13 by omega) with rfl | rfl | rfl | rfl | rfl
  · show i < tn (su s0 21 0 v 12 0) ↔ i < tn (s0 12 0) ∨ _
    rw [e12]; simp [nM]
  · show i < tn (su s0 21 0 v 12 0) ↔ i < tn (s0 12 0) ∨ _
    rw [e12]; simp [nM]
  · show i < tn (su s0 21 0 v 12 0) ↔ i < tn (s0 12 0) ∨ _
    rw [e12]; simp [nM]
  · show i < tn (su s0 21 0 v 21 0) ↔ i < tn (s0 21 0) ∨ _
    rw [e1, hv, h]; simp [nM]; omega
  · show i < tn (su s0 21 0 v 33 0) ↔ i < tn (s0 33 0) ∨ _
    rw [e33]; simp [nM]
theorem Lv_k2 {n κ i : Nat} {s0 : SS} {v : Int32} (hv : tn v = n + 1) (h : tn (s0 33 0) = n) (h9 : 9 ≤ κ) (h14 : κ < 14) : Lv (su s0 33 0 v) κ i ↔ Lv s0 κ i ∨ (κ, i) ∈ nM 2 n := by
  have e1 : su s0 33 0 v 33 0 = v := su_a
  have e12 : su s0 33 0 v 12 = s0 12 := su_o (by decide)
  have e21 : su s0 33 0 v 21 = s0 21 := su_o (by decide)
  rcases (show κ = 9 ∨ κ = 10 ∨ κ = 11 ∨ κ = 12 ∨ κ = 13 by omega) with rfl | rfl | rfl | rfl | rfl
  · show i < tn (su s0 33 0 v 12 0) ↔ i < tn (s0 12 0) ∨ _
    rw [e12]; simp [nM]
  · show i < tn (su s0 33 0 v 12 0) ↔ i < tn (s0 12 0) ∨ _
    rw [e12]; simp [nM]
  · show i < tn (su s0 33 0 v 12 0) ↔ i < tn (s0 12 0) ∨ _
    rw [e12]; simp [nM]
  · show i < tn (su s0 33 0 v 21 0) ↔ i < tn (s0 21 0) ∨ _
    rw [e21]; simp [nM]
  · show i < tn (su s0 33 0 v 33 0) ↔ i < tn (s0 33 0) ∨ _
    rw [e1, hv, h]; simp [nM]; omega
theorem Lv_k7 {k n i : Nat} {s0 : SS} {v : Int32} (hk : k < 3) (hv : tn v = n + 1) : Lv (su s0 (lI k) 0 v) 7 i ↔ Lv s0 7 i ∨ i = k := by
  show (i < 3 ∧ 0 < tn (su s0 (lI k) 0 v (lI i) 0)) ↔ (i < 3 ∧ 0 < tn (s0 (lI i) 0)) ∨ i = k
  by_cases c : i = k
  · subst c
    rw [su_a, hv]
    exact ⟨fun _ => Or.inr rfl, fun _ => ⟨hk, by omega⟩⟩
  · by_cases c3 : i < 3
    · rw [su_o (lI_inj k hk i c3 c)]
      exact ⟨Or.inl, fun z => z.elim id (fun e => absurd e c)⟩
    · exact ⟨fun z => absurd z.1 c3, fun z => z.elim (fun z => absurd z.1 c3) (fun e => absurd e c)⟩
theorem Lv_s {s : SS} {i : Nat} : (Lv s 0 i ↔ False) ∧ (Lv s 1 i ↔ mA i = true) ∧ (Lv s 2 i ↔ i = 0) ∧ (Lv s 3 i ↔ i = 0) ∧ (Lv s 4 i ↔ i = 0) ∧ (Lv s 5 i ↔ i = 0) ∧ (Lv s 6 i ↔ i < 3) ∧ (Lv s 8 i ↔ i < 5) ∧ (Lv s 14 i ↔ False) := ⟨Iff.rfl, Iff.rfl, Iff.rfl, Iff.rfl, Iff.rfl, Iff.rfl, Iff.rfl, Iff.rfl, Iff.rfl⟩
theorem Lv_kx {κ i : Nat} {s0 s1 : SS} (h7 : κ ≠ 7) (h9 : ¬ (9 ≤ κ ∧ κ < 14)) : Lv s1 κ i ↔ Lv s0 κ i := by
  obtain ⟨a0, a1, a2, a3, a4, a5, a6, a8, a14⟩ := Lv_s (s := s0) (i := i)
  obtain ⟨b0, b1, b2, b3, b4, b5, b6, b8, b14⟩ := Lv_s (s := s1) (i := i)
  match κ, h7, h9 with
  | 0, _, _ => exact b0.trans a0.symm
  | 1, _, _ => exact b1.trans a1.symm
  | 2, _, _ => exact b2.trans a2.symm
  | 3, _, _ => exact b3.trans a3.symm
  | 4, _, _ => exact b4.trans a4.symm
  | 5, _, _ => exact b5.trans a5.symm
  | 6, _, _ => exact b6.trans a6.symm
  | 7, h7, _ => exact absurd rfl h7
  | 8, _, _ => exact b8.trans a8.symm
  | 9, _, h9 => exact absurd (by decide) h9
  | 10, _, h9 => exact absurd (by decide) h9
  | 11, _, h9 => exact absurd (by decide) h9
  | 12, _, h9 => exact absurd (by decide) h9
  | 13, _, h9 => exact absurd (by decide) h9
  | 14, _, _ => exact b14.trans a14.symm
  | m + 15, _, _ => exact ⟨fun z => absurd (Lv.lt z) (by omega), fun z => absurd (Lv.lt z) (by omega)⟩
theorem Lv_new {k n κ i : Nat} {s0 : SS} (hk : k < 3) (hn : n < 30) (h : tn (s0 (lI k) 0) = n) : Lv (su s0 (lI k) 0 (nI (n + 1))) κ i ↔ Lv s0 κ i ∨ (κ, i) ∈ nM k n ∨ (κ = 7 ∧ i = k) := by
  have hv : tn (nI (n + 1)) = n + 1 := nI_clamp (by omega)
  by_cases hκ : κ = 7
  · subst hκ
    rw [Lv_k7 hk hv]
    constructor
    · rintro (z | z)
      · exact Or.inl z
      · exact Or.inr (Or.inr ⟨rfl, z⟩)
    · rintro (z | z | ⟨-, z⟩)
      · exact Or.inl z
      · exact absurd (nM_k z).1 (by show ¬ 9 ≤ 7; decide)
      · exact Or.inr z
  · have hno : ∀ P : Prop, P ∨ (κ = 7 ∧ i = k) ↔ P := fun P => ⟨fun z => z.elim id (fun c => absurd c.1 hκ), Or.inl⟩
    rw [hno]
    by_cases h9 : 9 ≤ κ ∧ κ < 14
    · rcases (show k = 0 ∨ k = 1 ∨ k = 2 by omega) with rfl | rfl | rfl
      · exact Lv_k0 hv h h9.1 h9.2
      · exact Lv_k1 hv h h9.1 h9.2
      · exact Lv_k2 hv h h9.1 h9.2
    · have hM : (κ, i) ∉ nM k n := fun z => h9 ⟨(nM_k z).1, (nM_k z).2.1⟩
      rw [Lv_kx (s0 := s0) hκ h9]
      exact ⟨Or.inl, fun z => z.elim id (fun z => absurd z hM)⟩
theorem eI_inj : ∀ k : Nat, k < 3 → ∀ i : Nat, i < 3 → i ≠ k → eI i ≠ eI k := by decide
theorem eI_b : ∀ k : Nat, k < 3 → 9 ≤ eI k ∧ eI k < 14 := by decide
/-- one more in a list: the world behind it in names again -/
theorem xx_add {X : XS} {G : GG} {cc : ByteArray} {nL : Nat} {own : String} {ret : Option FieldType} {rm : Room} {nm : String} {tb : List ExceptionTableEntry} {k0 n0 k1 n1 : Nat} {Q : State → Prop} {pc q : Nat} {lv : List (Nat × Value)} {st : List Value} (C : Cx X G cc nL own ret rm nm tb) {i : Nat} {a : AD} {s t s0 : SS} {L : List (Nat × Nat)} (hMi : MiOK G) (hL : Live L s0) (k n : Nat) (hk : k < 3) (hls : LsT G.2.2.1 a s s0 k n) (hn : n < 30) (a2 : AD) (s1 : SS)
    (L9 : LkV own i yJx4a65c_add_9ea2d cJx4a65c_add_9ea2d 2 (some .boolean) 1) (h55 : s1 55 k = s 55 k + 1) (hcnt : s1 (lI k) 0 = nI (n + 1)) (hfr : ∀ κ i, Lv s0 κ i → ¬ (κ = 6 ∧ i = k) → ¬ (κ = 7 ∧ i = k) → ∀ z j, dq κ i z j → s1 z j = s z j)
    (ha2 : ∀ κ i, Lv s0 κ i → a2 κ i = a κ i) (hak : ∀ κ i, κ < 9 ∨ 14 ≤ κ → a2 κ i = a κ i) (hei : ∀ i, i < 3 → i ≠ k → ∀ j, a2 (eI i) j = a (eI i) j) (heK : ∀ j, j < n → a2 (eI k) j = a (eI k) j)
    (hob : Ob (wl a (E G.2.2.1 a s t) L ++ wl a2 (E G.2.2.1 a2 s1 t) (nM k n)) (a2 (eI k) n)) (hobs : ∀ j, j < n → Ob (wl a (E G.2.2.1 a s t) L) (a (eI k) j))
    (hc : nck r_Jx4a65c_add_9ea2d rm 2 k0 n0 k1 n1 st = true) (d : decode cc pc = .ok (.invokevirtual i, 3)) (hq : pc + 3 = q)
    (kk : ∀ (a1 : AD) (L1 : List (Nat × Nat)), Live L1 (su s0 (lI k) 0 (nI (n + 1))) → LsT G.2.2.1 a1 s1 (su s0 (lI k) 0 (nI (n + 1))) k (n + 1) → (∀ κ i, κ < 7 ∨ κ = 8 ∨ κ = 14 → a1 κ i = a κ i) → (∀ κ i, κ = 7 ∨ κ = 15 ∨ κ = 16 → i ≠ k → a1 κ i = a κ i) → V X G nL (wl a1 (E G.2.2.1 a1 s1 t) L1) k1 n1 Q q lv (.int 1 :: st)) :
    V X G nL (wl a (E G.2.2.1 a s t) L ++ wl a2 (E G.2.2.1 a2 s1 t) (nM k n)) k0 n0 Q pc lv (.ref (a2 (eI k) n) :: .ref (a 6 k) :: st) := by
  have hst : X.2.1.stackTraces = false := C.2.2.2.2.2.1
  have hG : GOK G := C.2.2.2.2.2.2.2.2.2.1
  obtain ⟨hl0, hz16, h15, h00⟩ := hls
  obtain ⟨hcs, h30, hpos⟩ := hl0
  obtain ⟨x6, hx6⟩ := List.getElem?_of_mem (inL hL (k := 6) (i := k) hk)
  have e6 : E G.2.2.1 a s t 6 k = Sum.inr (0, [.int (s 55 k), .ref (a 16 k), .int (nI n)]) := by
    show (Sum.inr (0, [.int (s 55 k), .ref (a 16 k), .int (s (lI k) 0)]) : va_E) = _
    rw [hcs]
  have h6 : (wl a (E G.2.2.1 a s t) L ++ wl a2 (E G.2.2.1 a2 s1 t) (nM k n))[x6]? = some (a 6 k, Sum.inr (0, [.int (s 55 k), .ref (a 16 k), .int (nI n)])) := by
    rw [← e6]
    exact ap_l (wl_get hx6)
  have hm6 := List.mem_of_getElem? h6
  have hs01 : tn (su s0 (lI k) 0 (nI (n + 1)) (lI k) 0) = n + 1 := by rw [su_a]; exact nI_clamp (by omega)
  have heb := eI_b k hk
  -- what stays
  have hE : ∀ a1 : AD, (∀ κ i, κ < 7 ∨ κ = 8 ∨ (9 ≤ κ ∧ κ < 15) → a1 κ i = a2 κ i) → (∀ i, i ≠ k → a1 15 i = a2 15 i ∧ a1 16 i = a2 16 i) → ∀ κ i, (κ, i) ∈ L → ¬ (κ = 6 ∧ i = k) → ¬ (κ = 7 ∧ i = k) → E G.2.2.1 a1 s1 t κ i = E G.2.2.1 a s t κ i := by
    intro a1 g1 g2 κ i hm c6 c7
    have hv := ofL hL hm
    rw [E_dq hv.lt (hfr κ i hv c6 c7)]
    refine E_ag hv.lt ⟨fun j => ⟨?_, ?_, ?_, ?_, ?_, ?_⟩, fun e => ?_, fun e => ⟨?_, fun j => ?_⟩, fun e => ⟨?_, ?_⟩⟩
    · rw [g1 1 j (by omega), hak 1 j (by omega)]
    · rw [g1 3 j (by omega), hak 3 j (by omega)]
    · rw [g1 4 j (by omega), hak 4 j (by omega)]
    · rw [g1 5 j (by omega), hak 5 j (by omega)]
    · rw [g1 6 j (by omega), hak 6 j (by omega)]
    · rw [g1 8 j (by omega), hak 8 j (by omega)]
    · rw [(g2 i (fun z => c6 ⟨e, z⟩)).2, hak 16 i (by omega)]
    · rw [(g2 i (fun z => c7 ⟨e, z⟩)).1, hak 15 i (by omega)]
    · subst e
      have h3 : i < 3 := hv.1
      have hb := eI_b i h3
      rw [g1 _ _ (by omega), hei i h3 (fun z => c7 ⟨rfl, z⟩)]
    · subst e
      rw [g1 _ _ (by omega), ha2 10 i hv]
    · subst e
      rw [g1 _ _ (by omega), ha2 11 i hv]
  have hM : ∀ a1 : AD, (∀ κ i, κ < 7 ∨ κ = 8 ∨ (9 ≤ κ ∧ κ < 15) → a1 κ i = a2 κ i) → wl a2 (E G.2.2.1 a2 s1 t) (nM k n) = wl a1 (E G.2.2.1 a1 s1 t) (nM k n) := by
    intro a1 g1
    refine wl_congr (fun κ i hm => ?_)
    obtain ⟨b1, b2, b3⟩ := nM_k hm
    have b1 : 9 ≤ κ := b1
    have b2 : κ < 14 := b2
    refine ⟨(g1 κ i (by omega)).symm, (E_ag (by omega) ⟨fun j => ⟨?_, ?_, ?_, ?_, ?_, ?_⟩, fun e => ?_, fun e => ?_, fun e => ⟨?_, ?_⟩⟩).symm⟩
    · exact g1 1 j (by omega)
    · exact g1 3 j (by omega)
    · exact g1 4 j (by omega)
    · exact g1 5 j (by omega)
    · exact g1 6 j (by omega)
    · exact g1 8 j (by omega)
    · omega
    · omega
    · exact g1 10 i (by omega)
    · exact g1 11 i (by omega)
  have f6 : ∀ (a1 : AD) (b : Nat), a1 16 k = b → E G.2.2.1 a1 s1 t 6 k = Sum.inr (0, [.int (s 55 k + 1), .ref b, .int (nI (n + 1))]) := by
    intro a1 b hb
    show (Sum.inr (0, [.int (s1 55 k), .ref (a1 16 k), .int (s1 (lI k) 0)]) : va_E) = _
    rw [h55, hcnt, hb]
  have f7 : ∀ (a1 : AD) (N : Nat) (f : Nat → Option Nat), a1 15 k = N → (∀ j, a1 (eI k) j = a2 (eI k) j) → (∀ j, j < n → f j = some (a (eI k) j)) → (∀ j, n ≤ j → f j = none) → E G.2.2.1 a1 s1 t 7 k = Sum.inl (G.2.2.1 2, N, OA (va_up f n (some (a2 (eI k) n)))) := by
    intro a1 N f hN h1 h2 h3
    show (Sum.inl (G.2.2.1 2, a1 15 k, Sum.inr (.inr (.inr (.inr (fun j => if j < tn (s1 (lI k) 0) then some (a1 (eI k) j) else none))))) : va_E) = _
    rw [hN, show (fun j => if j < tn (s1 (lI k) 0) then some (a1 (eI k) j) else none) = va_up f n (some (a2 (eI k) n)) from funext fun j => by
      rw [hcnt, show tn (nI (n + 1)) = n + 1 from nI_clamp (by omega)]
      unfold va_up
      by_cases c : j = n
      · subst c
        rw [if_pos rfl, if_pos (by omega), h1]
      · rw [if_neg c]
        by_cases c2 : j < n
        · rw [if_pos (by omega), h2 j c2, h1, heK j c2]
        · rw [if_neg (by omega), h3 j (by omega)]]
  by_cases hA : 0 < n ∧ n < a 15 k
  · -- a place is left
    obtain ⟨p0, p1, p2, p3⟩ := hpos hA.1
    obtain ⟨x7, hx7⟩ := List.getElem?_of_mem (inL hL (k := 7) (i := k) ⟨hk, p0⟩)
    have e7 : E G.2.2.1 a s t 7 k = Sum.inl (G.2.2.1 2, a 15 k, OA (fun j => if j < tn (s (lI k) 0) then some (a (eI k) j) else none)) := rfl
    have h7 : (wl a (E G.2.2.1 a s t) L ++ wl a2 (E G.2.2.1 a2 s1 t) (nM k n))[x7]? = some (a 16 k, Sum.inl (G.2.2.1 2, a 15 k, OA (fun j => if j < tn (s (lI k) 0) then some (a (eI k) j) else none))) := by
      rw [p1, ← e7]
      exact ap_l (wl_get hx7)
    refine w_invVr C [.ref (a2 (eI k) n)] k1 n1 L9 (c_Jx4a65c_add_9ea2d_A hst hG h6 h7 hA.2 p3 hob) hm6 rfl rfl rfl hc d hq kx_no (fun _ => ?_)
    have htn : tn (s (lI k) 0) = n := by rw [hcs]; exact nI_clamp (by omega)
    refine xx_w (w' := wl a2 (E G.2.2.1 a2 s1 t) (L ++ nM k n)) ?_ (kk a2 (L ++ nM k n) ?_ ⟨⟨hcnt, by omega, fun _ => ⟨by rw [hs01]; omega, ?_, ?_, ?_⟩⟩, fun e => absurd e (by omega), fun _ => ?_, hs01⟩ (fun κ i c => hak κ i (by omega)) (fun κ i c _ => hak κ i (by omega)))
    · rw [p1]
      exact absorb_A hL.1 hx6 hx7 rfl (fun κ i hm => ha2 κ i (ofL hL hm)) (hE a2 (fun _ _ _ => rfl) (fun _ _ => ⟨rfl, rfl⟩)) (f6 a2 _ (by rw [hak 16 k (by omega), p1])) (f7 a2 _ _ (hak 15 k (by omega)) (fun _ => rfl) (fun j hj => if_pos (by rw [htn]; exact hj)) (fun j hj => if_neg (by rw [htn]; omega)))
    · refine Live_A hL nM_n (nM_no hk h00) (fun κ i => ?_)
      rw [Lv_new hk hn h00]
      constructor
      · rintro (z | z | ⟨rfl, rfl⟩)
        · exact Or.inl z
        · exact Or.inr z
        · exact Or.inl ⟨hk, p0⟩
      · rintro (z | z)
        · exact Or.inl z
        · exact Or.inr (Or.inl z)
    · rw [hak 16 k (by omega), hak 7 k (by omega), p1]
    · rw [hak 15 k (by omega)]; omega
    · rw [hak 15 k (by omega)]; exact p3
    · rw [hak 15 k (by omega)]; exact h15 hA.1
  · -- a longer array
    have hgr : ∃ (N : Nat) (f : Nat → Option Nat), GwOK G (wl a (E G.2.2.1 a s t) L ++ wl a2 (E G.2.2.1 a2 s1 t) (nM k n)) (a 16 k) n N f ∧ (∀ j, j < n → f j = some (a (eI k) j)) ∧ (∀ j, n ≤ j → f j = none) ∧ (N = 10 ∨ N = 15 ∨ N = 22 ∨ N = 33) ∧ n + 1 ≤ N := by
      by_cases h0 : n = 0
      · exact ⟨10, fun _ => none, Or.inl ⟨h0, hz16 h0, rfl, rfl⟩, fun j hj => absurd hj (by omega), fun _ _ => rfl, Or.inl rfl, by omega⟩
      · obtain ⟨p0, p1, p2, p3⟩ := hpos (by omega)
        have hcap : n = a 15 k := by omega
        have hc4 := h15 (by omega)
        have htn : tn (s (lI k) 0) = n := by rw [hcs]; exact nI_clamp (by omega)
        have hm7 : (a 7 k, E G.2.2.1 a s t 7 k) ∈ wl a (E G.2.2.1 a s t) L := wl_mem (inL hL (k := 7) (i := k) ⟨hk, p0⟩)
        refine ⟨n + n / 2, va_cpy (fun j => if j < tn (s (lI k) 0) then some (a (eI k) j) else none) (fun _ => none) 0 0 n, Or.inr ⟨by omega, by omega, rfl, _, ?_, rfl, fun j hj y hy => ?_⟩, fun j hj => ?_, fun j hj => ?_, by omega, by omega⟩
        · refine List.mem_append_left _ ?_
          rw [p1]
          have e7 : E G.2.2.1 a s t 7 k = Sum.inl (G.2.2.1 2, n, OA (fun j => if j < tn (s (lI k) 0) then some (a (eI k) j) else none)) := by
            show (Sum.inl (G.2.2.1 2, a 15 k, _) : va_E) = _
            rw [← hcap]
          rw [← e7]
          exact hm7
        · rw [htn, if_pos hj] at hy
          cases hy
          exact (hobs j hj).app
        · unfold va_cpy
          rw [if_pos ⟨Nat.zero_le _, by omega⟩, Nat.zero_add, Nat.sub_zero, htn]
          exact if_pos hj
        · unfold va_cpy
          rw [if_neg (by omega)]
    obtain ⟨N, f, hgr, hf1, hf2, hN, hnN⟩ := hgr
    refine w_invV C [.ref (a2 (eI k) n)] k1 n1 L9 (c_Jx4a65c_add_9ea2d_G hst hG hMi h6 hgr hob) hm6 rfl rfl rfl hc d hq kx_no (fun v w1 hv => ?_)
    obtain ⟨rfl, b, rfl⟩ := hv
    have o : ∀ κ i, κ < 7 ∨ κ = 8 ∨ (9 ≤ κ ∧ κ < 15) → au (au (au a2 7 k b) 16 k b) 15 k N κ i = a2 κ i := fun κ i h => by
      rw [au_k (by omega), au_k (by omega), au_k (by omega)]
    have o15 : au (au (au a2 7 k b) 16 k b) 15 k N 15 k = N := au_a
    have o16 : au (au (au a2 7 k b) 16 k b) 15 k N 16 k = b := by rw [au_k (by omega)]; exact au_a
    have o7 : au (au (au a2 7 k b) 16 k b) 15 k N 7 k = b := by rw [au_k (by omega), au_k (by omega)]; exact au_a
    have oo : ∀ κ i, i ≠ k → au (au (au a2 7 k b) 16 k b) 15 k N κ i = a2 κ i := fun κ i h => by
      rw [au_o (fun z => h z.2), au_o (fun z => h z.2), au_o (fun z => h z.2)]
    refine xx_sub (absorb_G (a1 := au (au (au a2 7 k b) 16 k b) 15 k N) (F1 := E G.2.2.1 (au (au (au a2 7 k b) 16 k b) 15 k N) s1 t) hL.1 hx6 (hM _ o) (fun κ i hm c7 => ?_) o7 (hE _ o (fun i hi => ⟨oo 15 i hi, oo 16 i hi⟩)) (f6 _ b o16) (f7 _ N f o15 (fun j => o _ j (by omega)) hf1 hf2)) (List.Perm.refl _) (kk _ _ (Live_G hL nM_n (nM_no hk h00) (fun i hi => absurd (nM_k hi).1 (by show ¬ 9 ≤ 7; decide)) (fun κ i => Lv_new hk hn h00)) ⟨⟨hcnt, by omega, fun _ => ⟨by rw [hs01]; omega, by rw [o16, o7], by rw [o15]; exact hnN, by rw [o15]; omega⟩⟩, fun e => absurd e (by omega), fun _ => by rw [o15]; exact hN, hs01⟩ (fun κ i c => ?_) (fun κ i c h => ?_))
    · by_cases c : κ = 7
      · rw [oo κ i (fun e => c7 ⟨c, e⟩), ha2 κ i (ofL hL hm)]
      · have := (ofL hL hm).lt
        rw [o κ i (by omega), ha2 κ i (ofL hL hm)]
    · rw [o κ i (by omega), hak κ i (by omega)]
    · rw [oo κ i h, hak κ i (by omega)]
theorem LsT.frame {g : Nat → Nat} {a a1 : AD} {s s1 s0 s2 : SS} {k n : Nat} (h : LsT g a s s0 k n) (h7 : a1 7 k = a 7 k) (h15 : a1 15 k = a 15 k) (h16 : a1 16 k = a 16 k) (hs : s1 (lI k) 0 = s (lI k) 0) (h0 : s2 (lI k) 0 = s0 (lI k) 0) : LsT g a1 s1 s2 k n := by
  obtain ⟨⟨p1, p2, p3⟩, p4, p5, p6⟩ := h
  refine ⟨⟨hs.trans p1, p2, fun hn => ?_⟩, fun e => h16.trans (p4 e), fun hn => by rw [h15]; exact p5 hn, by rw [h0]; exact p6⟩
  obtain ⟨q1, q2, q3, q4⟩ := p3 hn
  exact ⟨by rw [h0]; exact q1, by rw [h16, h7]; exact q2, by rw [h15]; exact q3, by rw [h15]; exact q4⟩
