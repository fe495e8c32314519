/-- a list that has grown by one: all in names again -/
def GrW (G : GG) (a : AD) (s1 t s0 : SS) (k n : Nat) (w1 : va_W) : Prop := ∃ (a1 : AD) (L1 : List (Nat × Nat)), w1 = wl a1 (E G.2.2.1 a1 s1 t) L1 ∧ Live L1 (su s0 (lI k) 0 (nI (n + 1))) ∧ LsT G.2.2.1 a1 s1 (su s0 (lI k) 0 (nI (n + 1))) k (n + 1) ∧ (∀ κ i, κ < 7 ∨ κ = 8 ∨ κ = 14 → a1 κ i = a κ i) ∧ ∀ κ i, κ = 7 ∨ κ = 15 ∨ κ = 16 → i ≠ k → a1 κ i = a κ i
theorem ap_ml {w w2 : va_W} {e : Nat × va_E} (h : e ∈ w) : e ∈ w ++ w2 := List.mem_append_left _ h
theorem xx_m2 {w : va_W} {x y : Nat} {e : va_E} (h : (x, e) ∈ w) (he : x = y) : (y, e) ∈ w := he ▸ h
theorem lI_m (i : Nat) : lI i = 12 ∨ lI i = 21 ∨ lI i = 33 := by
  unfold lI
  split <;> decide
theorem dq_34 {κ i z j : Nat} (h : dq κ i z j) (hz : z = 34 ∨ z = 35) : κ = 13 ∧ j = i := by
  match κ, h with
  | 2, h =>
    have h9 : z = 0 ∨ z = 1 ∨ z = 2 ∨ z = 3 ∨ z = 4 ∨ z = 7 := by have h8 : z ∈ dep 2 := h; simpa [dep] using h8
    exfalso; omega
  | 3, h =>
    have h9 : z = 6 ∨ z = 8 := by have h8 : z ∈ dep 3 := h; simpa [dep] using h8
    exfalso; omega
  | 4, h =>
    have h9 : z = 5 := by have h8 : z ∈ dep 4 := h; simpa [dep] using h8
    exfalso; omega
  | 6, h =>
    have hl := lI_m i
    have h9 : (z = 55 ∧ j = i) ∨ (z = lI i ∧ j = 0) := h
    exfalso; omega
  | 7, h =>
    have hl := lI_m i
    have h9 : z = lI i ∧ j = 0 := h
    exfalso; omega
  | 8, h =>
    have h9 : z = 9 ∨ z = 10 ∨ z = 50 ∨ z = 51 ∨ z = 11 := by have h8 : z ∈ dep 8 := h; simpa [dep] using h8
    exfalso; omega
  | 9, h =>
    have h9 : 13 ≤ z ∧ z ≤ 19 ∧ j = i := h
    exfalso; omega
  | 10, h =>
    have h9 : z = 20 ∧ 12 * i ≤ j ∧ j < 12 * i + 12 := h
    exfalso; omega
  | 11, h =>
    have h9 : z = 52 ∧ 40 * i ≤ j ∧ j < 40 * i + 40 := h
    exfalso; omega
  | 12, h =>
    have h9 : z = 23 ∨ z = 24 ∨ z = 27 ∨ z = 22 ∨ z = 26 ∨ z = 25 ∨ z = 53 ∨ z = 32 ∨ z = 31 ∨ z = 54 ∨ z = 28 := by have h8 : z ∈ dep 12 := h.1; simpa [dep] using h8
    have h7 : j = i := h.2
    exfalso; omega
  | 13, h =>
    have h9 : z = 34 ∨ z = 35 := by have h8 : z ∈ dep 13 := h.1; simpa [dep] using h8
    have h7 : j = i := h.2
    exact ⟨rfl, by omega⟩
  | 14, h =>
    have h9 : z = 60 := h
    exfalso; omega
theorem dq_22 {κ i z j : Nat} (h : dq κ i z j) (hz : (22 ≤ z ∧ z ≤ 28) ∨ z = 31 ∨ z = 32 ∨ z = 53 ∨ z = 54) : κ = 12 ∧ j = i := by
  match κ, h with
  | 2, h =>
    have h9 : z = 0 ∨ z = 1 ∨ z = 2 ∨ z = 3 ∨ z = 4 ∨ z = 7 := by have h8 : z ∈ dep 2 := h; simpa [dep] using h8
    exfalso; omega
  | 3, h =>
    have h9 : z = 6 ∨ z = 8 := by have h8 : z ∈ dep 3 := h; simpa [dep] using h8
    exfalso; omega
  | 4, h =>
    have h9 : z = 5 := by have h8 : z ∈ dep 4 := h; simpa [dep] using h8
    exfalso; omega
  | 6, h =>
    have hl := lI_m i
    have h9 : (z = 55 ∧ j = i) ∨ (z = lI i ∧ j = 0) := h
    exfalso; omega
  | 7, h =>
    have hl := lI_m i
    have h9 : z = lI i ∧ j = 0 := h
    exfalso; omega
  | 8, h =>
    have h9 : z = 9 ∨ z = 10 ∨ z = 50 ∨ z = 51 ∨ z = 11 := by have h8 : z ∈ dep 8 := h; simpa [dep] using h8
    exfalso; omega
  | 9, h =>
    have h9 : 13 ≤ z ∧ z ≤ 19 ∧ j = i := h
    exfalso; omega
  | 10, h =>
    have h9 : z = 20 ∧ 12 * i ≤ j ∧ j < 12 * i + 12 := h
    exfalso; omega
  | 11, h =>
    have h9 : z = 52 ∧ 40 * i ≤ j ∧ j < 40 * i + 40 := h
    exfalso; omega
  | 12, h =>
    have h9 : z = 23 ∨ z = 24 ∨ z = 27 ∨ z = 22 ∨ z = 26 ∨ z = 25 ∨ z = 53 ∨ z = 32 ∨ z = 31 ∨ z = 54 ∨ z = 28 := by have h8 : z ∈ dep 12 := h.1; simpa [dep] using h8
    have h7 : j = i := h.2
    exact ⟨rfl, by omega⟩
  | 13, h =>
    have h9 : z = 34 ∨ z = 35 := by have h8 : z ∈ dep 13 := h.1; simpa [dep] using h8
    have h7 : j = i := h.2
    exfalso; omega
  | 14, h =>
    have h9 : z = 60 := h
    exfalso; omega
theorem dq_13 {κ i z j : Nat} (h : dq κ i z j) (hz : 13 ≤ z ∧ z ≤ 19) : κ = 9 ∧ j = i := by
  match κ, h with
  | 2, h =>
    have h9 : z = 0 ∨ z = 1 ∨ z = 2 ∨ z = 3 ∨ z = 4 ∨ z = 7 := by have h8 : z ∈ dep 2 := h; simpa [dep] using h8
    exfalso; omega
  | 3, h =>
    have h9 : z = 6 ∨ z = 8 := by have h8 : z ∈ dep 3 := h; simpa [dep] using h8
    exfalso; omega
  | 4, h =>
    have h9 : z = 5 := by have h8 : z ∈ dep 4 := h; simpa [dep] using h8
    exfalso; omega
  | 6, h =>
    have hl := lI_m i
    have h9 : (z = 55 ∧ j = i) ∨ (z = lI i ∧ j = 0) := h
    exfalso; omega
  | 7, h =>
    have hl := lI_m i
    have h9 : z = lI i ∧ j = 0 := h
    exfalso; omega
  | 8, h =>
    have h9 : z = 9 ∨ z = 10 ∨ z = 50 ∨ z = 51 ∨ z = 11 := by have h8 : z ∈ dep 8 := h; simpa [dep] using h8
    exfalso; omega
  | 9, h =>
    have h9 : 13 ≤ z ∧ z ≤ 19 ∧ j = i := h
    exact ⟨rfl, by omega⟩
  | 10, h =>
    have h9 : z = 20 ∧ 12 * i ≤ j ∧ j < 12 * i + 12 := h
    exfalso; omega
  | 11, h =>
    have h9 : z = 52 ∧ 40 * i ≤ j ∧ j < 40 * i + 40 := h
    exfalso; omega
  | 12, h =>
    have h9 : z = 23 ∨ z = 24 ∨ z = 27 ∨ z = 22 ∨ z = 26 ∨ z = 25 ∨ z = 53 ∨ z = 32 ∨ z = 31 ∨ z = 54 ∨ z = 28 := by have h8 : z ∈ dep 12 := h.1; simpa [dep] using h8
    have h7 : j = i := h.2
    exfalso; omega
  | 13, h =>
    have h9 : z = 34 ∨ z = 35 := by have h8 : z ∈ dep 13 := h.1; simpa [dep] using h8
    have h7 : j = i := h.2
    exfalso; omega
  | 14, h =>
    have h9 : z = 60 := h
    exfalso; omega
theorem dq_20 {κ i z j : Nat} (h : dq κ i z j) (hz : z = 20) : κ = 10 ∧ 12 * i ≤ j ∧ j < 12 * i + 12 := by
  match κ, h with
  | 2, h =>
    have h9 : z = 0 ∨ z = 1 ∨ z = 2 ∨ z = 3 ∨ z = 4 ∨ z = 7 := by have h8 : z ∈ dep 2 := h; simpa [dep] using h8
    exfalso; omega
  | 3, h =>
    have h9 : z = 6 ∨ z = 8 := by have h8 : z ∈ dep 3 := h; simpa [dep] using h8
    exfalso; omega
  | 4, h =>
    have h9 : z = 5 := by have h8 : z ∈ dep 4 := h; simpa [dep] using h8
    exfalso; omega
  | 6, h =>
    have hl := lI_m i
    have h9 : (z = 55 ∧ j = i) ∨ (z = lI i ∧ j = 0) := h
    exfalso; omega
  | 7, h =>
    have hl := lI_m i
    have h9 : z = lI i ∧ j = 0 := h
    exfalso; omega
  | 8, h =>
    have h9 : z = 9 ∨ z = 10 ∨ z = 50 ∨ z = 51 ∨ z = 11 := by have h8 : z ∈ dep 8 := h; simpa [dep] using h8
    exfalso; omega
  | 9, h =>
    have h9 : 13 ≤ z ∧ z ≤ 19 ∧ j = i := h
    exfalso; omega
  | 10, h =>
    have h9 : z = 20 ∧ 12 * i ≤ j ∧ j < 12 * i + 12 := h
    exact ⟨rfl, by omega, by omega⟩
  | 11, h =>
    have h9 : z = 52 ∧ 40 * i ≤ j ∧ j < 40 * i + 40 := h
    exfalso; omega
  | 12, h =>
    have h9 : z = 23 ∨ z = 24 ∨ z = 27 ∨ z = 22 ∨ z = 26 ∨ z = 25 ∨ z = 53 ∨ z = 32 ∨ z = 31 ∨ z = 54 ∨ z = 28 := by have h8 : z ∈ dep 12 := h.1; simpa [dep] using h8
    have h7 : j = i := h.2
    exfalso; omega
  | 13, h =>
    have h9 : z = 34 ∨ z = 35 := by have h8 : z ∈ dep 13 := h.1; simpa [dep] using h8
    have h7 : j = i := h.2
    exfalso; omega
  | 14, h =>
    have h9 : z = 60 := h
    exfalso; omega
theorem dq_52 {κ i z j : Nat} (h : dq κ i z j) (hz : z = 52) : κ = 11 ∧ 40 * i ≤ j ∧ j < 40 * i + 40 := by
  match κ, h with
  | 2, h =>
    have h9 : z = 0 ∨ z = 1 ∨ z = 2 ∨ z = 3 ∨ z = 4 ∨ z = 7 := by have h8 : z ∈ dep 2 := h; simpa [dep] using h8
    exfalso; omega
  | 3, h =>
    have h9 : z = 6 ∨ z = 8 := by have h8 : z ∈ dep 3 := h; simpa [dep] using h8
    exfalso; omega
  | 4, h =>
    have h9 : z = 5 := by have h8 : z ∈ dep 4 := h; simpa [dep] using h8
    exfalso; omega
  | 6, h =>
    have hl := lI_m i
    have h9 : (z = 55 ∧ j = i) ∨ (z = lI i ∧ j = 0) := h
    exfalso; omega
  | 7, h =>
    have hl := lI_m i
    have h9 : z = lI i ∧ j = 0 := h
    exfalso; omega
  | 8, h =>
    have h9 : z = 9 ∨ z = 10 ∨ z = 50 ∨ z = 51 ∨ z = 11 := by have h8 : z ∈ dep 8 := h; simpa [dep] using h8
    exfalso; omega
  | 9, h =>
    have h9 : 13 ≤ z ∧ z ≤ 19 ∧ j = i := h
    exfalso; omega
  | 10, h =>
    have h9 : z = 20 ∧ 12 * i ≤ j ∧ j < 12 * i + 12 := h
    exfalso; omega
  | 11, h =>
    have h9 : z = 52 ∧ 40 * i ≤ j ∧ j < 40 * i + 40 := h
    exact ⟨rfl, by omega, by omega⟩
  | 12, h =>
    have h9 : z = 23 ∨ z = 24 ∨ z = 27 ∨ z = 22 ∨ z = 26 ∨ z = 25 ∨ z = 53 ∨ z = 32 ∨ z = 31 ∨ z = 54 ∨ z = 28 := by have h8 : z ∈ dep 12 := h.1; simpa [dep] using h8
    have h7 : j = i := h.2
    exfalso; omega
  | 13, h =>
    have h9 : z = 34 ∨ z = 35 := by have h8 : z ∈ dep 13 := h.1; simpa [dep] using h8
    have h7 : j = i := h.2
    exfalso; omega
  | 14, h =>
    have h9 : z = 60 := h
    exfalso; omega
theorem dq_55 {κ i z j : Nat} (h : dq κ i z j) (hz : z = 55) : κ = 6 ∧ j = i := by
  match κ, h with
  | 2, h =>
    have h9 : z = 0 ∨ z = 1 ∨ z = 2 ∨ z = 3 ∨ z = 4 ∨ z = 7 := by have h8 : z ∈ dep 2 := h; simpa [dep] using h8
    exfalso; omega
  | 3, h =>
    have h9 : z = 6 ∨ z = 8 := by have h8 : z ∈ dep 3 := h; simpa [dep] using h8
    exfalso; omega
  | 4, h =>
    have h9 : z = 5 := by have h8 : z ∈ dep 4 := h; simpa [dep] using h8
    exfalso; omega
  | 6, h =>
    have hl := lI_m i
    have h9 : (z = 55 ∧ j = i) ∨ (z = lI i ∧ j = 0) := h
    exact ⟨rfl, by omega⟩
  | 7, h =>
    have hl := lI_m i
    have h9 : z = lI i ∧ j = 0 := h
    exfalso; omega
  | 8, h =>
    have h9 : z = 9 ∨ z = 10 ∨ z = 50 ∨ z = 51 ∨ z = 11 := by have h8 : z ∈ dep 8 := h; simpa [dep] using h8
    exfalso; omega
  | 9, h =>
    have h9 : 13 ≤ z ∧ z ≤ 19 ∧ j = i := h
    exfalso; omega
  | 10, h =>
    have h9 : z = 20 ∧ 12 * i ≤ j ∧ j < 12 * i + 12 := h
    exfalso; omega
  | 11, h =>
    have h9 : z = 52 ∧ 40 * i ≤ j ∧ j < 40 * i + 40 := h
    exfalso; omega
  | 12, h =>
    have h9 : z = 23 ∨ z = 24 ∨ z = 27 ∨ z = 22 ∨ z = 26 ∨ z = 25 ∨ z = 53 ∨ z = 32 ∨ z = 31 ∨ z = 54 ∨ z = 28 := by have h8 : z ∈ dep 12 := h.1; simpa [dep] using h8
    have h7 : j = i := h.2
    exfalso; omega
  | 13, h =>
    have h9 : z = 34 ∨ z = 35 := by have h8 : z ∈ dep 13 := h.1; simpa [dep] using h8
    have h7 : j = i := h.2
    exfalso; omega
  | 14, h =>
    have h9 : z = 60 := h
    exfalso; omega
theorem dq_12 {κ i z j : Nat} {s0 : SS} (h : dq κ i z j) (hv : Lv s0 κ i) (hz : z = 12 ∨ z = 21 ∨ z = 33) : (κ = 6 ∨ κ = 7) ∧ z = lI i := by
  match κ, h, hv with
  | 2, h, hv =>
    have h9 : z = 0 ∨ z = 1 ∨ z = 2 ∨ z = 3 ∨ z = 4 ∨ z = 7 := by have h8 : z ∈ dep 2 := h; simpa [dep] using h8
    exfalso; omega
  | 3, h, hv =>
    have h9 : z = 6 ∨ z = 8 := by have h8 : z ∈ dep 3 := h; simpa [dep] using h8
    exfalso; omega
  | 4, h, hv =>
    have h9 : z = 5 := by have h8 : z ∈ dep 4 := h; simpa [dep] using h8
    exfalso; omega
  | 6, h, hv =>
    have hl := lI_m i
    have h9 : (z = 55 ∧ j = i) ∨ (z = lI i ∧ j = 0) := h
    exact ⟨by omega, by omega⟩
  | 7, h, hv =>
    have hl := lI_m i
    have h9 : z = lI i ∧ j = 0 := h
    exact ⟨by omega, by omega⟩
  | 8, h, hv =>
    have h9 : z = 9 ∨ z = 10 ∨ z = 50 ∨ z = 51 ∨ z = 11 := by have h8 : z ∈ dep 8 := h; simpa [dep] using h8
    exfalso; omega
  | 9, h, hv =>
    have h9 : 13 ≤ z ∧ z ≤ 19 ∧ j = i := h
    exfalso; omega
  | 10, h, hv =>
    have h9 : z = 20 ∧ 12 * i ≤ j ∧ j < 12 * i + 12 := h
    exfalso; omega
  | 11, h, hv =>
    have h9 : z = 52 ∧ 40 * i ≤ j ∧ j < 40 * i + 40 := h
    exfalso; omega
  | 12, h, hv =>
    have h9 : z = 23 ∨ z = 24 ∨ z = 27 ∨ z = 22 ∨ z = 26 ∨ z = 25 ∨ z = 53 ∨ z = 32 ∨ z = 31 ∨ z = 54 ∨ z = 28 := by have h8 : z ∈ dep 12 := h.1; simpa [dep] using h8
    have h7 : j = i := h.2
    exfalso; omega
  | 13, h, hv =>
    have h9 : z = 34 ∨ z = 35 := by have h8 : z ∈ dep 13 := h.1; simpa [dep] using h8
    have h7 : j = i := h.2
    exfalso; omega
  | 14, h, hv =>
    have h9 : z = 60 := h
    exfalso; omega
theorem Lv_c {κ i : Nat} {s0 : SS} (h : Lv s0 κ i) : (κ = 6 ∨ κ = 7 → i < 3) ∧ (κ = 9 ∨ κ = 10 ∨ κ = 11 → i < tn (s0 12 0)) ∧ (κ = 12 → i < tn (s0 21 0)) ∧ (κ = 13 → i < tn (s0 33 0)) := by
  refine ⟨?_, ?_, ?_, ?_⟩
  · rintro (rfl | rfl)
    · exact h
    · exact h.1
  · rintro (rfl | rfl | rfl) <;> exact h
  · rintro rfl; exact h
  · rintro rfl; exact h
theorem lI_v : ∀ i : Nat, i < 3 → (i = 0 ∧ lI i = 12) ∨ (i = 1 ∧ lI i = 21) ∨ (i = 2 ∧ lI i = 33) := by decide
theorem nd_55 {κ i z j k : Nat} (hd : dq κ i z j) (c6 : ¬ (κ = 6 ∧ i = k)) : ¬ (z = 55 ∧ j = k) := fun e => by
  have := dq_55 hd e.1
  omega
theorem nd_c {κ i z j k K : Nat} {s0 : SS} (hd : dq κ i z j) (hv : Lv s0 κ i) (c6 : ¬ (κ = 6 ∧ i = k)) (c7 : ¬ (κ = 7 ∧ i = k)) (hk : k < 3) (hK : lI k = K) : ¬ (z = K ∧ j = 0) := fun e => by
  have hm := lI_m k
  obtain ⟨h1, h2⟩ := dq_12 hd hv (by omega)
  have h3 := (Lv_c hv).1 h1
  exact lI_inj k hk i h3 (fun e9 => by rcases h1 with h1 | h1 <;> omega) (by omega)

abbrev r_X7_right : Room := { frames := 8, cells := 5, slots := 60, locals := 149 }
set_option maxRecDepth 4000 in
theorem c_X7_right {l : Launch} {G : GG} {a : AD} {s t s0 : SS} {L : List (Nat × Nat)} {nm : Nat} {nr : Nat} (hst : l.stackTraces = false) (hG : GOK G) (hL : Live L s0) (hMi : MiOK G) (hT : LsT G.2.2.1 a s s0 2 nr) (x : Int32) (i_ : Int32) (hlm : LsOK a s s0 0 nm) (hm12 : nm ≤ 12) (hv_nm : ∀ i, i < nm → i < tn (s0 12 0)) (hlr : LsOK a s s0 2 nr) (hr20 : nr ≤ 20) (hv_nr : ∀ i, i < nr → i < tn (s0 33 0)) : Mth l yX7_right cX7_right 4 (Option.some Jvm.ClassFile.FieldType.int) r_X7_right G (wl a (E G.2.2.1 a s t) L) [.ref (a 2 0), .int x, .int i_] (fun v w1 => v = some (.int (nI nr)) ∧ rightE s nr x i_ = 0 ∧ GrW G a (su (rightU s nr x i_) 55 2 (s 55 2 + 1)) t s0 2 nr w1) (XW (fun E => pE L3 (rightE s nr x i_) E) (wl a (E G.2.2.1 a s t) L)) := by
  refine mth_of rfl (Nat.le_of_ble_eq_true rfl) hst hG (fun X hX C0 => ?_)
  subst hX
  have C : Cx X G cX7_right 4 RX7 (Option.some Jvm.ClassFile.FieldType.int) r_X7_right "right" [] := C0
  clear C0
  show V X G 4 _ 0 0 _ 0 [(0, .ref (a 2 0)), (1, .int (x)), (2, .int (i_))] []
  refine v_aload_n C dX7_right_0 rfl 0 rfl ?_
  refine v_iload_n C dX7_right_1 rfl 1 rfl ?_
  refine w_invVr C [.int (x)] 1 6 L_X7_108 (c_X7_minerAt (s := s) (t := t) (nm := nm) hst hG hL x hlm hm12 hv_nm) (m2 (s := s) (t := t) (g := G.2.2.1) hL) rfl rfl rfl rfl dX7_right_2 rfl (kx_out C (by decide) (fun E w1 hE => by obtain ⟨⟨rfl, h1⟩, rfl⟩ := hE; exact ⟨⟨1, List.Mem.head _, by first | rfl | (simp only [h1, rightE, (show (nr = 20) = ¬ nr < 20 from propext (by omega)), bI, pM, pU, n10, n20, n30, n0, if_true, if_false, ite_true, ite_false, not_true_eq_false, not_false_eq_true, and_true, true_and, and_false, false_and, or_true, true_or, or_false, false_or, reduceIte, and_self, or_self, ne_eq, eq_self_iff_true]; first | done | rfl) | (simp [bI, h1, rightE, (show (nr = 20) = ¬ nr < 20 from propext (by omega))]; done) | (simp only [rightE, (show (nr = 20) = ¬ nr < 20 from propext (by omega)), bI, ← Int32.not_le] at *; simp [h1]; done) | (simp_all [bI, h1, rightE, (show (nr = 20) = ¬ nr < 20 from propext (by omega))]; done) | (simp_all [bI, h1, rightE, (show (nr = 20) = ¬ nr < 20 from propext (by omega))]; rfl) | (exfalso; omega)⟩, rfl⟩)) (fun h2 => ?_)
  have lh2 : tn x < nm := in_lt (vp_cnt h2 hlm.p0 (Nat.le_refl _) (by omega))
  refine v_astore_n C (lv1 := [(3, .ref (a 9 (tn x))), (0, .ref (a 2 0)), (1, .int (x)), (2, .int (i_))]) dX7_right_5 rfl (by decide) rfl ?_
  refine v_iload_n C dX7_right_6 rfl 3 rfl ?_
  refine v_iconst C (v := 1) dX7_right_7 rfl rfl ?_
  refine v_sipush C (v := 200) dX7_right_8 rfl rfl ?_
  refine w_invSv C [.int (i_), .int (1), .int (200)] 2 12 L_X7_67 (c_X7_checkRange (s := s) (t := t)  hst hG hL i_ 1 200) rfl rfl rfl dX7_right_11 rfl (kx_out C (by decide) (fun E w1 hE => by obtain ⟨⟨rfl, h3⟩, rfl⟩ := hE; exact ⟨⟨2, List.Mem.tail _ (List.Mem.head _), by first | rfl | (simp only [h2, h3, rightE, (show (nr = 20) = ¬ nr < 20 from propext (by omega)), bI, pM, pU, n10, n20, n30, n0, if_true, if_false, ite_true, ite_false, not_true_eq_false, not_false_eq_true, and_true, true_and, and_false, false_and, or_true, true_or, or_false, false_or, reduceIte, and_self, or_self, ne_eq, eq_self_iff_true]; first | done | rfl) | (simp [bI, h2, h3, rightE, (show (nr = 20) = ¬ nr < 20 from propext (by omega))]; done) | (simp only [rightE, (show (nr = 20) = ¬ nr < 20 from propext (by omega)), bI, ← Int32.not_le] at *; simp [h2, h3]; done) | (simp_all [bI, h2, h3, rightE, (show (nr = 20) = ¬ nr < 20 from propext (by omega))]; done) | (simp_all [bI, h2, h3, rightE, (show (nr = 20) = ¬ nr < 20 from propext (by omega))]; rfl) | (exfalso; omega)⟩, rfl⟩)) (fun h4 => ?_)
  refine v_aload_n C dX7_right_14 rfl 0 rfl ?_
  refine w_invVr C [] 2 12 L_X7_115 (c_X3_isDead (s := s) (t := t)  hst hG hL (tn x) (hv_nm _ (by omega))) (m9 (s := s) (t := t) (g := G.2.2.1) hL (tn x) (hv_nm _ (by omega))) rfl rfl rfl rfl dX7_right_15 rfl kx_no (fun h5 => ?_)
  refine v_ifB_ne C (t := 37) dX7_right_18 rfl rfl (fun h6 => ?_) (fun h6 => ?_)
  · skip
    refine v_iconst C (v := 0) dX7_right_37 rfl rfl ?_
    refine w_invSv C [.int (0)] 3 18 L_X7_75 (c_X7_checkState (s := s) (t := t)  hst hG hL 0) rfl rfl rfl dX7_right_38 rfl (kx_out C (by decide) (fun E w1 hE => by obtain ⟨⟨rfl, h7⟩, rfl⟩ := hE; exact ⟨⟨3, List.Mem.tail _ (List.Mem.tail _ (List.Mem.head _)), by first | rfl | (simp only [h2, h4, eq_true h6, h7, rightE, (show (nr = 20) = ¬ nr < 20 from propext (by omega)), bI, pM, pU, n10, n20, n30, n0, if_true, if_false, ite_true, ite_false, not_true_eq_false, not_false_eq_true, and_true, true_and, and_false, false_and, or_true, true_or, or_false, false_or, reduceIte, and_self, or_self, ne_eq, eq_self_iff_true]; first | done | rfl) | (simp [bI, h2, h4, eq_true h6, h7, rightE, (show (nr = 20) = ¬ nr < 20 from propext (by omega))]; done) | (simp only [rightE, (show (nr = 20) = ¬ nr < 20 from propext (by omega)), bI, ← Int32.not_le] at *; simp [h2, h4, eq_true h6, h7]; done) | (simp_all [bI, h2, h4, eq_true h6, h7, rightE, (show (nr = 20) = ¬ nr < 20 from propext (by omega))]; done) | (simp_all [bI, h2, h4, eq_true h6, h7, rightE, (show (nr = 20) = ¬ nr < 20 from propext (by omega))]; rfl) | (exfalso; omega)⟩, rfl⟩)) (fun h8 => ?_)
    exact absurd rfl h8
  · skip
    refine v_aload_n C dX7_right_21 rfl 1 rfl ?_
    refine v_get C (v := .ref (a 6 2)) g_X7_40 (m2 (s := s) (t := t) (g := G.2.2.1) hL) (rg (by decide) rfl) dX7_right_22 rfl ?_
    refine w_invVr C [] 2 12 L_X7_86 (c_Jx4a65c_size_8abf5 (s := s) (t := t)  hst hG hL 2 (by decide)) (m6 (s := s) (t := t) (g := G.2.2.1) hL 2 (by decide)) rfl rfl rfl rfl dX7_right_25 rfl kx_no (fun h9 => ?_)
    refine xx_top (y := s 33 0) rfl ?_
    refine xx_top (y := nI nr) hlr.p2 ?_
    refine v_bipush C (v := 20) dX7_right_28 rfl rfl ?_
    refine v_icN_ge C (t := 37) nr 20 rfl rfl (by omega) (by omega) dX7_right_30 rfl rfl (fun h10 => ?_) (fun h10 => ?_)
    · skip
      refine v_iconst C (v := 0) dX7_right_37 rfl rfl ?_
      refine w_invSv C [.int (0)] 3 18 L_X7_75 (c_X7_checkState (s := s) (t := t)  hst hG hL 0) rfl rfl rfl dX7_right_38 rfl (kx_out C (by decide) (fun E w1 hE => by obtain ⟨⟨rfl, h11⟩, rfl⟩ := hE; exact ⟨⟨3, List.Mem.tail _ (List.Mem.tail _ (List.Mem.head _)), by first | rfl | (simp only [h2, h4, h6, h10, Nat.not_lt.mpr h10, h11, rightE, (show (nr = 20) = ¬ nr < 20 from propext (by omega)), bI, pM, pU, n10, n20, n30, n0, if_true, if_false, ite_true, ite_false, not_true_eq_false, not_false_eq_true, and_true, true_and, and_false, false_and, or_true, true_or, or_false, false_or, reduceIte, and_self, or_self, ne_eq, eq_self_iff_true]; first | done | rfl) | (simp [bI, h2, h4, h6, h10, Nat.not_lt.mpr h10, h11, rightE, (show (nr = 20) = ¬ nr < 20 from propext (by omega))]; done) | (simp only [rightE, (show (nr = 20) = ¬ nr < 20 from propext (by omega)), bI, ← Int32.not_le] at *; simp [h2, h4, h6, h10, Nat.not_lt.mpr h10, h11]; done) | (simp_all [bI, h2, h4, h6, h10, Nat.not_lt.mpr h10, h11, rightE, (show (nr = 20) = ¬ nr < 20 from propext (by omega))]; done) | (simp_all [bI, h2, h4, h6, h10, Nat.not_lt.mpr h10, h11, rightE, (show (nr = 20) = ¬ nr < 20 from propext (by omega))]; rfl) | (exfalso; omega)⟩, rfl⟩)) (fun h12 => ?_)
      exact absurd rfl h12
    · skip
      refine v_iconst C (v := 1) dX7_right_33 rfl rfl ?_
      refine v_goto C (q := 38) dX7_right_34 rfl ?_
      refine w_invSv C [.int (1)] 3 18 L_X7_75 (c_X7_checkState (s := s) (t := t)  hst hG hL 1) rfl rfl rfl dX7_right_38 rfl (fun E w1 hE => absurd hE.1.2 (by decide)) (fun h13 => ?_)
      have hE : rightE s nr x i_ = 0 := by first | rfl | (simp only [h2, h4, h6, h10, Nat.not_le.mpr h10, rightE, (show (nr = 20) = ¬ nr < 20 from propext (by omega)), bI, pM, pU, n10, n20, n30, n0, if_true, if_false, ite_true, ite_false, not_true_eq_false, not_false_eq_true, and_true, true_and, and_false, false_and, or_true, true_or, or_false, false_or, reduceIte, and_self, or_self, ne_eq, eq_self_iff_true]; first | done | rfl) | (simp [bI, h2, h4, h6, h10, Nat.not_le.mpr h10, rightE, (show (nr = 20) = ¬ nr < 20 from propext (by omega))]; done) | (simp only [rightE, (show (nr = 20) = ¬ nr < 20 from propext (by omega)), bI, ← Int32.not_le] at *; simp [h2, h4, h6, h10, Nat.not_le.mpr h10]; done) | (simp_all [bI, h2, h4, h6, h10, Nat.not_le.mpr h10, rightE, (show (nr = 20) = ¬ nr < 20 from propext (by omega))]; done) | (simp_all [bI, h2, h4, h6, h10, Nat.not_le.mpr h10, rightE, (show (nr = 20) = ¬ nr < 20 from propext (by omega))]; rfl) | (exfalso; omega)
      refine v_aload_n C dX7_right_41 rfl 1 rfl ?_
      refine v_get C (v := .ref (a 6 2)) g_X7_40 (m2 (s := s) (t := t) (g := G.2.2.1) hL) (rg (by decide) rfl) dX7_right_42 rfl ?_
      refine v_new C (ci := 4) (N := 2) (fs := [.int 0, .int 0]) rfl inA_RX4 tyX4_ok K_X7_128 in_X4 iz_X4 df_X4 (by decide) (by decide) dX7_right_45 rfl (fun q9 => ?_)
      refine v_dup C dX7_right_48 rfl rfl ?_
      refine v_iload_n C dX7_right_49 rfl 2 rfl ?_
      refine v_iload_n C dX7_right_50 rfl 3 rfl ?_
      refine w_invI C [.int x, .int i_] 4 20 L_X7_130 (c_X4_init hst hG ap_new) rfl rfl rfl dX7_right_51 rfl (fun v w1 hv => ?_)
      obtain ⟨rfl, rfl, -⟩ := hv
      refine xx_w (w' := wl a (E G.2.2.1 a s t) L ++ wl (au a 13 nr q9) (E G.2.2.1 (au a 13 nr q9) (su (rightU s nr x i_) 55 2 (s 55 2 + 1)) t) (nM 2 nr)) (by rw [ap_sn0]; refine congrArg _ ?_; show [(q9, _)] = [(au a 13 nr q9 13 nr, (Sum.inr (4, [.int ((su (rightU s nr x i_) 55 2 (s 55 2 + 1)) 34 nr), .int ((su (rightU s nr x i_) 55 2 (s 55 2 + 1)) 35 nr)]) : va_E))]; rw [au_a, show (su (rightU s nr x i_) 55 2 (s 55 2 + 1)) 34 nr = x from by simp [rightU, su, upd], show (su (rightU s nr x i_) 55 2 (s 55 2 + 1)) 35 nr = i_ from by simp [rightU, su, upd]]) ?_
      refine xx_topR (y := (au a 13 nr q9) (eI 2) nr) (au_a).symm ?_
      refine xx_add (k1 := 5) (n1 := 60) C hMi hL 2 nr (by decide) hT (by omega) (au a 13 nr q9) (su (rightU s nr x i_) 55 2 (s 55 2 + 1)) L_X7_95 (by simp [su, upd]) (by show (su (rightU s nr x i_) 55 2 (s 55 2 + 1)) 33 0 = _; simp [rightU, su, upd]) (fun κ i hv c6 c7 z j hd => by have h2 := Lv_c hv; have h3 := lI_v i; have h4 : tn (s0 33 0) = nr := hT.2.2.2; exact (su_b2 (nd_55 hd c6)).trans ((su_b2 (nd_c hd hv c6 c7 (by decide) (by decide))).trans ((su_b2 (fun e => by have := dq_34 hd (by omega); omega)).trans ((su_b2 (fun e => by have := dq_34 hd (by omega); omega)).trans rfl)))) (fun κ i hv => au_o (fun c => by have h2 := Lv_c hv; have h4 : tn (s0 33 0) = nr := hT.2.2.2; omega)) (fun κ i h => au_k (by omega)) (fun i hi hne j => au_k (eI_inj 2 (by decide) i hi hne)) (fun j hj => au_o (fun c => by omega)) (⟨4, _, _, List.mem_append_right _ (List.mem_cons_self), by decide, rfl, qn4 109 rfl rfl⟩) (fun j hj => ⟨4, _, _, m13 hL j (hv_nr j hj), by decide, rfl, qn4 109 rfl rfl⟩) rfl dX7_right_54 rfl (fun a1 L1 hL1 hT1 hA1 hB1 => ?_)
      refine v_pop C dX7_right_57 rfl rfl ?_
      refine v_aload_n C dX7_right_58 rfl 1 rfl ?_
      refine v_get C (v := .ref (a1 6 2)) g_X7_40 (xx_m2 (m2 (s := (su (rightU s nr x i_) 55 2 (s 55 2 + 1))) (t := t) (g := G.2.2.1) hL1) (hA1 2 0 (by omega))) (rg (by decide) rfl) dX7_right_59 rfl ?_
      refine w_invVr C [] 5 60 L_X7_86 (c_Jx4a65c_size_8abf5 (s := (su (rightU s nr x i_) 55 2 (s 55 2 + 1))) (t := t) hst hG hL1 2 (by decide)) (m6 (s := (su (rightU s nr x i_) 55 2 (s 55 2 + 1))) (t := t) (g := G.2.2.1) hL1 2 (by decide)) rfl rfl rfl rfl dX7_right_62 rfl kx_no (fun _ => ?_)
      refine xx_top (y := nI (nr + 1)) hT1.1.1 ?_
      refine v_iconst C (v := 1) dX7_right_65 rfl rfl ?_
      refine v_isubN C (nr + 1) 1 (by omega) rfl rfl dX7_right_66 rfl ?_
      exact v_iret C (by decide) (by decide) dX7_right_67 ⟨rfl, hE, a1, L1, rfl, hL1, hT1, hA1, hB1⟩
