/-! The worlds: a cell is named by its kind and its number; a: where it lies; s (the class's), t (the reference's): what it holds. Numbers of a state: those of the reference's fields; 50 on: the class's own. -/
abbrev SS : Type := Nat → Nat → Int32
abbrev AD : Type := Nat → Nat → Nat
abbrev tn (x : Int32) : Nat := x.toNatClampNeg
def su (s : SS) (k i : Nat) (v : Int32) : SS := fun k' => if k' = k then upd (s k) i v else s k'
theorem su_s {s : SS} {k i : Nat} {v : Int32} : su s k i v k = upd (s k) i v := if_pos rfl
theorem su_o {s : SS} {k i k' : Nat} {v : Int32} (h : k' ≠ k) : su s k i v k' = s k' := if_neg h
theorem su_a {s : SS} {k i : Nat} {v : Int32} : su s k i v k i = v := by rw [su_s]; exact if_pos rfl
theorem su_b {s : SS} {k i j : Nat} {v : Int32} (h : j ≠ i) : su s k i v k j = s k j := by rw [su_s]; exact if_neg h
/-- the law's own arrays: how many, how long -/
def mA (j : Nat) : Bool := Nat.ble j 3
def mN (j : Nat) : Nat := match j with
  | 0 => 6 | 1 => 20 | 2 => 24 | _ => 60
/-- the class: the number of a field's state, by kinds -/
def cI (j : Nat) : Nat := bif Nat.beq j 11 then 7 else j - 6
def kI (j : Nat) : Nat := match j with
  | 0 => 23 | 1 => 24 | 2 => 27 | 3 => 22 | 4 => 26 | 5 => 25 | 6 => 53 | 7 => 32 | 8 => 31 | 9 => 54 | _ => 28
def lI (t : Nat) : Nat := match t with
  | 0 => 12 | 1 => 21 | _ => 33
def eI (t : Nat) : Nat := match t with
  | 0 => 9 | 1 => 12 | _ => 13
def gI (t : Nat) : Nat := match t with
  | 0 => 9 | 1 => 10 | 2 => 50 | 3 => 51 | _ => 11
def gN (t : Nat) : Nat := match t with
  | 0 => 40 | 1 => 40 | 2 => 20 | 3 => 20 | _ => 40
def cF (a : AD) (s : SS) (j : Nat) : Value := match j with
  | 0 => .ref (a 3 0) | 1 => .ref (a 4 0) | 2 => .ref (a 5 0) | 3 => .ref (a 6 0) | 4 => .ref (a 6 1) | 5 => .ref (a 6 2) | j => .int (s (cI j) 0)
def nF (a : AD) (s : SS) (i j : Nat) : Value := match j with
  | 0 => .ref (a 10 i) | 1 => .ref (a 11 i) | j => .int (s (11 + j) i)
/-- rows of a table of w columns -/
def rw_ (w : Nat) (f : Nat → Int32) (i : Nat) : Nat → Int32 := fun b => if b < w then f (w * i + b) else 0
def E (g : Nat → Nat) (a : AD) (s t : SS) : Nat → Nat → va_E := fun k i => match k with
  | 0 => .inr (0, [])
  | 1 => .inl (g 0, mN i, .inl (t i))
  | 2 => .inr (7, (List.range 12).map (cF a s))
  | 3 => .inr (2, [.ref (a 8 0), .ref (a 8 1), .int (s 6 0), .int (s 8 0)])
  | 4 => .inr (6, [.ref (a 8 2), .ref (a 8 3), .int (s 5 0)])
  | 5 => .inr (5, [.ref (a 8 4)])
  | 6 => .inr (0, [.int (s 55 i), .ref (a 16 i), .int (s (lI i) 0)])
  | 7 => .inl (g 2, a 15 i, .inr (.inr (.inr (.inr (fun j => if j < tn (s (lI i) 0) then some (a (eI i) j) else none)))))
  | 8 => .inl (g 0, gN i, .inl (s (gI i)))
  | 9 => .inr (3, (List.range 9).map (nF a s i))
  | 10 => .inl (g 0, 12, .inl (rw_ 12 (s 20) i))
  | 11 => .inl (g 0, 40, .inl (rw_ 40 (s 52) i))
  | 12 => .inr (1, (List.range 11).map (fun j => .int (s (kI j) i)))
  | 13 => .inr (4, [.int (s 34 i), .int (s 35 i)])
  | _ => .inl (g 3, 1, .inr (.inl (fun j => if j = 0 then (s 60 0).toInt64 else 0)))
def wl (a : AD) (F : Nat → Nat → va_E) (L : List (Nat × Nat)) : va_W := L.map (fun q => (a q.1 q.2, F q.1 q.2))
def Lv (s : SS) (k i : Nat) : Prop := match k with
  | 0 => False
  | 1 => mA i = true
  | 2 => i = 0
  | 3 => i = 0
  | 4 => i = 0
  | 5 => i = 0
  | 6 => i < 3
  | 7 => i < 3 ∧ 0 < tn (s (lI i) 0)
  | 8 => i < 5
  | 9 => i < tn (s 12 0)
  | 10 => i < tn (s 12 0)
  | 11 => i < tn (s 12 0)
  | 12 => i < tn (s 21 0)
  | 13 => i < tn (s 33 0)
  | 14 => False
  | _ => False
/-- the cells that there are: each once -/
def Live (L : List (Nat × Nat)) (s : SS) : Prop := L.Nodup ∧ ∀ k i : Nat, (k, i) ∈ L ↔ Lv s k i
theorem wl_mem {a : AD} {F : Nat → Nat → va_E} {L : List (Nat × Nat)} {k i : Nat} (h : (k, i) ∈ L) : (a k i, F k i) ∈ wl a F L := List.mem_map.mpr ⟨(k, i), h, rfl⟩
theorem wl_put {a : AD} {F F' : Nat → Nat → va_E} {L : List (Nat × Nat)} {k i : Nat} {e0 e1 : va_E} (hn : L.Nodup) (hm : (k, i) ∈ L) (h0 : F k i = e0) (h1 : F' k i = e1) (hF : ∀ k' i', (k', i') ∈ L → ¬ (k' = k ∧ i' = i) → F' k' i' = F k' i') :
    ∃ q0 : Nat, (wl a F L)[q0]? = some (a k i, e0) ∧ (wl a F L).set q0 (a k i, e1) = wl a F' L := by
  obtain ⟨q0, hq⟩ := List.getElem?_of_mem hm
  have hlt : q0 < L.length := (List.getElem?_eq_some_iff.mp hq).1
  refine ⟨q0, by rw [wl, List.getElem?_map, hq, ← h0]; rfl, ?_⟩
  apply List.ext_getElem?
  intro j
  by_cases hj : j = q0
  · subst hj
    rw [List.getElem?_set_self (by rw [wl, List.length_map]; exact hlt), wl, List.getElem?_map, hq, ← h1]
    rfl
  · rw [List.getElem?_set_ne (Ne.symm hj)]
    unfold wl
    rw [List.getElem?_map, List.getElem?_map]
    cases hz : L[j]? with
    | none => rfl
    | some p =>
      have hne : ¬ (p.1 = k ∧ p.2 = i) := by
        rintro ⟨rfl, rfl⟩
        exact hj ((List.getElem?_inj hlt hn).mp (hq.trans hz.symm)).symm
      have hp : (p.1, p.2) ∈ L := List.mem_of_getElem? hz
      show some (a p.1 p.2, F p.1 p.2) = some (a p.1 p.2, F' p.1 p.2)
      rw [hF p.1 p.2 hp hne]
theorem map_set {f f' : Nat → Value} {N j : Nat} {v : Value} (hv : f' j = v) (h : ∀ i, i < N → i ≠ j → f' i = f i) : ((List.range N).map f).set j v = (List.range N).map f' := by
  apply List.ext_getElem?
  intro i
  by_cases hi : i = j
  · subst hi
    by_cases hl : i < N
    · rw [List.getElem?_set_self (by simpa using hl), List.getElem?_map, List.getElem?_range hl, ← hv]; rfl
    · rw [List.getElem?_eq_none (by simp; omega), List.getElem?_eq_none (by simp; omega)]
  · rw [List.getElem?_set_ne (Ne.symm hi), List.getElem?_map, List.getElem?_map]
    by_cases hl : i < N
    · rw [List.getElem?_range hl]
      show some (f i) = some (f' i)
      rw [h i hl hi]
    · rw [List.getElem?_eq_none (by simp; omega)]; rfl
section WP
variable {g : Nat → Nat} {a : AD} {s t s0 : SS} {L : List (Nat × Nat)}
theorem ofL (hL : Live L s0) {k i : Nat} (h : (k, i) ∈ L) : Lv s0 k i := (hL.2 k i).mp h
theorem inL (hL : Live L s0) {k i : Nat} (h : Lv s0 k i) : (k, i) ∈ L := (hL.2 k i).mpr h
/-- the kinds that there are -/
theorem Lv.lt {k i : Nat} (h : Lv s0 k i) : k < 15 := by
  by_cases c : k < 15
  · exact c
  · obtain ⟨m, rfl⟩ : ∃ m, k = m + 15 := ⟨k - 15, by omega⟩
    exact absurd h (fun z => z)
theorem E_t (k i : Nat) (t' : SS) (hk : 2 ≤ k) : E g a s t' k i = E g a s t k i := by
  match k, hk with
  | 2, _ => rfl
  | 3, _ => rfl
  | 4, _ => rfl
  | 5, _ => rfl
  | 6, _ => rfl
  | 7, _ => rfl
  | 8, _ => rfl
  | 9, _ => rfl
  | 10, _ => rfl
  | 11, _ => rfl
  | 12, _ => rfl
  | 13, _ => rfl
  | n + 14, _ => rfl
theorem put_m1 (hL : Live L s0) (j : Nat) (hj : mA j = true) (i : Nat) (v : Int32) : ∃ q0 : Nat, (wl a (E g a s t) L)[q0]? = some (a 1 j, Sum.inl (g 0, mN j, Sum.inl (t j))) ∧ (wl a (E g a s t) L).set q0 (a 1 j, Sum.inl (g 0, mN j, Sum.inl (upd (t j) i v))) = wl a (E g a s (su t j i v)) L := by
  refine wl_put hL.1 (inL hL (k := 1) hj) rfl ?_ ?_
  · show Sum.inl (g 0, mN j, Sum.inl (su t j i v j)) = _
    rw [su_s]
  · intro k' i' hm hne
    match k', hm, hne with
    | 0, hm, hne => rfl
    | 1, hm, hne =>
      show Sum.inl (g 0, mN i', Sum.inl (su t j i v i')) = _
      rw [su_o (fun e => hne ⟨rfl, e⟩)]
      rfl
    | k + 2, hm, hne => exact E_t (k + 2) i' _ (by omega)
end WP
