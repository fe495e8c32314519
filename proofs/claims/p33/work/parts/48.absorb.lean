/-! worlds grow: new cells get names -/
theorem D1_nodup {ws : va_W} (h : ∀ (i j : Nat) (p q : Nat × va_E), ws[i]? = some p → ws[j]? = some q → p.1 = q.1 → i = j) : (ws.map Prod.fst).Nodup := by
  rw [List.nodup_iff_pairwise_ne, List.pairwise_iff_getElem]
  intro i j hi hj hij e
  rw [List.length_map] at hi hj
  rw [List.getElem_map, List.getElem_map] at e
  have := h i j _ _ (List.getElem?_eq_getElem hi) (List.getElem?_eq_getElem hj) e
  omega
theorem D1_of {ws : va_W} (h : (ws.map Prod.fst).Nodup) : ∀ (i j : Nat) (p q : Nat × va_E), ws[i]? = some p → ws[j]? = some q → p.1 = q.1 → i = j := by
  intro i j p q hi hj e
  have h1 : (ws.map Prod.fst)[i]? = some p.1 := by rw [List.getElem?_map, hi]; rfl
  have h2 : (ws.map Prod.fst)[j]? = some p.1 := by rw [List.getElem?_map, hj, e]; rfl
  have hlt : i < (ws.map Prod.fst).length := (List.getElem?_eq_some_iff.mp h1).1
  exact (List.getElem?_inj hlt h).mp (h1.trans h2.symm)
/-- cells are forgotten, or named in another order -/
theorem xx_sub {X : XS} {G : GG} {nL : Nat} {w w2 w' : va_W} {k n : Nat} {Q : State → Prop} {pc : Nat} {lv : List (Nat × Value)} {st : List Value} (h1 : w2.Sublist w) (h2 : w2.Perm w') (kk : V X G nL w' k n Q pc lv st) : V X G nL w k n Q pc lv st := by
  have hin : ∀ q ∈ w', q ∈ w := fun q hq => h1.subset (h2.mem_iff.mpr hq)
  intro H locs ls hP hD hS hl
  refine kk H locs ls (fun i q hq => ?_) ⟨?_, fun i q hq => ?_⟩ hS hl
  · obtain ⟨j, hj⟩ := List.getElem?_of_mem (hin q (List.mem_of_getElem? hq))
    exact hP j q hj
  · exact D1_of (((h2.map Prod.fst).nodup_iff).mp ((D1_nodup hD.1).sublist (h1.map Prod.fst)))
  · obtain ⟨j, hj⟩ := List.getElem?_of_mem (hin q (List.mem_of_getElem? hq))
    exact hD.2 j q hj
theorem wl_len {a : AD} {F : Nat → Nat → va_E} {L : List (Nat × Nat)} : (wl a F L).length = L.length := List.length_map _
theorem wl_app {a : AD} {F : Nat → Nat → va_E} {L M : List (Nat × Nat)} : wl a F (L ++ M) = wl a F L ++ wl a F M := List.map_append
theorem wl_congr {a a' : AD} {F F' : Nat → Nat → va_E} {L : List (Nat × Nat)} (h : ∀ k i, (k, i) ∈ L → a k i = a' k i ∧ F k i = F' k i) : wl a F L = wl a' F' L :=
  List.map_congr_left fun q hq => by rw [(h q.1 q.2 hq).1, (h q.1 q.2 hq).2]
theorem wl_get {a : AD} {F : Nat → Nat → va_E} {L : List (Nat × Nat)} {q K i0 : Nat} (h : L[q]? = some (K, i0)) : (wl a F L)[q]? = some (a K i0, F K i0) := by
  unfold wl
  rw [List.getElem?_map, h]; rfl
theorem wl_set {a : AD} {F : Nat → Nat → va_E} {L : List (Nat × Nat)} {q K i0 : Nat} {e : va_E} (hn : L.Nodup) (h : L[q]? = some (K, i0)) : (wl a F L).set q (a K i0, e) = wl a (fun k i => if k = K ∧ i = i0 then e else F k i) L := by
  have hlt : q < L.length := (List.getElem?_eq_some_iff.mp h).1
  apply List.ext_getElem?
  intro j
  by_cases hj : j = q
  · subst hj
    rw [List.getElem?_set_self (by rw [wl_len]; exact hlt), wl_get h, if_pos ⟨rfl, rfl⟩]
  · rw [List.getElem?_set_ne (Ne.symm hj)]
    unfold wl
    rw [List.getElem?_map, List.getElem?_map]
    cases hz : L[j]? with
    | none => rfl
    | some p =>
      show some (a p.1 p.2, F p.1 p.2) = some (a p.1 p.2, if p.1 = K ∧ p.2 = i0 then e else F p.1 p.2)
      rw [if_neg]
      rintro ⟨e1, e2⟩
      have e3 : p = (K, i0) := Prod.ext e1 e2
      exact hj ((List.getElem?_inj hlt hn).mp (h.trans (e3 ▸ hz.symm))).symm
/-- .. in the list's own array -/
theorem absorb_A {a a1 : AD} {F F1 : Nat → Nat → va_E} {L M : List (Nat × Nat)} {ex : va_W} {x6 x7 k : Nat} {e6 e7 : va_E} (hn : L.Nodup) (h6 : L[x6]? = some (6, k)) (h7 : L[x7]? = some (7, k)) (hex : ex = wl a1 F1 M)
    (ha : ∀ κ i, (κ, i) ∈ L → a1 κ i = a κ i) (hF : ∀ κ i, (κ, i) ∈ L → ¬ (κ = 6 ∧ i = k) → ¬ (κ = 7 ∧ i = k) → F1 κ i = F κ i) (f6 : F1 6 k = e6) (f7 : F1 7 k = e7) :
    ((wl a F L ++ ex).set x7 (a 7 k, e7)).set x6 (a 6 k, e6) = wl a1 F1 (L ++ M) := by
  have l6 : x6 < L.length := (List.getElem?_eq_some_iff.mp h6).1
  have l7 : x7 < L.length := (List.getElem?_eq_some_iff.mp h7).1
  rw [ap_set (by rw [wl_len]; exact l7), ap_set (by rw [List.length_set, wl_len]; exact l6), wl_set hn h7, wl_set hn h6, wl_app, hex]
  congr 1
  refine wl_congr (fun κ i hm => ⟨(ha κ i hm).symm, ?_⟩)
  show (if κ = 6 ∧ i = k then e6 else if κ = 7 ∧ i = k then e7 else F κ i) = F1 κ i
  by_cases c6 : κ = 6 ∧ i = k
  · rw [if_pos c6, c6.1, c6.2, f6]
  · by_cases c7 : κ = 7 ∧ i = k
    · rw [if_neg c6, if_pos c7, c7.1, c7.2, f7]
    · rw [if_neg c6, if_neg c7, hF κ i hm c6 c7]
/-- .. in a longer one -/
theorem absorb_G {a a1 : AD} {F F1 : Nat → Nat → va_E} {L M : List (Nat × Nat)} {ex : va_W} {x6 k b : Nat} {e6 e7 : va_E} (hn : L.Nodup) (h6 : L[x6]? = some (6, k)) (hex : ex = wl a1 F1 M)
    (ha : ∀ κ i, (κ, i) ∈ L → ¬ (κ = 7 ∧ i = k) → a1 κ i = a κ i) (hb : a1 7 k = b) (hF : ∀ κ i, (κ, i) ∈ L → ¬ (κ = 6 ∧ i = k) → ¬ (κ = 7 ∧ i = k) → F1 κ i = F κ i) (f6 : F1 6 k = e6) (f7 : F1 7 k = e7) :
    (wl a1 F1 (L.erase (7, k) ++ M ++ [(7, k)])).Sublist ((wl a F L ++ ex).set x6 (a 6 k, e6) ++ [(b, e7)]) := by
  have l6 : x6 < L.length := (List.getElem?_eq_some_iff.mp h6).1
  have e1 : wl a1 F1 [(7, k)] = [(b, e7)] := by
    show [(a1 7 k, F1 7 k)] = _
    rw [hb, f7]
  rw [ap_set (by rw [wl_len]; exact l6), wl_set hn h6, wl_app, wl_app, e1, ← hex]
  refine List.Sublist.append (List.Sublist.append ?_ (List.Sublist.refl _)) (List.Sublist.refl _)
  have e2 : wl a1 F1 (L.erase (7, k)) = wl a (fun κ i => if κ = 6 ∧ i = k then e6 else F κ i) (L.erase (7, k)) := by
    refine wl_congr (fun κ i hm => ?_)
    obtain ⟨hne, hm⟩ := hn.mem_erase_iff.mp hm
    have c7 : ¬ (κ = 7 ∧ i = k) := fun c => hne (Prod.ext c.1 c.2)
    refine ⟨ha κ i hm c7, ?_⟩
    show F1 κ i = if κ = 6 ∧ i = k then e6 else F κ i
    by_cases c6 : κ = 6 ∧ i = k
    · rw [if_pos c6, c6.1, c6.2, f6]
    · rw [if_neg c6, hF κ i hm c6 c7]
  rw [e2]
  exact List.erase_sublist.map _
theorem Live_A {L M : List (Nat × Nat)} {s0 s1 : SS} (hL : Live L s0) (hM : M.Nodup) (hd : ∀ q ∈ M, ¬ Lv s0 q.1 q.2) (h : ∀ κ i, Lv s1 κ i ↔ Lv s0 κ i ∨ (κ, i) ∈ M) : Live (L ++ M) s1 := by
  refine ⟨List.nodup_append.mpr ⟨hL.1, hM, fun x hx y hy e => ?_⟩, fun κ i => ?_⟩
  · subst e
    exact hd x hy ((hL.2 x.1 x.2).mp hx)
  · rw [List.mem_append, h, hL.2]
theorem Live_G {L M : List (Nat × Nat)} {s0 s1 : SS} {k : Nat} (hL : Live L s0) (hM : M.Nodup) (hd : ∀ q ∈ M, ¬ Lv s0 q.1 q.2) (h7 : ∀ i, (7, i) ∉ M) (h : ∀ κ i, Lv s1 κ i ↔ Lv s0 κ i ∨ (κ, i) ∈ M ∨ (κ = 7 ∧ i = k)) : Live (L.erase (7, k) ++ M ++ [(7, k)]) s1 := by
  have hm : ∀ κ i, (κ, i) ∈ L.erase (7, k) ↔ Lv s0 κ i ∧ ¬ (κ = 7 ∧ i = k) := fun κ i => by
    rw [hL.1.mem_erase_iff, hL.2]
    constructor
    · exact fun ⟨e, z⟩ => ⟨z, fun c => e (Prod.ext c.1 c.2)⟩
    · exact fun ⟨z, e⟩ => ⟨fun c => e ⟨(Prod.mk.inj c).1, (Prod.mk.inj c).2⟩, z⟩
  refine ⟨List.nodup_append.mpr ⟨List.nodup_append.mpr ⟨hL.1.erase _, hM, fun x hx y hy e => ?_⟩, List.nodup_cons.mpr ⟨List.not_mem_nil, List.nodup_nil⟩, fun x hx y hy e => ?_⟩, fun κ i => ?_⟩
  · subst e
    exact hd x hy ((hm x.1 x.2).mp hx).1
  · subst e
    have e1 : x = (7, k) := List.mem_singleton.mp hy
    subst e1
    rcases List.mem_append.mp hx with hx | hx
    · exact ((hm 7 k).mp hx).2 ⟨rfl, rfl⟩
    · exact h7 k hx
  · rw [List.mem_append, List.mem_append, hm, h, List.mem_singleton]
    constructor
    · rintro ((⟨z, -⟩ | z) | z)
      · exact Or.inl z
      · exact Or.inr (Or.inl z)
      · exact Or.inr (Or.inr ⟨(Prod.mk.inj z).1, (Prod.mk.inj z).2⟩)
    · rintro (z | z | ⟨rfl, rfl⟩)
      · by_cases c : κ = 7 ∧ i = k
        · exact Or.inr (Prod.ext c.1 c.2)
        · exact Or.inl (Or.inl ⟨z, c⟩)
      · exact Or.inl (Or.inr z)
      · exact Or.inr rfl
/-- what a cell shows of addresses -/
def AG (a a1 : AD) (κ i : Nat) : Prop := (∀ j, a1 1 j = a 1 j ∧ a1 3 j = a 3 j ∧ a1 4 j = a 4 j ∧ a1 5 j = a 5 j ∧ a1 6 j = a 6 j ∧ a1 8 j = a 8 j) ∧ (κ = 6 → a1 16 i = a 16 i) ∧ (κ = 7 → a1 15 i = a 15 i ∧ ∀ j, a1 (eI i) j = a (eI i) j) ∧ (κ = 9 → a1 10 i = a 10 i ∧ a1 11 i = a 11 i)
theorem E_ag {g : Nat → Nat} {a a1 : AD} {s t : SS} {κ i : Nat} (hκ : κ < 15) (h : AG a a1 κ i) : E g a1 s t κ i = E g a s t κ i := by
  obtain ⟨h0, h6, h7, h9⟩ := h
  rcases (show κ = 0 ∨ κ = 1 ∨ κ = 2 ∨ κ = 3 ∨ κ = 4 ∨ κ = 5 ∨ κ = 6 ∨ κ = 7 ∨ κ = 8 ∨ κ = 9 ∨ κ = 10 ∨ κ = 11 ∨ κ = 12 ∨ κ = 13 ∨ κ = 14 by omega) with rfl | rfl | rfl | rfl | rfl | rfl | rfl | rfl | rfl | rfl | rfl | rfl | rfl | rfl | rfl
  · rfl
  · rfl
  · refine congrArg (fun l => Sum.inr (7, l)) (lm fun j _ => ?_)
    unfold cF
    split
    · rw [(h0 0).2.1]
    · rw [(h0 0).2.2.1]
    · rw [(h0 0).2.2.2.1]
    · rw [(h0 0).2.2.2.2.1]
    · rw [(h0 1).2.2.2.2.1]
    · rw [(h0 2).2.2.2.2.1]
    · rfl
  · show (Sum.inr (2, [.ref (a1 8 0), .ref (a1 8 1), _, _]) : va_E) = _
    rw [(h0 0).2.2.2.2.2, (h0 1).2.2.2.2.2]; rfl
  · show (Sum.inr (6, [.ref (a1 8 2), .ref (a1 8 3), _]) : va_E) = _
    rw [(h0 2).2.2.2.2.2, (h0 3).2.2.2.2.2]; rfl
  · show (Sum.inr (5, [.ref (a1 8 4)]) : va_E) = _
    rw [(h0 4).2.2.2.2.2]; rfl
  · show (Sum.inr (0, [_, .ref (a1 16 i), _]) : va_E) = _
    rw [h6 rfl]; rfl
  · show (Sum.inl (g 2, a1 15 i, Sum.inr (.inr (.inr (.inr (fun j => if j < tn (s (lI i) 0) then some (a1 (eI i) j) else none))))) : va_E) = _
    rw [(h7 rfl).1, show (fun j => if j < tn (s (lI i) 0) then some (a1 (eI i) j) else none) = (fun j => if j < tn (s (lI i) 0) then some (a (eI i) j) else none) from funext fun j => by rw [(h7 rfl).2 j]]
    rfl
  · rfl
  · refine congrArg (fun l => Sum.inr (3, l)) (lm fun j _ => ?_)
    unfold nF
    split
    · rw [(h9 rfl).1]
    · rw [(h9 rfl).2]
    · rfl
  · rfl
  · rfl
  · rfl
  · rfl
  · rfl
/-- what a cell shows of the class's state -/
def dq (κ i z j : Nat) : Prop := match κ with
  | 2 => z ∈ dep 2 | 3 => z ∈ dep 3 | 4 => z ∈ dep 4 | 6 => (z = 55 ∧ j = i) ∨ (z = lI i ∧ j = 0) | 7 => z = lI i ∧ j = 0 | 8 => z ∈ dep 8 | 9 => 13 ≤ z ∧ z ≤ 19 ∧ j = i | 10 => z = 20 ∧ 12 * i ≤ j ∧ j < 12 * i + 12
  | 11 => z = 52 ∧ 40 * i ≤ j ∧ j < 40 * i + 40 | 12 => z ∈ dep 12 ∧ j = i | 13 => z ∈ dep 13 ∧ j = i | 14 => z = 60 | _ => False
theorem E_dq {g : Nat → Nat} {a : AD} {s s1 t : SS} {κ i : Nat} (hκ : κ < 15) (h : ∀ z j, dq κ i z j → s1 z j = s z j) : E g a s1 t κ i = E g a s t κ i := by
  rcases (show κ = 0 ∨ κ = 1 ∨ κ = 2 ∨ κ = 3 ∨ κ = 4 ∨ κ = 5 ∨ κ = 6 ∨ κ = 7 ∨ κ = 8 ∨ κ = 9 ∨ κ = 10 ∨ κ = 11 ∨ κ = 12 ∨ κ = 13 ∨ κ = 14 by omega) with rfl | rfl | rfl | rfl | rfl | rfl | rfl | rfl | rfl | rfl | rfl | rfl | rfl | rfl | rfl
  · exact E_d0 i
  · exact E_d1 i
  · exact E_d2 i (fun z hz => funext fun j => h z j hz)
  · exact E_d3 i (fun z hz => funext fun j => h z j hz)
  · exact E_d4 i (fun z hz => funext fun j => h z j hz)
  · exact E_d5 i
  · show (Sum.inr (0, [.int (s1 55 i), _, .int (s1 (lI i) 0)]) : va_E) = _
    rw [h 55 i (Or.inl ⟨rfl, rfl⟩), h (lI i) 0 (Or.inr ⟨rfl, rfl⟩)]; rfl
  · show (Sum.inl (g 2, a 15 i, Sum.inr (.inr (.inr (.inr (fun j => if j < tn (s1 (lI i) 0) then some (a (eI i) j) else none))))) : va_E) = _
    rw [h (lI i) 0 ⟨rfl, rfl⟩]; rfl
  · exact E_d8 i (fun z hz => funext fun j => h z j hz)
  · refine congrArg (fun l => Sum.inr (3, l)) (lm fun j hj => ?_)
    unfold nF
    split
    · rfl
    · rfl
    · have h0 : ¬ j = 0 := by assumption
      have h1 : ¬ j = 1 := by assumption
      rw [h (11 + j) i ⟨by omega, by omega, rfl⟩]
  · show (Sum.inl (g 0, 12, Sum.inl (rw_ 12 (s1 20) i)) : va_E) = _
    rw [show rw_ 12 (s1 20) i = rw_ 12 (s 20) i from funext fun b => by
      unfold rw_
      by_cases hb : b < 12
      · rw [if_pos hb, if_pos hb, h 20 _ ⟨rfl, by omega, by omega⟩]
      · rw [if_neg hb, if_neg hb]]
    rfl
  · show (Sum.inl (g 0, 40, Sum.inl (rw_ 40 (s1 52) i)) : va_E) = _
    rw [show rw_ 40 (s1 52) i = rw_ 40 (s 52) i from funext fun b => by
      unfold rw_
      by_cases hb : b < 40
      · rw [if_pos hb, if_pos hb, h 52 _ ⟨rfl, by omega, by omega⟩]
      · rw [if_neg hb, if_neg hb]]
    rfl
  · exact congrArg (fun l => Sum.inr (1, l)) (lm fun j _ => by rw [h (kI j) i ⟨kI_in j, rfl⟩])
  · show (Sum.inr (4, [.int (s1 34 i), .int (s1 35 i)]) : va_E) = _
    rw [h 34 i ⟨by decide, rfl⟩, h 35 i ⟨by decide, rfl⟩]; rfl
  · show (Sum.inl (g 3, 1, Sum.inr (.inl (fun j => if j = 0 then (s1 60 0).toInt64 else 0))) : va_E) = _
    rw [h 60 0 rfl]; rfl
def au (a : AD) (κ i v : Nat) : AD := fun κ' i' => if κ' = κ ∧ i' = i then v else a κ' i'
theorem au_a {a : AD} {κ i v : Nat} : au a κ i v κ i = v := if_pos ⟨rfl, rfl⟩
theorem au_o {a : AD} {κ i v κ' i' : Nat} (h : ¬ (κ' = κ ∧ i' = i)) : au a κ i v κ' i' = a κ' i' := if_neg h
theorem au_k {a : AD} {κ i v κ' i' : Nat} (h : κ' ≠ κ) : au a κ i v κ' i' = a κ' i' := if_neg (fun z => h z.1)
/-- all that is kept of a list: its count, its first array, its length -/
def LsT (g : Nat → Nat) (a : AD) (s s0 : SS) (k n : Nat) : Prop := LsOK a s s0 k n ∧ (n = 0 → a 16 k = g 10) ∧ (0 < n → a 15 k = 10 ∨ a 15 k = 15 ∨ a 15 k = 22 ∨ a 15 k = 33) ∧ tn (s0 (lI k) 0) = n
