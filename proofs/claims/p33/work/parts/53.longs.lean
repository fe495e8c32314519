theorem v_ladd {X : XS} {G : GG} {cc : ByteArray} {nL : Nat} {own : String} {ret : Option FieldType} {rm : Room} {nm : String} {tb : List ExceptionTableEntry} {w : va_W} {k n : Nat} {Q : State → Prop} {pc q : Nat} {lv : List (Nat × Value)} {st : List Value} (C : Cx X G cc nL own ret rm nm tb) {x y : Int64} (d : decode cc pc = .ok (.ladd, 1)) (hq : pc + 1 = q) (kk : V X G nL w k n Q q lv (.long (x + y) :: st)) : V X G nL w k n Q pc lv (.long y :: .long x :: st) := by
  subst hq
  obtain ⟨p, l, e, R, s, m, args, below, meth, c⟩ := X
  obtain ⟨hx, hb, hml, hown, hts, hst, hlk, hr, hR, hG, hF, hz, hK, hnm, htb⟩ := C
  intro H locs ls hP hD hS hl
  exact lv_ladd hx hb d (kk H locs ls hP hD hS hl)

theorem v_lload_n {X : XS} {G : GG} {cc : ByteArray} {nL : Nat} {own : String} {ret : Option FieldType} {rm : Room} {nm : String} {tb : List ExceptionTableEntry} {w : va_W} {k n : Nat} {Q : State → Prop} {pc q : Nat} {lv : List (Nat × Value)} {st : List Value} (C : Cx X G cc nL own ret rm nm tb) {i : Fin 4} {x : Int64} (d : decode cc pc = .ok (.lload_n i, 1)) (hq : pc + 1 = q) (j : Nat) (h : lv[j]? = some ((i : Nat), .long x)) (kk : V X G nL w k n Q q lv (.long x :: st)) : V X G nL w k n Q pc lv (st) := by
  subst hq
  obtain ⟨p, l, e, R, s, m, args, below, meth, c⟩ := X
  obtain ⟨hx, hb, hml, hown, hts, hst, hlk, hr, hR, hG, hF, hz, hK, hnm, htb⟩ := C
  intro H locs ls hP hD hS hl
  exact lv_lload_n hx hb d rfl (lv_at hl j h) (kk H locs ls hP hD hS hl)

theorem v_lload {X : XS} {G : GG} {cc : ByteArray} {nL : Nat} {own : String} {ret : Option FieldType} {rm : Room} {nm : String} {tb : List ExceptionTableEntry} {w : va_W} {k n : Nat} {Q : State → Prop} {pc q : Nat} {lv : List (Nat × Value)} {st : List Value} (C : Cx X G cc nL own ret rm nm tb) {i : Nat} {x : Int64} (d : decode cc pc = .ok (.lload i, 2)) (hq : pc + 2 = q) (j : Nat) (h : lv[j]? = some (i, .long x)) (kk : V X G nL w k n Q q lv (.long x :: st)) : V X G nL w k n Q pc lv (st) := by
  subst hq
  obtain ⟨p, l, e, R, s, m, args, below, meth, c⟩ := X
  obtain ⟨hx, hb, hml, hown, hts, hst, hlk, hr, hR, hG, hF, hz, hK, hnm, htb⟩ := C
  intro H locs ls hP hD hS hl
  exact lv_lload hx hb d (lv_at hl j h) (kk H locs ls hP hD hS hl)

theorem v_lstore_n {X : XS} {G : GG} {cc : ByteArray} {nL : Nat} {own : String} {ret : Option FieldType} {rm : Room} {nm : String} {tb : List ExceptionTableEntry} {w : va_W} {k n : Nat} {Q : State → Prop} {pc q : Nat} {lv : List (Nat × Value)} {st : List Value} (C : Cx X G cc nL own ret rm nm tb) {i : Fin 4} {x : Int64} {lv1 : List (Nat × Value)} (d : decode cc pc = .ok (.lstore_n i, 1)) (hq : pc + 1 = q) (hn : (i : Nat) + 1 < nL) (hl1 : ((i : Nat), Value.long x) :: lv.filter (fun q => !(q.1 == (i : Nat)) && (!(q.1 == (i : Nat) + 1) && !(q.1 + 1 == (i : Nat) && q.2.category == 2))) = lv1) (kk : V X G nL w k n Q q lv1 (st)) : V X G nL w k n Q pc lv (.long x :: st) := by
  subst hq
  obtain ⟨p, l, e, R, s, m, args, below, meth, c⟩ := X
  obtain ⟨hx, hb, hml, hown, hts, hst, hlk, hr, hR, hG, hF, hz, hK, hnm, htb⟩ := C
  intro H locs ls hP hD hS hl
  exact lv_lstore_n hx hb d rfl hl hn hl1 (fun ls1 hl2 => kk H locs ls1 hP hD hS hl2)

theorem v_lstore {X : XS} {G : GG} {cc : ByteArray} {nL : Nat} {own : String} {ret : Option FieldType} {rm : Room} {nm : String} {tb : List ExceptionTableEntry} {w : va_W} {k n : Nat} {Q : State → Prop} {pc q : Nat} {lv : List (Nat × Value)} {st : List Value} (C : Cx X G cc nL own ret rm nm tb) {i : Nat} {x : Int64} {lv1 : List (Nat × Value)} (d : decode cc pc = .ok (.lstore i, 2)) (hq : pc + 2 = q) (hn : i + 1 < nL) (hl1 : (i, Value.long x) :: lv.filter (fun q => !(q.1 == i) && (!(q.1 == i + 1) && !(q.1 + 1 == i && q.2.category == 2))) = lv1) (kk : V X G nL w k n Q q lv1 (st)) : V X G nL w k n Q pc lv (.long x :: st) := by
  subst hq
  obtain ⟨p, l, e, R, s, m, args, below, meth, c⟩ := X
  obtain ⟨hx, hb, hml, hown, hts, hst, hlk, hr, hR, hG, hF, hz, hK, hnm, htb⟩ := C
  intro H locs ls hP hD hS hl
  exact lv_lstore hx hb d hl hn hl1 (fun ls1 hl2 => kk H locs ls1 hP hD hS hl2)

theorem v_lret {X : XS} {G : GG} {cc : ByteArray} {nL : Nat} {own : String} {rm : Room} {nm : String} {tb : List ExceptionTableEntry} {w : va_W} {k n pc : Nat} {lv : List (Nat × Value)} (C : Cx X G cc nL own (some .long) rm nm tb) {R : Option Value → va_W → Prop} {XP : String → va_W → Prop} {v : Int64} (hk : k ≤ rm.cells) (hn : n ≤ rm.slots) (d : decode cc pc = .ok (.lreturn, 1)) (h : R (some (.long v)) w) : V X G nL w k n (Tg X G rm R XP) pc lv [.long v] := by
  obtain ⟨p, l, e, R0, s, m, args, below, meth, c⟩ := X
  obtain ⟨hx, hb, hml, hown, hts, hst, hlk, hr, hR, hG, hF, hz2, hK, hnm, htb⟩ := C
  intro H locs ls hP hD hS hl
  refine W.widen hk hn (vx_ret (W.lret hx hb hr (fun t ht hW => ⟨⟨_, w, rfl, h, by rw [ht]; exact hP, hD⟩, hS.F ht⟩) (fun x hx => hS.2.2 x hx) d hlk))
section SEL
variable {X : XS} {G : GG} {nL : Nat} {w : va_W} {k n : Nat} {Q : State → Prop} {pc : Nat} {lv : List (Nat × Value)} {st : List Value}
/-- two ways that meet again with 1 or 0 -/
theorem xx_sel {P : Prop} [Decidable P] (J : Nat) (st1 : List Value) (kJ : V X G nL w k n Q J lv (.int (bI P) :: st1)) (h : (∀ v, v = bI P → V X G nL w k n Q J lv (.int v :: st1)) → V X G nL w k n Q pc lv st) : V X G nL w k n Q pc lv st := h (fun v hv => hv ▸ kJ)
/-- two ways that meet again with one of two numbers -/
theorem xx_selI {x : Int32} (J : Nat) (st1 : List Value) (kJ : V X G nL w k n Q J lv (.int x :: st1)) (h : (∀ v, v = x → V X G nL w k n Q J lv (.int v :: st1)) → V X G nL w k n Q pc lv st) : V X G nL w k n Q pc lv st := h (fun v hv => hv ▸ kJ)
end SEL
/-- up to N, from below -/
theorem ind_up {α : Type} {P : Nat → α → Prop} (N : Nat) (body : ∀ i x, i ≤ N → (i < N → ∀ x', P (i + 1) x') → P i x) : ∀ i x, i ≤ N → P i x := by
  have key : ∀ m i x, i + m = N → P i x := by
    intro m
    induction m with
    | zero => exact fun i x hi => body i x (by omega) (fun h => absurd h (by omega))
    | succ m ih => exact fun i x hi => body i x (by omega) (fun _ x' => ih (i + 1) x' (by omega))
  exact fun i x hi => key (N - i) i x (by omega)
