/-- a fresh method's entry -/
theorem xx_mono {X : XS} {G : GG} {nL : Nat} {w : va_W} {k n k' n' : Nat} {Q : State → Prop} {pc : Nat} {lv : List (Nat × Value)} {st : List Value} (h1 : k ≤ k') (h2 : n ≤ n') (kk : V X G nL w k' n' Q pc lv st) : V X G nL w k n Q pc lv st :=
  fun H locs ls hP hD hS hl => W.widen h1 h2 (kk H locs ls hP hD hS hl)
theorem xx_lv {X : XS} {G : GG} {nL : Nat} {w : va_W} {k n : Nat} {Q : State → Prop} {pc : Nat} {lv lv' : List (Nat × Value)} {st : List Value} (ks : List Nat) (h : lv_pick lv ks = lv') (kk : V X G nL w k n Q pc lv' st) : V X G nL w k n Q pc lv st :=
  fun H locs ls hP hD hS hl => kk H locs ls hP hD hS (lv_sub hl ks h)
theorem xx_w {X : XS} {G : GG} {nL : Nat} {w w' : va_W} {k n : Nat} {Q : State → Prop} {pc : Nat} {lv : List (Nat × Value)} {st : List Value} (h : w = w') (kk : V X G nL w' k n Q pc lv st) : V X G nL w k n Q pc lv st := h ▸ kk
/-- a contract out of one walk of the body -/
theorem mth_of {l : Launch} {y : MethodName} {cc : ByteArray} {nL : Nat} {ret : Option FieldType} {rm : Room} {G : GG} {w : va_W} {av : List Value} {R : Option Value → va_W → Prop} {XP : String → va_W → Prop} (hy : plainName y.cls = true) (hn : (lg_sl av).length ≤ nL) (hst : l.stackTraces = false) (hG : GOK G)
    (body : ∀ X : XS, X.2.1 = l → Cx X G cc nL y.cls ret rm y.name [] → V X G nL w 0 0 (Tg X G rm R XP) 0 (lv_args 0 av) []) : Mth l y cc nL ret rm G w av R XP := by
  refine vx_ofW (cc := cc) (maxL := nL) (ret := ret) hy rfl ?_
  intro p e s m args below meth c s₁ B hml htb hv
  obtain ⟨rfl, hz, hP, hD, hK, hF⟩ := hv
  have hts : ∀ x ∈ wA, x.before av.toArray s = true := fun x hx => atoms_spec (ws := wC y cc nL ret) B.pre x (List.mem_cons_of_mem _ hx)
  have hown : s.vm.findClass y.cls = some m.cls := findClass_of_methodNamed B.named
  have hnm : meth.name = y.name := (name_of_methodNamed B.named B.method).1
  have ht0 : c.exceptionTable.toList = [] := by
    cases h : c.exceptionTable.toList with
    | nil => rfl
    | cons a b => exact absurd (htb a (by rw [h]; exact List.mem_cons_self)) (fun z => z)
  have K := body (p, l, e, (headSpec (wC y cc nL ret) rm).room, s, m, av.toArray, below, meth, c) rfl ⟨B.exec, B.bytes, hml, hown, hts, hst, B.notSynchronized, B.returns, rfl, hG, hF, hz, hK, hnm, ht0⟩
  rw [lg_entry_eq]
  exact K s.heap [] _ hP hD va_S.rf (lv_entry av hn)
/-- .. of a body with handlers -/
theorem mth_ofH {l : Launch} {y : MethodName} {cc : ByteArray} {nL : Nat} {ret : Option FieldType} {hh : List (Nat × Nat × Nat × Nat)} {rm : Room} {G : GG} {w : va_W} {av : List Value} {R : Option Value → va_W → Prop} {XP : String → va_W → Prop} (hy : plainName y.cls = true) (hn : (lg_sl av).length ≤ nL) (hst : l.stackTraces = false) (hG : GOK G)
    (body : ∀ X : XS, X.2.1 = l → Cx X G cc nL y.cls ret rm y.name (tableOf hh) → V X G nL w 0 0 (Tg X G rm R XP) 0 (lv_args 0 av) []) : vx_Met l y (Cond.codeWith y cc nL ret hh :: wA) rm (cP G w av) (cQ G R) (cX G XP) rm.cells rm.slots (gA G) := by
  refine vx_ofWH (cc := cc) (maxL := nL) (ret := ret) (hh := hh) hy rfl ?_
  intro p e s m args below meth c s₁ B hml hv
  obtain ⟨rfl, hz, hP, hD, hK, hF⟩ := hv
  have hts : ∀ x ∈ wA, x.before av.toArray s = true := fun x hx => atoms_spec (ws := Cond.codeWith y cc nL ret hh :: wA) B.pre x (List.mem_cons_of_mem _ hx)
  have hown : s.vm.findClass y.cls = some m.cls := findClass_of_methodNamed B.named
  have hnm : meth.name = y.name := (name_of_methodNamed B.named B.method).1
  have ht0 : c.exceptionTable.toList = tableOf hh := vx_table (x := y) B (atoms_spec (ws := Cond.codeWith y cc nL ret hh :: wA) B.pre _ List.mem_cons_self)
  have K := body (p, l, e, (headSpec (Cond.codeWith y cc nL ret hh :: wA) rm).room, s, m, av.toArray, below, meth, c) rfl ⟨B.exec, B.bytes, hml, hown, hts, hst, B.notSynchronized, B.returns, rfl, hG, hF, hz, hK, hnm, ht0⟩
  rw [lg_entry_eq]
  exact K s.heap [] _ hP hD va_S.rf (lv_entry av hn)
section VH
variable {X : XS} {G : GG} {cc : ByteArray} {nL : Nat} {own : String} {ret : Option FieldType} {rm : Room} {nm : String} {tb : List ExceptionTableEntry} {w w' : va_W} {k n : Nat} {Q : State → Prop} {pc q : Nat} {lv : List (Nat × Value)} {st : List Value}
theorem cx_sf (C : Cx X G cc nL own ret rm nm tb) : SFx G X.2.2.2.2.1 X.2.2.2.2.1.heap := by
  obtain ⟨-, -, -, -, -, -, -, -, -, hG, hF, -⟩ := C
  exact hG.2.2 _ _ hF
/-- a field as the pool of the class own has it: the place kf of an object of the kind ci -/
def FL (own : String) (idx ci kf : Nat) (ty : FieldType) (fin : Bool) : Prop := ∃ (C0 : String) (T : u_T) (N : Nat) (ref : String) (t0 : Nat → FieldType), vwCl[ci]? = some (C0, T, N) ∧ (∀ x ∈ u_ws C0 T N, x ∈ wA) ∧ kf < N ∧
  ((Cond.fieldLink own idx ref (T kf).2.1 (T kf).2.2.1 ∈ wA ∧ (ref = (T kf).1 ∨ Cond.sameField ref (T kf).1 (T kf).2.1 (T kf).2.2.1 ∈ wA)) ∨ (fin = false ∧ ∃ host : String, Cond.fieldLinkNest own idx (T kf).1 (T kf).2.1 (T kf).2.2.1 host ∈ wN)) ∧
  (∀ j, j < N → parseFieldDescriptor (T j).2.2.1 = some (t0 j)) ∧ (∀ a, a < N → ∀ b, b < N → a ≠ b → (T a).2.1 ≠ (T b).2.1) ∧ (T kf).2.2.2 = fin ∧ parseFieldDescriptor (T kf).2.2.1 = some ty ∧ (fin = true → (T kf).1 = own)
/-- .. for reading alone -/
def FG (own : String) (idx ci kf : Nat) : Prop := ∃ (C0 : String) (T : u_T) (N : Nat) (ref : String), vwCl[ci]? = some (C0, T, N) ∧ (∀ x ∈ u_ws C0 T N, x ∈ wA) ∧ kf < N ∧
  ((Cond.fieldLink own idx ref (T kf).2.1 (T kf).2.2.1 ∈ wA ∧ (ref = (T kf).1 ∨ Cond.sameField ref (T kf).1 (T kf).2.1 (T kf).2.2.1 ∈ wA)) ∨ ∃ host : String, Cond.fieldLinkNest own idx (T kf).1 (T kf).2.1 (T kf).2.2.1 host ∈ wN)
theorem v_get (C : Cx X G cc nL own ret rm nm tb) {i ci kf : Nat} (F : FG own i ci kf) {a : Nat} {fs : List Value} {v : Value} (hm : (a, Sum.inr (ci, fs)) ∈ w) (hv : fs[kf]? = some v) (d : decode cc pc = .ok (.getfield i, 3)) (hq : pc + 3 = q)
    (kk : V X G nL w k n Q q lv (v :: st)) : V X G nL w k n Q pc lv (.ref a :: st) := by
  subst hq
  obtain ⟨h1, h2⟩ := cx_sf C
  obtain ⟨p, l, e, R, s, m, args, below, meth, c⟩ := X
  obtain ⟨hx, hb, hml, hown, hts, hst, hlk, hr, hR, hG, hF, hz, hK, hnm, htb⟩ := C
  intro H locs ls hP hD hS hl
  obtain ⟨C0, T, N, ref, hc, hin, hk, hf⟩ := F
  obtain ⟨q0, hq0⟩ := List.getElem?_of_mem hm
  rcases hf with ⟨hf, hs⟩ | ⟨host, hf⟩
  · refine va_get hx hb hts hin hown hK hP q0 hq0 hc kf hk (hts _ hf) (fun x hx => ?_) hv d (kk H locs ls hP hD hS hl)
    rcases hs with rfl | hs
    · exact hx
    · exact u_same (hts _ hs) x hx
  · exact va_getN (host := host) hx hb hts hin hown hK hP q0 hq0 hc kf hk (va_Nw.use rfl (h1 _ hf)) (fun x hx => hx) hv d (kk H locs ls hP hD hS hl)
theorem v_put (C : Cx X G cc nL own ret rm nm tb) {i ci kf : Nat} {ty : FieldType} (F : FL own i ci kf ty false) {a : Nat} {fs : List Value} {v : Value} (hs : ∃ q0 : Nat, w[q0]? = some (a, Sum.inr (ci, fs)) ∧ w.set q0 (a, Sum.inr (ci, fs.set kf v)) = w') (hn : narrow ty v = v) (hfit : fits ty v = true) (hlen : kf < fs.length) (d : decode cc pc = .ok (.putfield i, 3)) (hq : pc + 3 = q)
    (kk : V X G nL w' k n Q q lv st) : V X G nL w k n Q pc lv (v :: .ref a :: st) := by
  subst hq
  obtain ⟨h1, h2⟩ := cx_sf C
  obtain ⟨p, l, e, R, s, m, args, below, meth, c⟩ := X
  obtain ⟨hx, hb, hml, hown, hts, hst, hlk, hr, hR, hG, hF, hz, hK, hnm, htb⟩ := C
  intro H locs ls hP hD hS hl
  obtain ⟨C0, T, N, ref, t0, hc, hin, hk, hf, hty, hnm2, hfin, hd, -⟩ := F
  obtain ⟨q0, hq0, rfl⟩ := hs
  rcases hf with ⟨hf, hs⟩ | ⟨hff, host, hf⟩
  · refine va_put hx hb hts hin t0 hty hnm2 hown hK hP hD hS q0 hq0 hc kf hk (hts _ hf) (fun x hx => ?_) hfin hd hn hfit hlen d (fun H1 locs1 hP hD hS => kk H1 locs1 ls hP hD hS hl)
    rcases hs with rfl | hs
    · exact hx
    · exact u_same (hts _ hs) x hx
  · exact va_putN (host := host) hx hb hts hin t0 hty hnm2 hown hK hP hD hS q0 hq0 hc kf hk (va_Nw.use rfl (h1 _ hf)) (fun x hx => hx) hfin hd hn hfit hlen d (fun H1 locs1 hP hD hS => kk H1 locs1 ls hP hD hS hl)
theorem v_putF (C : Cx X G cc nL own ret rm "<init>" tb) {i ci kf : Nat} {ty : FieldType} (F : FL own i ci kf ty true) {a : Nat} {fs : List Value} {v : Value} (hs : ∃ q0 : Nat, w[q0]? = some (a, Sum.inr (ci, fs)) ∧ w.set q0 (a, Sum.inr (ci, fs.set kf v)) = w') (hn : narrow ty v = v) (hfit : fits ty v = true) (hlen : kf < fs.length) (d : decode cc pc = .ok (.putfield i, 3)) (hq : pc + 3 = q)
    (kk : V X G nL w' k n Q q lv st) : V X G nL w k n Q pc lv (v :: .ref a :: st) := by
  subst hq
  obtain ⟨p, l, e, R, s, m, args, below, meth, c⟩ := X
  obtain ⟨hx, hb, hml, hown, hts, hst, hlk, hr, hR, hG, hF, hz, hK, hnm, htb⟩ := C
  intro H locs ls hP hD hS hl
  obtain ⟨C0, T, N, ref, t0, hc, hin, hk, hf, hty, hnm2, hfin, hd, hdc⟩ := F
  obtain ⟨q0, hq0, rfl⟩ := hs
  rcases hf with ⟨hf, hs⟩ | ⟨hff, host, hf⟩
  · refine va_putF hx hb hts hin t0 hty hnm2 hown hK hP hD hS q0 hq0 hc kf hk (hts _ hf) (fun x hx => ?_) hfin hnm (hdc rfl) hd hn hfit hlen d (fun H1 locs1 hP hD hS => kk H1 locs1 ls hP hD hS hl)
    rcases hs with rfl | hs
    · exact hx
    · exact u_same (hts _ hs) x hx
  · cases hff
theorem v_iald (C : Cx X G cc nL own ret rm nm tb) {a len : Nat} {f : Nat → Int32} {i : Int32} (hm : (a, Sum.inl (G.2.2.1 0, len, Sum.inl f)) ∈ w) (hin : vp_in i len) (d : decode cc pc = .ok (.iaload, 1)) (hq : pc + 1 = q)
    (kk : V X G nL w k n Q q lv (.int (f i.toNatClampNeg) :: st)) : V X G nL w k n Q pc lv (.int i :: .ref a :: st) := by
  subst hq
  obtain ⟨p, l, e, R, s, m, args, below, meth, c⟩ := X
  obtain ⟨hx, hb, hml, hown, hts, hst, hlk, hr, hR, hG, hF, hz, hK, hnm, htb⟩ := C
  intro H locs ls hP hD hS hl
  obtain ⟨q0, hq0⟩ := List.getElem?_of_mem hm
  exact va_iald hx hb hK hP q0 0 hq0 rfl hin d (kk H locs ls hP hD hS hl)
theorem v_aald (C : Cx X G cc nL own ret rm nm tb) {a len : Nat} {f : Nat → Option Nat} {i : Int32} (hm : (a, Sum.inl (G.2.2.1 2, len, Sum.inr (Sum.inr (Sum.inr (Sum.inr f))))) ∈ w) (hin : vp_in i len) (d : decode cc pc = .ok (.aaload, 1)) (hq : pc + 1 = q)
    (kk : V X G nL w k n Q q lv (va_rf (f i.toNatClampNeg) :: st)) : V X G nL w k n Q pc lv (.int i :: .ref a :: st) := by
  subst hq
  obtain ⟨p, l, e, R, s, m, args, below, meth, c⟩ := X
  obtain ⟨hx, hb, hml, hown, hts, hst, hlk, hr, hR, hG, hF, hz, hK, hnm, htb⟩ := C
  intro H locs ls hP hD hS hl
  obtain ⟨q0, hq0⟩ := List.getElem?_of_mem hm
  exact va_aldq hx hb hK hP q0 2 hq0 rfl hin d (kk H locs ls hP hD hS hl)
theorem v_iast (C : Cx X G cc nL own ret rm nm tb) {a len : Nat} {f : Nat → Int32} {i x : Int32} (hs : ∃ q0 : Nat, w[q0]? = some (a, Sum.inl (G.2.2.1 0, len, Sum.inl f)) ∧ w.set q0 (a, Sum.inl (G.2.2.1 0, len, Sum.inl (upd f i.toNatClampNeg x))) = w') (hin : vp_in i len) (d : decode cc pc = .ok (.iastore, 1)) (hq : pc + 1 = q)
    (kk : V X G nL w' k n Q q lv st) : V X G nL w k n Q pc lv (.int x :: .int i :: .ref a :: st) := by
  subst hq
  obtain ⟨p, l, e, R, s, m, args, below, meth, c⟩ := X
  obtain ⟨hx, hb, hml, hown, hts, hst, hlk, hr, hR, hG, hF, hz, hK, hnm, htb⟩ := C
  intro H locs ls hP hD hS hl
  obtain ⟨q0, hq0, rfl⟩ := hs
  exact va_iast hx hb hK hP hD hS q0 0 hq0 rfl hin d (fun H1 locs1 hP hD hS => kk H1 locs1 ls hP hD hS hl)
theorem v_alen (C : Cx X G cc nL own ret rm nm tb) {a : Nat} {x : vp_A} {t : Nat} {v : Int32} (hm : (a, Sum.inl (G.2.2.1 t, x)) ∈ w) (ht : t < 4) (hv : Int32.ofNat x.1 = v) (d : decode cc pc = .ok (.arraylength, 1)) (hq : pc + 1 = q)
    (kk : V X G nL w k n Q q lv (.int v :: st)) : V X G nL w k n Q pc lv (.ref a :: st) := by
  subst hq
  obtain ⟨p, l, e, R, s, m, args, below, meth, c⟩ := X
  obtain ⟨hx, hb, hml, hown, hts, hst, hlk, hr, hR, hG, hF, hz, hK, hnm, htb⟩ := C
  intro H locs ls hP hD hS hl
  obtain ⟨q0, hq0⟩ := List.getElem?_of_mem hm
  rcases (show t = 0 ∨ t = 1 ∨ t = 2 ∨ t = 3 by omega) with rfl | rfl | rfl | rfl
  · exact va_alen hx hb hK hP q0 0 hq0 rfl hv d (kk H locs ls hP hD hS hl)
  · exact va_alen hx hb hK hP q0 1 hq0 rfl hv d (kk H locs ls hP hD hS hl)
  · exact va_alen hx hb hK hP q0 2 hq0 rfl hv d (kk H locs ls hP hD hS hl)
  · exact va_alen hx hb hK hP q0 3 hq0 rfl hv d (kk H locs ls hP hD hS hl)
/-- a return: an int, a boolean's, nothing, a cell -/
theorem v_iret (C : Cx X G cc nL own (some .int) rm nm tb) {R : Option Value → va_W → Prop} {XP : String → va_W → Prop} {v : Int32} (hk : k ≤ rm.cells) (hn : n ≤ rm.slots) (d : decode cc pc = .ok (.ireturn, 1)) (h : R (some (.int v)) w) : V X G nL w k n (Tg X G rm R XP) pc lv [.int v] := by
  obtain ⟨p, l, e, R0, s, m, args, below, meth, c⟩ := X
  obtain ⟨hx, hb, hml, hown, hts, hst, hlk, hr, hR, hG, hF, hz, hK, hnm, htb⟩ := C
  intro H locs ls hP hD hS hl
  refine W.widen hk hn (vx_ret (W.iret hx hb hr (fun t ht hW => ⟨⟨_, w, rfl, h, by rw [ht]; exact hP, hD⟩, hS.F ht⟩) (fun x hx => hS.2.2 x hx) d hlk))
theorem v_zret (C : Cx X G cc nL own (some .boolean) rm nm tb) {R : Option Value → va_W → Prop} {XP : String → va_W → Prop} {v : Int32} (hz : narrow .boolean (.int v) = .int v) (hk : k ≤ rm.cells) (hn : n ≤ rm.slots) (d : decode cc pc = .ok (.ireturn, 1)) (h : R (some (.int v)) w) : V X G nL w k n (Tg X G rm R XP) pc lv [.int v] := by
  obtain ⟨p, l, e, R0, s, m, args, below, meth, c⟩ := X
  obtain ⟨hx, hb, hml, hown, hts, hst, hlk, hr, hR, hG, hF, hz2, hK, hnm, htb⟩ := C
  intro H locs ls hP hD hS hl
  refine W.widen hk hn (vx_ret (W.zret hx hb hr hz (fun t ht hW => ⟨⟨_, w, rfl, h, by rw [ht]; exact hP, hD⟩, hS.F ht⟩) (fun x hx => hS.2.2 x hx) d hlk))
theorem v_vret (C : Cx X G cc nL own none rm nm tb) {R : Option Value → va_W → Prop} {XP : String → va_W → Prop} (hk : k ≤ rm.cells) (hn : n ≤ rm.slots) (d : decode cc pc = .ok (.return_, 1)) (h : R none w) : V X G nL w k n (Tg X G rm R XP) pc lv [] := by
  obtain ⟨p, l, e, R0, s, m, args, below, meth, c⟩ := X
  obtain ⟨hx, hb, hml, hown, hts, hst, hlk, hr, hR, hG, hF, hz2, hK, hnm, htb⟩ := C
  intro H locs ls hP hD hS hl
  refine W.widen hk hn (vx_ret (W.vret hx hb hr (fun t ht hW => ⟨⟨_, w, rfl, h, by rw [ht]; exact hP, hD⟩, hS.F ht⟩) (fun x hx => hS.2.2 x hx) d hlk))
theorem v_aret {rt : FieldType} (C : Cx X G cc nL own (some rt) rm nm tb) {R : Option Value → va_W → Prop} {XP : String → va_W → Prop} {a : Nat} (hrt : (∃ n, rt = .object n) ∨ ∃ t, rt = .array t) (hk : k ≤ rm.cells) (hn : n ≤ rm.slots) (d : decode cc pc = .ok (.areturn, 1)) (h : R (some (.ref a)) w) : V X G nL w k n (Tg X G rm R XP) pc lv [.ref a] := by
  obtain ⟨p, l, e, R0, s, m, args, below, meth, c⟩ := X
  obtain ⟨hx, hb, hml, hown, hts, hst, hlk, hr, hR, hG, hF, hz2, hK, hnm, htb⟩ := C
  intro H locs ls hP hD hS hl
  refine W.widen hk hn (vx_ret (W.aret hx hb hr hrt (Or.inr ⟨a, rfl⟩) (fun t ht hW => ⟨⟨_, w, rfl, h, by rw [ht]; exact hP, hD⟩, hS.F ht⟩) (fun x hx => hS.2.2 x hx) d hlk))
/-- not caught here -/
theorem v_out (C : Cx X G cc nL own ret rm nm []) {R : Option Value → va_W → Prop} {XP : String → va_W → Prop} {E : String} (hk : k ≤ rm.cells) (hn : n ≤ rm.slots) (h : XP E w) : VX X G nL w k n (Tg X G rm R XP) pc lv E := by
  obtain ⟨p, l, e, R0, s, m, args, below, meth, c⟩ := X
  obtain ⟨hx, hb, hml, hown, hts, hst, hlk, hr, hR, hG, hF, hz2, hK, hnm, htb⟩ := C
  intro H locs ls q0 ce rest hP hD hS hl h1 h2 h3
  exact vx_out (fun x hx => by rw [htb] at hx; cases hx) hlk h1 h2 h3 (fun t ht hA => ⟨⟨w, h, by rw [ht]; exact hP, hD⟩, hS.F ht⟩) (fun x hx => hS.2.2 x hx) hk hn
end VH
