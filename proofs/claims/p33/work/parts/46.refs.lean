/-! class objects, arrays of references: made, copied, written -/
/-- the class object of arrays of objects lies at G.2.2.1 12 -/
def MiOK (G : GG) : Prop := ∀ (s : State) (H : Heap), G.2.2.2 s H → va_Mi "[Ljava/lang/Object;" (G.2.2.1 12) s ∧ va_Dc s
section VQ
variable {X : XS} {G : GG} {cc : ByteArray} {nL : Nat} {own : String} {ret : Option FieldType} {rm : Room} {nm : String} {tb : List ExceptionTableEntry} {w w' : va_W} {k n : Nat} {Q : State → Prop} {pc q : Nat} {lv : List (Nat × Value)} {st : List Value}
theorem v_acmp_eq (C : Cx X G cc nL own ret rm nm tb) {a b : Nat} {z : Int} {t : Nat} (d : decode cc pc = .ok (.if_acmp .eq z, 3)) (ht : (pc : Int) + z = (t : Int)) (hq : pc + 3 = q) (kt : a = b → V X G nL w k n Q t lv (st)) (kf : ¬ a = b → V X G nL w k n Q q lv (st)) : V X G nL w k n Q pc lv (.ref b :: .ref a :: st) := by
  subst hq
  obtain ⟨p, l, e, R, s, m, args, below, meth, c⟩ := X
  obtain ⟨hx, hb, hml, hown, hts, hst, hlk, hr, hR, hG, hF, hz, hK, hnm, htb⟩ := C
  intro H locs ls hP hD hS hl
  exact lv_acmp_eq (rx := some a) (ry := some b) hx hb d ht (fun c => kt (Option.some.inj c) H locs ls hP hD hS hl) (fun c => kf (fun h => c (by rw [h])) H locs ls hP hD hS hl)
theorem v_ldcM (C : Cx X G cc nL own ret rm nm tb) {i mi : Nat} {C0 : String} (hlink : Cond.classLink own i C0 ∈ wA) (hM : va_Mi C0 mi X.2.2.2.2.1) (d : decode cc pc = .ok (.ldc i, 2)) (hq : pc + 2 = q) (kk : V X G nL w k n Q q lv (.ref mi :: st)) : V X G nL w k n Q pc lv st := by
  subst hq
  obtain ⟨p, l, e, R, s, m, args, below, meth, c⟩ := X
  obtain ⟨hx, hb, hml, hown, hts, hst, hlk, hr, hR, hG, hF, hz, hK, hnm, htb⟩ := C
  intro H locs ls hP hD hS hl
  exact va_ldcM hx hb hown (hts _ hlink) hM d (kk H locs ls hP hD hS hl)
theorem xx_K2 {s : State} (hK : va_K G.2.1 vwCl (gT G) s) : s.vm.findClass "[Ljava/lang/Object;" = some (G.2.2.1 2) := by
  obtain ⟨kA, comp, -, -, -, h⟩ := (hK.2 2 _ rfl).2
  exact h
def gC : MethodName := ⟨"java/lang/Object", "getClass", "()Ljava/lang/Class;"⟩
theorem v_getCA (C : Cx X G cc nL own ret rm nm tb) {i mi a : Nat} {x : vp_A} (hlink : Cond.methodLink own i gC ∈ wA) (hdecl : va_Dc X.2.2.2.2.1) (hsel : Cond.selects "[Ljava/lang/Object;" gC gC ∈ wA) (hinst : Cond.instanceMethod gC ∈ wA) (hnat : Cond.native gC ∈ wA) (hM : va_Mi "[Ljava/lang/Object;" mi X.2.2.2.2.1) (hm : (a, Sum.inl (G.2.2.1 2, x)) ∈ w) (hfr : 1 ≤ rm.frames) (hlo : (st.map fun v => v.category).sum + 14 ≤ rm.locals) (d : decode cc pc = .ok (.invokevirtual i, 3)) (hq : pc + 3 = q) (kk : V X G nL w k n Q q lv (.ref mi :: st)) : V X G nL w k n Q pc lv (.ref a :: st) := by
  subst hq
  obtain ⟨p, l, e, R, s, m, args, below, meth, c⟩ := X
  obtain ⟨hx, hb, hml, hown, hts, hst, hlk, hr, hR, hG, hF, hz, hK, hnm, htb⟩ := C
  have hR : R = rm := hR
  subst hR
  intro H locs ls hP hD hS hl
  obtain ⟨q0, hq0⟩ := List.getElem?_of_mem hm
  have hc : H[a]? = some (vp_cell (G.2.2.1 2) x) := hP q0 _ hq0
  have hv : (vp_cell (G.2.2.1 2) x).vm.isStatics = false ∧ (vp_cell (G.2.2.1 2) x).cls = G.2.2.1 2 := by
    obtain ⟨N, f | f | f | f | f⟩ := x <;> exact ⟨rfl, rfl⟩
  exact va_getC hx hb (by rw [hml]; exact hl.1.symm) hown (hts _ hlink) hdecl.use (hts _ hsel) (hts _ hinst) (hts _ hnat) hM ⟨_, hc, hv.1, by rw [hv.2]; exact xx_K2 hK⟩ hfr hlo d (kk H locs ls hP hD hS hl)
theorem v_anew (C : Cx X G cc nL own ret rm nm tb) {i N : Nat} {z : Int32} (hlink : Cond.classLink own i "java/lang/Object" ∈ wA) (hz0 : ¬ z < 0) (hN : z.toNatClampNeg = N) (hby : N * 4 ≤ 536870912) (hk : k + 1 ≤ rm.cells) (hn : n + N ≤ rm.slots) (d : decode cc pc = .ok (.anewarray i, 3)) (hq : pc + 3 = q) (kk : ∀ q9 : Nat, V X G nL (w ++ [(q9, Sum.inl (G.2.2.1 2, N, Sum.inr (Sum.inr (Sum.inr (Sum.inr (fun _ => none))))))]) (k + 1) (n + N) Q q lv (.ref q9 :: st)) : V X G nL w k n Q pc lv (.int z :: st) := by
  subst hq
  have hao : va_AO "java/lang/Object" X.2.2.2.2.1 := by
    obtain ⟨-, -, -, -, -, -, -, -, -, -, -, h⟩ := cx_sf C
    exact h
  obtain ⟨p, l, e, R, s, m, args, below, meth, c⟩ := X
  obtain ⟨hx, hb, hml, hown, hts, hst, hlk, hr, hR, hG, hF, hz, hK, hnm, htb⟩ := C
  have hR : R = rm := hR
  subst hR
  intro H locs ls hP hD hS hl
  refine va_newq hx hb hown (hts _ hlink) hao hK hP hD hS (fun q9 h => Nat.le_trans hz h) hz0 hN hby hk hn d (fun q9 cA H1 hK1 hP hD hS => ?_)
  have e9 : cA = G.2.2.1 2 := xx_cls hK 2 _ rfl (hK1.2 4 _ rfl).2
  subst e9
  exact kk q9 H1 locs ls hP hD hS hl
/-- an object that may lie in an array of objects -/
def Ob (w : va_W) (y : Nat) : Prop := ∃ (ci : Nat) (fs : List Value) (r : vw_C), (y, Sum.inr (ci, fs)) ∈ w ∧ ci ≠ 0 ∧ vwCl[ci]? = some r ∧ Cond.castable r.1 "java/lang/Object" ∈ wN
theorem v_aast (C : Cx X G cc nL own ret rm nm tb) {a N y : Nat} {f : Nat → Option Nat} {i : Int32} {x : Nat} (j : Nat) (hj : i.toNatClampNeg = j) (hs : w[x]? = some (a, Sum.inl (G.2.2.1 2, N, Sum.inr (Sum.inr (Sum.inr (Sum.inr f)))))) (hy : Ob w y) (hin : vp_in i N) (d : decode cc pc = .ok (.aastore, 1)) (hq : pc + 1 = q)
    (kk : V X G nL (w.set x (a, Sum.inl (G.2.2.1 2, N, Sum.inr (Sum.inr (Sum.inr (Sum.inr (va_up f j (some y)))))))) k n Q q lv st) : V X G nL w k n Q pc lv (.ref y :: .int i :: .ref a :: st) := by
  subst hq hj
  have hsf := cx_sf C
  obtain ⟨p, l, e, R, s, m, args, below, meth, c⟩ := X
  obtain ⟨hx, hb, hml, hown, hts, hst, hlk, hr, hR, hG, hF, hz, hK, hnm, htb⟩ := C
  intro H locs ls hP hD hS hl
  obtain ⟨ci, fs, r, hm, -, hc, hca⟩ := hy
  obtain ⟨q1, hq1⟩ := List.getElem?_of_mem hm
  exact va_astqO hx hb hK hP hD hS x 2 q1 ci hs rfl (hsf.1 _ hca) hq1 hc hin d (fun H1 locs1 hP hD hS => kk H1 locs1 ls hP hD hS hl)
theorem v_copyA (C : Cx X G cc nL own ret rm nm tb) {i a0 a n0 n1 x0 x1 : Nat} {f g : Nat → Option Nat} {c9 : Int32} (N : Nat) (hN : c9.toNatClampNeg = N) (hN0 : ¬ c9 < 0) (hlink : Cond.methodLink own i arraycopyName ∈ wA) (hnat : Cond.native arraycopyName ∈ wA) (hstat : Cond.static arraycopyName ∈ wA) (hini : Cond.initialized "java/lang/System" ∈ wA) (h0 : w[x0]? = some (a0, Sum.inl (G.2.2.1 2, n0, Sum.inr (Sum.inr (Sum.inr (Sum.inr f)))))) (h1 : w[x1]? = some (a, Sum.inl (G.2.2.1 2, n1, Sum.inr (Sum.inr (Sum.inr (Sum.inr g)))))) (h4 : N ≤ n0) (h5 : N ≤ n1) (hel : ∀ j, j < N → ∀ y, f j = some y → Ob w y) (hfr : 1 ≤ rm.frames) (hlo : (st.map fun v => v.category).sum + (nativeFrameWords "java/lang/System" "arraycopy" 5 + 11) ≤ rm.locals) (d : decode cc pc = .ok (.invokestatic i, 3)) (hq : pc + 3 = q)
    (kk : V X G nL (w.set x1 (a, Sum.inl (G.2.2.1 2, n1, Sum.inr (Sum.inr (Sum.inr (Sum.inr (va_cpy f g 0 0 N))))))) k n Q q lv st) : V X G nL w k n Q pc lv (.int c9 :: .int 0 :: .ref a :: .int 0 :: .ref a0 :: st) := by
  subst hq hN
  have hsf := cx_sf C
  obtain ⟨p, l, e, R, s, m, args, below, meth, c⟩ := X
  obtain ⟨hx, hb, hml, hown, hts, hst, hlk, hr, hR, hG, hF, hz, hK, hnm, htb⟩ := C
  have hR : R = rm := hR
  subst hR
  intro H locs ls hP hD hS hl
  refine va_copyM hx hb (by rw [hml]; exact hl.1.symm) hown (hts _ hlink) (hts _ hnat) (hts _ hstat) (hts _ hini) hK hP hD hS x0 x1 2 2 h0 h1 rfl rfl (by decide) (by decide) hN0 (by rw [show (0 : Int32).toNatClampNeg = 0 from rfl]; omega) (by rw [show (0 : Int32).toNatClampNeg = 0 from rfl]; omega) (fun j hj y hy => ?_) hfr hlo d (fun H1 locs1 hP hD hS => kk H1 locs1 ls hP hD hS hl)
  rw [show (0 : Int32).toNatClampNeg = 0 from rfl, Nat.zero_add] at hy
  obtain ⟨ci, fs, r, hm, -, hc, hca⟩ := hel j hj y hy
  obtain ⟨q1, hq1⟩ := List.getElem?_of_mem hm
  refine va_rAny hK hP hq1 hc (fun comp c0 e1 e2 => ?_)
  obtain ⟨c1, t1, f1, f2, f3⟩ := Cond.castable_spec (va_Nw.use (A := args) rfl (hsf.1 _ hca))
  cases e2.symm.trans f1
  cases e1.symm.trans f2
  exact f3
end VQ
theorem mem_sn {w : va_W} {x y z : Nat × va_E} {q6 : Nat} (h : x ∈ w) (h6 : w[q6]? = some y) (hne : x ≠ y) : x ∈ w.set q6 z := by
  obtain ⟨q, hq⟩ := List.getElem?_of_mem h
  have h9 : q6 ≠ q := fun e => hne (Option.some.inj (hq.symm.trans (e ▸ h6)))
  exact List.mem_of_getElem? (by rw [List.getElem?_set_ne h9]; exact hq)
theorem Ob.set {w : va_W} {y q6 h : Nat} {z : Nat × va_E} {fs : List Value} (ho : Ob w y) (h6 : w[q6]? = some (h, Sum.inr (0, fs))) : Ob (w.set q6 z) y := by
  obtain ⟨ci, gs, r, hm, h0, hc, hca⟩ := ho
  refine ⟨ci, gs, r, mem_sn hm h6 (fun e => h0 ?_), h0, hc, hca⟩
  have := (Prod.mk.inj e).2
  exact (Prod.mk.inj (Sum.inr.inj this)).1
theorem Ob.app {w w2 : va_W} {y : Nat} (ho : Ob w y) : Ob (w ++ w2) y := by
  obtain ⟨ci, gs, r, hm, h0, hc, hca⟩ := ho
  exact ⟨ci, gs, r, List.mem_append_left _ hm, h0, hc, hca⟩
