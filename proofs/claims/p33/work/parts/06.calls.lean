theorem met_of {l : Launch} {y : MethodName} {cc : ByteArray} {nL : Nat} {ret : Option FieldType} {rm : Room} {G : GG} {w : va_W} {av : List Value} {R : Option Value → va_W → Prop} (h : Mth l y cc nL ret rm G w av R nX) : Met l y (wC y cc nL ret) rm (cP G w av) (cQ G R) rm.cells rm.slots (gA G) := by
  intro p e h1 h2 h3 s m args below hf ha hp hk
  obtain ⟨n, o, g1, g2, g3, g4⟩ := h p e h1 h2 h3 s m args below hf ha hp hk
  refine ⟨n, o, g1, g2, g3, ?_⟩
  rcases g4 with g4 | ⟨q, -, E, ce, L, hx, -⟩
  · exact g4
  · obtain ⟨⟨w1, hf, -⟩, -⟩ := hx
    exact absurd hf (fun z => z)
theorem cP_blind {G : GG} {w : va_W} {av : List Value} (hG : GOK G) : FrameBlind (cP G w av) := by
  intro a U g mk h
  obtain ⟨h1, h2, h3, h4, h5, h6⟩ := h
  exact ⟨h1, h2, h3, h4, va_K.moved (u := U) (U := U.calling g mk a) (Vm.Alike.refl U.vm) h5, hG.1 U (U.calling g mk a) U.heap (State.WarmedH.refl U) h6⟩
theorem wA_good {x : Cond} (h : x ∈ wA) : (x.onTables && x.keeps) = true ∨ ∃ ty, x = .arrayClass ty := good_of_word (List.mem_filter.mp h).2
/-- the start of a callee, from where its caller stands -/
theorem cP_here {G : GG} {w : va_W} {av : List Value} {s U : State} {H : Heap} {locs : List Loc} (hG : GOK G) (hF : G.2.2.2 s s.heap) (hz : G.1 ≤ s.heap.size) (hK : va_K G.2.1 vwCl (gT G) s) (hP : va_P G.2.1 vwCl w H) (hD : va_D (gA G) w) (hS : va_S (gA G) s.heap H locs) (hU : U.heap = H) (hW : s.WarmedH U.vm) : cP G w av av.toArray U := by
  refine ⟨rfl, by rw [hU]; exact Nat.le_trans hz hS.1, by rw [hU]; exact hP, hD, va_K.moved hW.alike hK, ?_⟩
  rw [hU]
  exact hG.1 s U H hW (hG.2.1 s s.heap H hF hS.2.1)
def LkB (y : MethodName) (cc : ByteArray) (nL : Nat) (ret : Option FieldType) (np : Nat) : Prop := Cond.initialized y.cls ∈ wA ∧ Cond.code y cc nL ret ∈ wA ∧ y.cls ≠ "java/lang/invoke/MethodHandle" ∧ y.cls ≠ "java/lang/invoke/VarHandle" ∧ (parseMethodDescriptor y.desc).map (fun d => d.parameters.length) = some np
/-- an instance method, by a name of the pool of the class own -/
def LkV (own : String) (i : Nat) (y : MethodName) (cc : ByteArray) (nL : Nat) (ret : Option FieldType) (np : Nat) : Prop := LkB y cc nL ret np ∧ Cond.methodLink own i y ∈ wA ∧ Cond.instanceMethod y ∈ wA ∧ Cond.selects y.cls y y ∈ wA
/-- a static one; a nest mate's -/
def LkS (own : String) (i : Nat) (y : MethodName) (cc : ByteArray) (nL : Nat) (ret : Option FieldType) (np : Nat) : Prop := LkB y cc nL ret np ∧ Cond.methodLink own i y ∈ wA ∧ Cond.static y ∈ wA
def LkSN (own : String) (i : Nat) (y : MethodName) (cc : ByteArray) (nL : Nat) (ret : Option FieldType) (np : Nat) : Prop := LkB y cc nL ret np ∧ (∃ host : String, Cond.methodLinkNest own i y host ∈ wN) ∧ Cond.static y ∈ wA
/-- a constructor -/
def LkI (own : String) (i : Nat) (y : MethodName) (cc : ByteArray) (nL np : Nat) : Prop := LkB y cc nL none np ∧ (Cond.methodLink own i y ∈ wA ∨ ∃ host : String, Cond.methodLinkNest own i y host ∈ wN) ∧ Cond.instanceMethod y ∈ wA ∧ y.name = "<init>"
section VC
variable {X : XS} {G : GG} {cc : ByteArray} {nL : Nat} {own : String} {ret : Option FieldType} {rm : Room} {nm : String} {tb : List ExceptionTableEntry} {w w' : va_W} {k n : Nat} {Q : State → Prop} {pc q : Nat} {lv : List (Nat × Value)} {st : List Value}
theorem v_invV (C : Cx X G cc nL own ret rm nm tb) {i nL1 np : Nat} {y : MethodName} {cc1 : ByteArray} {ret1 : Option FieldType} {rm1 : Room} {R : Option Value → va_W → Prop} {XP : String → va_W → Prop} {b ci : Nat} {fs As st0 : List Value} (L : LkV own i y cc1 nL1 ret1 np) (hM : Mth X.2.1 y cc1 nL1 ret1 rm1 G w (.ref b :: As) R XP) (hm : (b, Sum.inr (ci, fs)) ∈ w) (hcl : (vwCl[ci]?).map (fun r => r.1) = some y.cls)
    (hnp : As.length = np) (hst0 : st0 = As.reverse ++ .ref b :: st) (hroom : rm1.frames + 1 ≤ rm.frames ∧ 8 + (nL1 + 11) + rm1.locals ≤ rm.locals) (hcs : k + rm1.cells ≤ rm.cells ∧ n + rm1.slots ≤ rm.slots) (hsum : (st.map fun v => v.category).sum ≤ 8) (d : decode cc pc = .ok (.invokevirtual i, 3)) (hq : pc + 3 = q)
    (kx : ∀ (E : String) (w1 : va_W), XP E w1 → VX X G nL w1 (k + rm1.cells) (n + rm1.slots) Q pc lv E) (kk : ∀ (v : Option Value) (w1 : va_W), R v w1 → V X G nL w1 (k + rm1.cells) (n + rm1.slots) Q q lv (v.toList ++ st)) : V X G nL w k n Q pc lv st0 := by
  subst hq hst0
  obtain ⟨p, l, e, R0, s, m, args, below, meth, c⟩ := X
  obtain ⟨hx, hb, hml, hown, hts, hst, hlk, hr, hR, hG, hF, hz, hK, hnm, htb⟩ := C
  have hR : R0 = rm := hR
  subst hR
  intro H locs ls hP hD hS hl
  obtain ⟨⟨hini, hcode, hy1, hy2, hlen⟩, hlink, hinst, hsel⟩ := L
  obtain ⟨q0, hq0⟩ := List.getElem?_of_mem hm
  have hrec : ∃ cell : Cell, H[b]? = some cell ∧ cell.vm.isStatics = false ∧ s.vm.findClass y.cls = some cell.cls := by
    cases hc : vwCl[ci]? with
    | none => rw [hc] at hcl; cases hcl
    | some r =>
      rw [hc] at hcl
      have h9 := va_recv hK hP hc hq0
      have h8 : r.1 = y.cls := Option.some.inj hcl
      rw [h8] at h9
      exact h9
  have hr9 : vx_Run p l e R0 s m args below meth c H locs k n rm1.cells rm1.slots (F0 m pc ls (As.reverse ++ .ref b :: st)) st (cQ G R (Value.ref b :: As).toArray) (cX G XP) (gA G) := vx_runV (XC := cX G XP) (rest := st) (g := F0 m pc ls (As.reverse ++ .ref b :: st)) ⟨hx, hb, hml, hown, hts⟩ hM (C := y.cls) (n := np) (bytes := cc1) (maxL := nL1) (ret := ret1)
    ⟨⟨rfl, rfl, hroom.1, hroom.2, fun x hx a' U hW => by
      rcases List.mem_cons.mp hx with rfl | hx
      · exact word_at hW (wA_good hcode) (hts _ hcode)
      · exact word_at hW (wA_good hx) (hts _ hx), List.mem_cons_self, hts _ hcode, hts _ hini, ⟨hy1, hy2⟩, fun sig h => by rw [h] at hlen; exact (Option.some.inj hlen).symm, hts _ hlink⟩, hts _ hinst, hts _ hsel⟩
    ⟨cP_blind hG, hrec, fun U hU hW => cP_here hG hF hz hK hP hD hS hU hW⟩ rfl hnp hl.1 rfl (lv_room hsum) d hcs
  intro T hT X
  rcases hr9 T hT X with ⟨v, st₀, t, T', L, h0, X', hL, e1, e2, ⟨⟨v', w1, hv, hR1, hP1, hD1⟩, hFr⟩, hst9⟩ | ⟨q9, st₀, t, T', L, E, ce, h0, X', hL, e1, e2, ⟨⟨w1, hX1, hP1, hD1⟩, hFr⟩, hce, hcv, hcl9, hst9⟩
  · cases hv
    obtain ⟨k1, k2, k3⟩ := vx_keep h0 e1 hS (fun q _ h => h) (fun q h => h) hL hFr
    obtain ⟨t2, a1, b1⟩ := kk v w1 hR1 T'.heap (locs ++ L) ls (by rw [e1]; exact hP1) hD1 k3 hl T' rfl X'
    exact ⟨t2, hst9 t2 a1, b1⟩
  · obtain ⟨k1, k2, k3⟩ := vx_keep h0 e1 hS (fun q _ h => h) (fun q h => h) hL hFr
    obtain ⟨t2, a1, b1⟩ := kx E w1 hX1 T'.heap (locs ++ L) ls q9 ce st (by rw [e1]; exact hP1) hD1 k3 hl (by rw [e1]; exact hce) hcv hcl9 T' rfl X'
    exact ⟨t2, hst9.trans a1, b1⟩
theorem v_invS (C : Cx X G cc nL own ret rm nm tb) {i nL1 np : Nat} {y : MethodName} {cc1 : ByteArray} {ret1 : Option FieldType} {rm1 : Room} {R : Option Value → va_W → Prop} {XP : String → va_W → Prop} {As st0 : List Value} (L : LkS own i y cc1 nL1 ret1 np) (hM : Mth X.2.1 y cc1 nL1 ret1 rm1 G w As R XP)
    (hnp : As.length = np) (hst0 : st0 = As.reverse ++ st) (hroom : rm1.frames + 1 ≤ rm.frames ∧ 8 + (nL1 + 11) + rm1.locals ≤ rm.locals) (hcs : k + rm1.cells ≤ rm.cells ∧ n + rm1.slots ≤ rm.slots) (hsum : (st.map fun v => v.category).sum ≤ 8) (d : decode cc pc = .ok (.invokestatic i, 3)) (hq : pc + 3 = q)
    (kx : ∀ (E : String) (w1 : va_W), XP E w1 → VX X G nL w1 (k + rm1.cells) (n + rm1.slots) Q pc lv E) (kk : ∀ (v : Option Value) (w1 : va_W), R v w1 → V X G nL w1 (k + rm1.cells) (n + rm1.slots) Q q lv (v.toList ++ st)) : V X G nL w k n Q pc lv st0 := by
  subst hq hst0
  obtain ⟨p, l, e, R0, s, m, args, below, meth, c⟩ := X
  obtain ⟨hx, hb, hml, hown, hts, hst, hlk, hr, hR, hG, hF, hz, hK, hnm, htb⟩ := C
  have hR : R0 = rm := hR
  subst hR
  intro H locs ls hP hD hS hl
  obtain ⟨⟨hini, hcode, hy1, hy2, hlen⟩, hlink, hstat⟩ := L
  have hr9 : vx_Run p l e R0 s m args below meth c H locs k n rm1.cells rm1.slots (F0 m pc ls (As.reverse ++ st)) st (cQ G R As.toArray) (cX G XP) (gA G) := vx_runS (XC := cX G XP) (rest := st) (g := F0 m pc ls (As.reverse ++ st)) ⟨hx, hb, hml, hown, hts⟩ hM (n := np) (bytes := cc1) (maxL := nL1) (ret := ret1)
    ⟨⟨rfl, rfl, hroom.1, hroom.2, fun x hx a' U hW => by
      rcases List.mem_cons.mp hx with rfl | hx
      · exact word_at hW (wA_good hcode) (hts _ hcode)
      · exact word_at hW (wA_good hx) (hts _ hx), List.mem_cons_self, hts _ hcode, hts _ hini, ⟨hy1, hy2⟩, fun sig h => by rw [h] at hlen; exact (Option.some.inj hlen).symm, hts _ hlink⟩, hts _ hstat⟩
    ⟨cP_blind hG, fun U hU hW => cP_here hG hF hz hK hP hD hS hU hW⟩ rfl hnp hl.1 rfl (lv_room hsum) d hcs
  intro T hT X
  rcases hr9 T hT X with ⟨v, st₀, t, T', L, h0, X', hL, e1, e2, ⟨⟨v', w1, hv, hR1, hP1, hD1⟩, hFr⟩, hst9⟩ | ⟨q9, st₀, t, T', L, E, ce, h0, X', hL, e1, e2, ⟨⟨w1, hX1, hP1, hD1⟩, hFr⟩, hce, hcv, hcl9, hst9⟩
  · cases hv
    obtain ⟨k1, k2, k3⟩ := vx_keep h0 e1 hS (fun q _ h => h) (fun q h => h) hL hFr
    obtain ⟨t2, a1, b1⟩ := kk v w1 hR1 T'.heap (locs ++ L) ls (by rw [e1]; exact hP1) hD1 k3 hl T' rfl X'
    exact ⟨t2, hst9 t2 a1, b1⟩
  · obtain ⟨k1, k2, k3⟩ := vx_keep h0 e1 hS (fun q _ h => h) (fun q h => h) hL hFr
    obtain ⟨t2, a1, b1⟩ := kx E w1 hX1 T'.heap (locs ++ L) ls q9 ce st (by rw [e1]; exact hP1) hD1 k3 hl (by rw [e1]; exact hce) hcv hcl9 T' rfl X'
    exact ⟨t2, hst9.trans a1, b1⟩
/-- a static call of a method with handlers of its own -/
theorem v_invSX (C : Cx X G cc nL own ret rm nm tb) {i nL1 np : Nat} {y : MethodName} {cc1 : ByteArray} {ret1 : Option FieldType} {hh : List (Nat × Nat × Nat × Nat)} {rm1 : Room} {R : Option Value → va_W → Prop} {XP : String → va_W → Prop} {As st0 : List Value} (hini : Cond.initialized y.cls ∈ wA) (hcode : Cond.codeWith y cc1 nL1 ret1 hh ∈ wA) (hlink : Cond.methodLink own i y ∈ wA) (hstat : Cond.static y ∈ wA)
    (hy : y.cls ≠ "java/lang/invoke/MethodHandle" ∧ y.cls ≠ "java/lang/invoke/VarHandle" ∧ (parseMethodDescriptor y.desc).map (fun d => d.parameters.length) = some np) (hM : vx_Met X.2.1 y (Cond.codeWith y cc1 nL1 ret1 hh :: wA) rm1 (cP G w As) (cQ G R) (cX G XP) rm1.cells rm1.slots (gA G))
    (hnp : As.length = np) (hst0 : st0 = As.reverse ++ st) (hroom : rm1.frames + 1 ≤ rm.frames ∧ 8 + (nL1 + 11) + rm1.locals ≤ rm.locals) (hcs : k + rm1.cells ≤ rm.cells ∧ n + rm1.slots ≤ rm.slots) (hsum : (st.map fun v => v.category).sum ≤ 8) (d : decode cc pc = .ok (.invokestatic i, 3)) (hq : pc + 3 = q)
    (kx : ∀ (E : String) (w1 : va_W), XP E w1 → VX X G nL w1 (k + rm1.cells) (n + rm1.slots) Q pc lv E) (kk : ∀ (v : Option Value) (w1 : va_W), R v w1 → V X G nL w1 (k + rm1.cells) (n + rm1.slots) Q q lv (v.toList ++ st)) : V X G nL w k n Q pc lv st0 := by
  subst hq hst0
  obtain ⟨p, l, e, R0, s, m, args, below, meth, c⟩ := X
  obtain ⟨hx, hb, hml, hown, hts, hst, hlk, hr, hR, hG, hF, hz, hK, hnm, htb⟩ := C
  have hR : R0 = rm := hR
  subst hR
  intro H locs ls hP hD hS hl
  obtain ⟨hy1, hy2, hlen⟩ := hy
  have hr9 : vx_Run p l e R0 s m args below meth c H locs k n rm1.cells rm1.slots (F0 m pc ls (As.reverse ++ st)) st (cQ G R As.toArray) (cX G XP) (gA G) := vx_runSX (XC := cX G XP) (rest := st) (g := F0 m pc ls (As.reverse ++ st)) ⟨hx, hb, hml, hown, hts⟩ hM (n := np) (bytes := cc1) (maxL := nL1) (ret := ret1) (hh := hh)
    ⟨⟨rfl, rfl, hroom.1, hroom.2, fun x hx a' U hW => by
      rcases List.mem_cons.mp hx with rfl | hx
      · exact word_at hW (wA_good hcode) (hts _ hcode)
      · exact word_at hW (wA_good hx) (hts _ hx), List.mem_cons_self⟩, hts _ hcode, hts _ hini, ⟨hy1, hy2⟩, fun sig h => by rw [h] at hlen; exact (Option.some.inj hlen).symm, hts _ hlink, hts _ hstat⟩
    ⟨cP_blind hG, fun U hU hW => cP_here hG hF hz hK hP hD hS hU hW⟩ rfl hnp hl.1 rfl (lv_room hsum) d hcs
  intro T hT X
  rcases hr9 T hT X with ⟨v, st₀, t, T', L, h0, X', hL, e1, e2, ⟨⟨v', w1, hv, hR1, hP1, hD1⟩, hFr⟩, hst9⟩ | ⟨q9, st₀, t, T', L, E, ce, h0, X', hL, e1, e2, ⟨⟨w1, hX1, hP1, hD1⟩, hFr⟩, hce, hcv, hcl9, hst9⟩
  · cases hv
    obtain ⟨k1, k2, k3⟩ := vx_keep h0 e1 hS (fun q _ h => h) (fun q h => h) hL hFr
    obtain ⟨t2, a1, b1⟩ := kk v w1 hR1 T'.heap (locs ++ L) ls (by rw [e1]; exact hP1) hD1 k3 hl T' rfl X'
    exact ⟨t2, hst9 t2 a1, b1⟩
  · obtain ⟨k1, k2, k3⟩ := vx_keep h0 e1 hS (fun q _ h => h) (fun q h => h) hL hFr
    obtain ⟨t2, a1, b1⟩ := kx E w1 hX1 T'.heap (locs ++ L) ls q9 ce st (by rw [e1]; exact hP1) hD1 k3 hl (by rw [e1]; exact hce) hcv hcl9 T' rfl X'
    exact ⟨t2, hst9.trans a1, b1⟩
/-- a nest mate's static method that throws nothing -/
theorem v_invSN (C : Cx X G cc nL own ret rm nm tb) {i nL1 np : Nat} {y : MethodName} {cc1 : ByteArray} {ret1 : Option FieldType} {rm1 : Room} {R : Option Value → va_W → Prop} {As st0 : List Value} (L : LkSN own i y cc1 nL1 ret1 np) (hM : Mth X.2.1 y cc1 nL1 ret1 rm1 G w As R nX)
    (hnp : As.length = np) (hst0 : st0 = As.reverse ++ st) (hroom : rm1.frames + 1 ≤ rm.frames ∧ 8 + (nL1 + 11) + rm1.locals ≤ rm.locals) (hcs : k + rm1.cells ≤ rm.cells ∧ n + rm1.slots ≤ rm.slots) (hsum : (st.map fun v => v.category).sum ≤ 8) (d : decode cc pc = .ok (.invokestatic i, 3)) (hq : pc + 3 = q)
    (kk : ∀ (v : Option Value) (w1 : va_W), R v w1 → V X G nL w1 (k + rm1.cells) (n + rm1.slots) Q q lv (v.toList ++ st)) : V X G nL w k n Q pc lv st0 := by
  subst hq hst0
  have hsf := cx_sf C
  obtain ⟨p, l, e, R0, s, m, args, below, meth, c⟩ := X
  obtain ⟨hx, hb, hml, hown, hts, hst, hlk, hr, hR, hG, hF, hz, hK, hnm, htb⟩ := C
  have hR : R0 = rm := hR
  subst hR
  intro H locs ls hP hD hS hl
  obtain ⟨⟨hini, hcode, hy1, hy2, hlen⟩, ⟨host, hlink⟩, hstat⟩ := L
  have hr9 : va_Run p l e R0 s m args below meth c H locs k n rm1.cells rm1.slots (F0 m pc ls (As.reverse ++ st)) st (cQ G R As.toArray) (gA G) := va_runSN (host := host) (rest := st) (g := F0 m pc ls (As.reverse ++ st)) ⟨hx, hb, hml, hown, hts⟩ (met_of hM) (n := np) (bytes := cc1) (maxL := nL1) (ret := ret1)
    ⟨⟨⟨rfl, rfl, hroom.1, hroom.2, fun x hx a' U hW => by
      rcases List.mem_cons.mp hx with rfl | hx
      · exact word_at hW (wA_good hcode) (hts _ hcode)
      · exact word_at hW (wA_good hx) (hts _ hx), List.mem_cons_self⟩, hts _ hcode, hts _ hini, ⟨hy1, hy2⟩, fun sig h => by rw [h] at hlen; exact (Option.some.inj hlen).symm, va_Nw.use rfl (hsf.1 _ hlink)⟩, hts _ hstat, trivial⟩
    ⟨cP_blind hG, fun U hU hW => cP_here hG hF hz hK hP hD hS hU hW⟩ rfl hnp hl.1 rfl (lv_room hsum) d hcs
  intro T hT X
  obtain ⟨v, st₀, t, T', L, h0, X', hL, e1, e2, ⟨⟨v', w1, hv, hR1, hP1, hD1⟩, hFr⟩, hst9⟩ := hr9 T hT X
  cases hv
  obtain ⟨k1, k2, k3⟩ := vx_keep h0 e1 hS (fun q _ h => h) (fun q h => h) hL hFr
  obtain ⟨t2, a1, b1⟩ := kk v w1 hR1 T'.heap (locs ++ L) ls (by rw [e1]; exact hP1) hD1 k3 hl T' rfl X'
  exact ⟨t2, hst9 t2 a1, b1⟩
/-- a constructor that throws nothing -/
theorem v_invI (C : Cx X G cc nL own ret rm nm tb) {i nL1 np : Nat} {y : MethodName} {cc1 : ByteArray} {rm1 : Room} {R : Option Value → va_W → Prop} {b : Nat} {As st0 : List Value} (L : LkI own i y cc1 nL1 np) (hM : Mth X.2.1 y cc1 nL1 none rm1 G w (.ref b :: As) R nX)
    (hnp : As.length = np) (hst0 : st0 = As.reverse ++ .ref b :: st) (hroom : rm1.frames + 1 ≤ rm.frames ∧ 8 + (nL1 + 11) + rm1.locals ≤ rm.locals) (hcs : k + rm1.cells ≤ rm.cells ∧ n + rm1.slots ≤ rm.slots) (hsum : (st.map fun v => v.category).sum ≤ 8) (d : decode cc pc = .ok (.invokespecial i, 3)) (hq : pc + 3 = q)
    (kk : ∀ (v : Option Value) (w1 : va_W), R v w1 → V X G nL w1 (k + rm1.cells) (n + rm1.slots) Q q lv (v.toList ++ st)) : V X G nL w k n Q pc lv st0 := by
  subst hq hst0
  have hsf := cx_sf C
  obtain ⟨p, l, e, R0, s, m, args, below, meth, c⟩ := X
  obtain ⟨hx, hb, hml, hown, hts, hst, hlk, hr, hR, hG, hF, hz, hK, hnm, htb⟩ := C
  have hR : R0 = rm := hR
  subst hR
  intro H locs ls hP hD hS hl
  obtain ⟨⟨hini, hcode, hy1, hy2, hlen⟩, hlink, hinst, hyn⟩ := L
  have hw9 : ∀ x ∈ wC y cc1 nL1 none, ∀ (a' : Array Value) (U : State), s.WarmedH U.vm → x.before a' U = true := fun x hx a' U hW => by
    rcases List.mem_cons.mp hx with rfl | hx
    · exact word_at hW (wA_good hcode) (hts _ hcode)
    · exact word_at hW (wA_good hx) (hts _ hx)
  have hl9 : ∀ sig, parseMethodDescriptor y.desc = some sig → np = sig.parameters.length := fun sig h => by rw [h] at hlen; exact (Option.some.inj hlen).symm
  have hr9 : va_Run p l e R0 s m args below meth c H locs k n rm1.cells rm1.slots (F0 m pc ls (As.reverse ++ .ref b :: st)) st (cQ G R (Value.ref b :: As).toArray) (gA G) := by
    rcases hlink with hlink | ⟨host, hlink⟩
    · exact va_runI ⟨hx, hb, hml, hown, hts⟩ (met_of hM) (n := np) (bytes := cc1) (maxL := nL1)
        ⟨⟨rfl, rfl, hroom.1, hroom.2, hw9, List.mem_cons_self, hts _ hcode, hts _ hini, ⟨hy1, hy2⟩, hl9, hts _ hlink⟩, hyn, hts _ hinst⟩
        ⟨cP_blind hG, fun U hU hW => cP_here hG hF hz hK hP hD hS hU hW⟩ rfl hnp hl.1 rfl (lv_room hsum) d hcs
    · exact va_runIN (host := host) ⟨hx, hb, hml, hown, hts⟩ (met_of hM) (n := np) (bytes := cc1) (maxL := nL1)
        ⟨⟨⟨rfl, rfl, hroom.1, hroom.2, hw9, List.mem_cons_self⟩, hts _ hcode, hts _ hini, ⟨hy1, hy2⟩, hl9, va_Nw.use rfl (hsf.1 _ hlink)⟩, hyn, hts _ hinst⟩
        ⟨cP_blind hG, fun U hU hW => cP_here hG hF hz hK hP hD hS hU hW⟩ rfl hnp hl.1 rfl (lv_room hsum) d hcs
  intro T hT X
  obtain ⟨v, st₀, t, T', L, h0, X', hL, e1, e2, ⟨⟨v', w1, hv, hR1, hP1, hD1⟩, hFr⟩, hst9⟩ := hr9 T hT X
  cases hv
  obtain ⟨k1, k2, k3⟩ := vx_keep h0 e1 hS (fun q _ h => h) (fun q h => h) hL hFr
  obtain ⟨t2, a1, b1⟩ := kk v w1 hR1 T'.heap (locs ++ L) ls (by rw [e1]; exact hP1) hD1 k3 hl T' rfl X'
  exact ⟨t2, hst9 t2 a1, b1⟩
theorem v_objInit (C : Cx X G cc nL own ret rm nm tb) {i a : Nat} (h1 : Cond.methodLink own i objectInit ∈ wA) (h2 : Cond.instanceMethod objectInit ∈ wA) (h3 : Cond.code objectInit ⟨#[0xb1]⟩ 1 none ∈ wA) (hfr : 1 ≤ rm.frames) (hlo : (st.map fun v => v.category).sum + 12 ≤ rm.locals) (d : decode cc pc = .ok (.invokespecial i, 3)) (hq : pc + 3 = q)
    (kk : V X G nL w k n Q q lv st) : V X G nL w k n Q pc lv (.ref a :: st) := by
  subst hq
  obtain ⟨p, l, e, R0, s, m, args, below, meth, c⟩ := X
  obtain ⟨hx, hb, hml, hown, hts, hst, hlk, hr, hR, hG, hF, hz, hK, hnm, htb⟩ := C
  have hR : R0 = rm := hR
  subst hR
  intro H locs ls hP hD hS hl
  exact W.objInit hx hb hown (hts _ h1) (hts _ h2) (hts _ h3) rfl (hl.1.trans hml.symm) rfl d hfr (by show 2 * 0 + (st.map fun v => v.category).sum + 12 ≤ R0.locals; omega) (kk H locs ls hP hD hS hl)
theorem v_mmin (C : Cx X G cc nL own ret rm nm tb) {i : Nat} {x y : Int32} (h1 : Cond.methodLink own i Lib.Math.min.name ∈ wA) (h2 : Cond.static Lib.Math.min.name ∈ wA) (h3 : Cond.initialized "java/lang/Math" ∈ wA) (h4 : Cond.code Lib.Math.min.name Lib.Math.min.code 2 (some .int) ∈ wA) (hfr : 1 ≤ rm.frames) (hlo : (st.map fun v => v.category).sum + 13 ≤ rm.locals) (hk : k ≤ rm.cells) (hn : n ≤ rm.slots) (d : decode cc pc = .ok (.invokestatic i, 3)) (hq : pc + 3 = q)
    (kk : V X G nL w k n Q q lv (.int (if y < x then y else x) :: st)) : V X G nL w k n Q pc lv (.int y :: .int x :: st) := by
  subst hq
  obtain ⟨p, l, e, R0, s, m, args, below, meth, c⟩ := X
  obtain ⟨hx, hb, hml, hown, hts, hst, hlk, hr, hR, hG, hF, hz, hK, hnm, htb⟩ := C
  have hR : R0 = rm := hR
  subst hR
  intro H locs ls hP hD hS hl
  have hk2 := kk H locs ls hP hD hS hl
  exact va_mmin hx hb (hml.trans hl.1.symm) hown (hts _ h1) (hts _ h2) (hts _ h3) (hts _ h4) hfr hlo hk hn d hk2
theorem v_mmax (C : Cx X G cc nL own ret rm nm tb) {i : Nat} {x y : Int32} (h1 : Cond.methodLink own i Lib.Math.max.name ∈ wA) (h2 : Cond.static Lib.Math.max.name ∈ wA) (h3 : Cond.initialized "java/lang/Math" ∈ wA) (h4 : Cond.code Lib.Math.max.name Lib.Math.max.code 2 (some .int) ∈ wA) (hfr : 1 ≤ rm.frames) (hlo : (st.map fun v => v.category).sum + 13 ≤ rm.locals) (hk : k ≤ rm.cells) (hn : n ≤ rm.slots) (d : decode cc pc = .ok (.invokestatic i, 3)) (hq : pc + 3 = q)
    (kk : V X G nL w k n Q q lv (.int (if x < y then y else x) :: st)) : V X G nL w k n Q pc lv (.int y :: .int x :: st) := by
  subst hq
  obtain ⟨p, l, e, R0, s, m, args, below, meth, c⟩ := X
  obtain ⟨hx, hb, hml, hown, hts, hst, hlk, hr, hR, hG, hF, hz, hK, hnm, htb⟩ := C
  have hR : R0 = rm := hR
  subst hR
  intro H locs ls hP hD hS hl
  have hk2 := kk H locs ls hP hD hS hl
  exact va_mmax hx hb (hml.trans hl.1.symm) hown (hts _ h1) (hts _ h2) (hts _ h3) (hts _ h4) hfr hlo hk hn d hk2
/-- throw new E("text"), the text by a wide index: the method ends, in the same world -/
theorem v_throw {R : Option Value → va_W → Prop} {XP : String → va_W → Prop} (C : Cx X G cc nL RX7 ret rm nm []) {E text : String} {ik is ic : Nat} (hcls : Bundle.fit E = true) (hk : Cond.classLink RX7 ik E ∈ wA) (hini : Cond.initialized E ∈ wA) (hstr : (is, text) ∈ ([(294, "there is no such cell, miner, claim or right"), (301, "an argument is out of its range"), (306, "this can not be done now"), (312, "there is no such miner"), (324, "there is no such method"), (318, "there is no such claim")] : List (Nat × String)))
    (hat : ∀ x ∈ vx_atS RX7 ic E exN, x ∈ wT) (hgood : ∀ x ∈ Cond.classLink RX7 ik E :: Cond.initialized E :: vx_atS RX7 ic E exN, vx_ot x = true) (d0 : decode cc pc = .ok (.new ik, 3)) (d3 : decode cc (pc + 3) = .ok (.dup, 1)) (d4 : decode cc (pc + 4) = .ok (.ldc_w is, 3)) (d7 : decode cc (pc + 7) = .ok (.invokespecial ic, 3)) (d10 : decode cc (pc + 10) = .ok (.athrow, 1))
    (hfr : 5 < rm.frames) (hlo : (st.map fun v => v.category).sum + 82 ≤ rm.locals) (hc : k + 1 ≤ rm.cells) (hs : n + 6 ≤ rm.slots) (h : XP E w) : V X G nL w k n (Tg X G rm R XP) pc lv st := by
  have hsf := cx_sf C
  obtain ⟨p, l, e, R0, s, m, args, below, meth, c⟩ := X
  obtain ⟨hx, hb, hml, hown, hts, hst, hlk, hr, hR, hG, hF, hz, hK, hnm, htb⟩ := C
  have hR : R0 = rm := hR
  subst hR
  intro H locs ls hP hD hS hl
  obtain ⟨h1, h2, h3, h4, h5, -⟩ := hsf
  obtain ⟨sa, hsa⟩ := h5 _ hstr
  refine vx_throwSW (names := exN) (sa := sa) (text := text) (A := gA G) hx hb hst hown hcls (by decide +kernel) (hts _ hk) (hts _ hini) hsa (fun x hx => h2 x (hat x hx) _) hgood h3 h4 hS (hl.1.trans hml.symm) d0 d3 d4 d7 d10 (fun x hx => by rw [htb] at hx; cases hx) hfr hlo hc hs hlk (fun t hA hz1 hk1 => ?_) (fun x hx => hS.2.2 x hx) hc hs
  refine ⟨⟨w, h, hP.kept (fun k9 q9 hq9 => hk1 q9.1 ((hP k9 q9 hq9).lt)), hD⟩, Nat.le_trans hS.1 hz1, fun q9 h1 h2 => ?_⟩
  rw [hk1 q9 (Nat.lt_of_lt_of_le h1 hS.1)]
  exact hS.2.1 q9 h1 h2
/-- caught here, by the row x of the table -/
theorem v_catch (C : Cx X G cc nL own ret rm nm tb) {E : String} (pre : List ExceptionTableEntry) (x : ExceptionTableEntry) (suf : List ExceptionTableEntry) (hsplit : tb = pre ++ x :: suf) (hpass : ∀ z ∈ pre, z.catchType ≠ 0 ∧ ∃ nm1 : String, Cond.classLink own z.catchType nm1 ∈ wA ∧ va_Nc E nm1 X.2.2.2.2.1) (hx : covers x pc = true) (h0 : x.catchType ≠ 0) (hlink : Cond.classLink own x.catchType E ∈ wA) (hcast : Cond.castable E E ∈ wN)
    (kk : ∀ q9 : Nat, V X G nL w k n Q x.handlerPc lv [.ref q9]) : VX X G nL w k n Q pc lv E := by
  have hsf := cx_sf C
  obtain ⟨p, l, e, R0, s, m, args, below, meth, c⟩ := X
  obtain ⟨hx1, hb, hml, hown, hts, hst, hlk, hr, hR, hG, hF, hz, hK, hnm, htb⟩ := C
  intro H locs ls q9 ce rest hP hD hS hl h1 h2 h3
  exact vx_catch hown pre x suf (htb.trans hsplit) (fun z hz => Or.inr ⟨(hpass z hz).1, by obtain ⟨nm1, g1, g2⟩ := (hpass z hz).2; exact ⟨nm1, hts _ g1, g2⟩⟩) hx h0 (hts _ hlink) (va_Nw.use rfl (hsf.1 _ hcast)) h1 h2 h3 (kk q9 H locs ls hP hD hS hl)
/-- a new object; a new array -/
theorem v_new (C : Cx X G cc nL own ret rm nm tb) {i ci N : Nat} {C0 : String} {T : u_T} {ty : Nat → FieldType} {fs : List Value} (hc : vwCl[ci]? = some (C0, T, N)) (hin : ∀ x ∈ u_ws C0 T N, x ∈ wA) (hty : ∀ j, j < N → parseFieldDescriptor (T j).2.2.1 = some (ty j)) (h1 : Cond.classLink own i C0 ∈ wA) (h2 : Cond.instantiable C0 N ∈ wA) (h3 : Cond.initialized C0 ∈ wA) (hfs : ∀ j, j < N → defaultValue (ty j) = vp_V fs j)
    (hk : k + 1 ≤ rm.cells) (hn : n + N ≤ rm.slots) (d : decode cc pc = .ok (.new i, 3)) (hq : pc + 3 = q) (kk : ∀ q9 : Nat, V X G nL (w ++ [(q9, Sum.inr (ci, fs))]) (k + 1) (n + N) Q q lv (.ref q9 :: st)) : V X G nL w k n Q pc lv st := by
  subst hq
  obtain ⟨p, l, e, R0, s, m, args, below, meth, c⟩ := X
  obtain ⟨hx, hb, hml, hown, hts, hst, hlk, hr, hR, hG, hF, hz, hK, hnm, htb⟩ := C
  have hR : R0 = rm := hR
  subst hR
  intro H locs ls hP hD hS hl
  exact va_new hx hb hts hin ty hty hown (hts _ h1) (hts _ h2) (hts _ h3) hK hP hD hS (fun q9 h => Nat.le_trans hz h) hc hfs hk hn d (fun q9 H1 hP hD hS => kk q9 H1 locs ls hP hD hS hl)
theorem xx_cls {s : State} {G : GG} {cA : ClassId} (hK : va_K G.2.1 vwCl (gT G) s) (t : Nat) (ty : FieldType) (ht : (gT G)[t]? = some (G.2.2.1 t, ty)) (h : va_RA s cA ty) : cA = G.2.2.1 t := by
  have h9 := (hK.2 t _ ht).2
  cases ty with
  | object C =>
    obtain ⟨kA, comp, -, -, -, h1⟩ := h
    obtain ⟨kB, comp2, -, -, -, h2⟩ := h9
    exact Option.some.inj (h1.symm.trans h2)
  | _ => exact Option.some.inj (Eq.trans (Eq.symm h) h9)
theorem v_newI (C : Cx X G cc nL own ret rm nm tb) {z : Int32} {N : Nat} (harr : Cond.arrayClass .int ∈ wA) (hz0 : ¬ z < 0) (hN : z.toNatClampNeg = N) (hby : N * componentBytes .int ≤ 536870912) (hk : k + 1 ≤ rm.cells) (hn : n + N ≤ rm.slots) (d : decode cc pc = .ok (.newarray .int, 2)) (hq : pc + 2 = q)
    (kk : ∀ q9 : Nat, V X G nL (w ++ [(q9, Sum.inl (G.2.2.1 0, N, Sum.inl (fun _ => 0)))]) (k + 1) (n + N) Q q lv (.ref q9 :: st)) : V X G nL w k n Q pc lv (.int z :: st) := by
  subst hq
  obtain ⟨p, l, e, R0, s, m, args, below, meth, c⟩ := X
  obtain ⟨hx, hb, hml, hown, hts, hst, hlk, hr, hR, hG, hF, hz, hK, hnm, htb⟩ := C
  have hR : R0 = rm := hR
  subst hR
  intro H locs ls hP hD hS hl
  refine va_newa (atype := .int) hx hb (hts _ harr) (ty := .int) rfl hK hP hD hS (fun q9 h => Nat.le_trans hz h) (a0 := (N, Sum.inl (fun _ => 0))) (N' := N) (fun cA => rfl) hz0 hN hby hk hn d (fun q9 cA H1 hK1 hP hD hS => ?_)
  have e9 : cA = G.2.2.1 0 := xx_cls hK 0 .int rfl (hK1.2 4 _ rfl).2
  subst e9
  exact kk q9 H1 locs ls hP hD hS hl
/-- statics and constants -/
theorem v_gets (C : Cx X G cc nL own ret rm nm tb) {i : Nat} {C0 nme desc : String} {v : Value} (hlink : Cond.fieldLink own i C0 nme desc ∈ wA) (hZ : va_Z C0 nme desc v (gA G) X.2.2.2.2.1 X.2.2.2.2.1.heap) (d : decode cc pc = .ok (.getstatic i, 3)) (hq : pc + 3 = q) (kk : V X G nL w k n Q q lv (v :: st)) : V X G nL w k n Q pc lv st := by
  subst hq
  obtain ⟨p, l, e, R0, s, m, args, below, meth, c⟩ := X
  obtain ⟨hx, hb, hml, hown, hts, hst, hlk, hr, hR, hG, hF, hz, hK, hnm, htb⟩ := C
  intro H locs ls hP hD hS hl
  exact va_gets hx hb hZ hS hown (hts _ hlink) (fun x hx => hx) d (kk H locs ls hP hD hS hl)
theorem v_tlen (C : Cx X G cc nL own ret rm nm tb) {ty : FieldType} {t N : Nat} {f : Nat → Value} {v : Int32} (hT : va_T ty t N f (gA G) X.2.2.2.2.1 X.2.2.2.2.1.heap) (hv : Int32.ofNat N = v) (d : decode cc pc = .ok (.arraylength, 1)) (hq : pc + 1 = q) (kk : V X G nL w k n Q q lv (.int v :: st)) : V X G nL w k n Q pc lv (.ref t :: st) := by
  subst hq
  obtain ⟨p, l, e, R0, s, m, args, below, meth, c⟩ := X
  obtain ⟨hx, hb, hml, hown, hts, hst, hlk, hr, hR, hG, hF, hz, hK, hnm, htb⟩ := C
  intro H locs ls hP hD hS hl
  exact va_tlen hx hb hT hS hv d (kk H locs ls hP hD hS hl)
theorem v_tq (C : Cx X G cc nL own ret rm nm tb) {C0 : String} {t N : Nat} {f : Nat → Value} {x : Int32} {v : Value} (hT : va_T (.object C0) t N f (gA G) X.2.2.2.2.1 X.2.2.2.2.1.heap) (hin : vp_in x N) (hv : f x.toNatClampNeg = v) (d : decode cc pc = .ok (.aaload, 1)) (hq : pc + 1 = q) (kk : V X G nL w k n Q q lv (v :: st)) : V X G nL w k n Q pc lv (.int x :: .ref t :: st) := by
  subst hq
  obtain ⟨p, l, e, R0, s, m, args, below, meth, c⟩ := X
  obtain ⟨hx, hb, hml, hown, hts, hst, hlk, hr, hR, hG, hF, hz, hK, hnm, htb⟩ := C
  intro H locs ls hP hD hS hl
  exact vb_tq hx hb hT hS hin hv d (kk H locs ls hP hD hS hl)
/-- a field of a constant object -/
theorem v_getO (C : Cx X G cc nL own ret rm nm tb) {i a : Nat} {o nme desc : String} {v : Value} (hlink : Cond.fieldLink own i o nme desc ∈ wA ∨ ∃ host : String, Cond.fieldLinkNest own i o nme desc host ∈ wN) (hO : va_OF o nme desc v a (gA G) X.2.2.2.2.1 X.2.2.2.2.1.heap) (d : decode cc pc = .ok (.getfield i, 3)) (hq : pc + 3 = q) (kk : V X G nL w k n Q q lv (v :: st)) : V X G nL w k n Q pc lv (.ref a :: st) := by
  subst hq
  have hsf := cx_sf C
  obtain ⟨p, l, e, R0, s, m, args, below, meth, c⟩ := X
  obtain ⟨hx, hb, hml, hown, hts, hst, hlk, hr, hR, hG, hF, hz, hK, hnm, htb⟩ := C
  intro H locs ls hP hD hS hl
  rcases hlink with hlink | ⟨host, hlink⟩
  · exact vk_getf hx hb hO hS hown (hts _ hlink) (fun x hx => hx) d (kk H locs ls hP hD hS hl)
  · obtain ⟨cf, k9, fi, f, cell, h1, h2, h3, h4, h5, h6⟩ := hO.kept hS.2.1
    exact va_Wgetf (host := host) hx hb hown (va_Nw.use rfl (hsf.1 _ hlink)) h1 h2 h3 h4 (v := v) h5 rfl rfl d (kk H locs ls hP hD hS hl)
/-- a cast to the object's own class -/
theorem v_cast (C : Cx X G cc nL own ret rm nm tb) {i ci a N : Nat} {C0 : String} {T : u_T} {fs : List Value} (hlink : Cond.classLink own i C0 ∈ wA) (hc : vwCl[ci]? = some (C0, T, N)) (hm : (a, Sum.inr (ci, fs)) ∈ w) (d : decode cc pc = .ok (.checkcast i, 3)) (hq : pc + 3 = q) (kk : V X G nL w k n Q q lv (.ref a :: st)) : V X G nL w k n Q pc lv (.ref a :: st) := by
  subst hq
  obtain ⟨p, l, e, R0, s, m, args, below, meth, c⟩ := X
  obtain ⟨hx, hb, hml, hown, hts, hst, hlk, hr, hR, hG, hF, hz, hK, hnm, htb⟩ := C
  intro H locs ls hP hD hS hl
  obtain ⟨q0, hq0⟩ := List.getElem?_of_mem hm
  exact va_castS hx hb hown (hts _ hlink) (hK.1 ci _ hc).2 (va_recv hK hP hc hq0) d (kk H locs ls hP hD hS hl)
end VC
