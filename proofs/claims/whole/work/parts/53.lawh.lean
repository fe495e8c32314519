/-! the law's helpers: each calls one method of the class and tells what it threw -/
/-- the law's out array is written -/
def OutS (G : GG) (o : Nat) (z : Int64) (w0 w2 : va_W) : Prop := ∃ (q0 : Nat) (f : Nat → Int64), w0[q0]? = some (o, Sum.inl (G.2.2.1 3, 1, Sum.inr (Sum.inl f))) ∧ w0.set q0 (o, Sum.inl (G.2.2.1 3, 1, Sum.inr (Sum.inl (vp_updL f 0 z)))) = w2
section NC
variable {X : XS} {G : GG} {cc : ByteArray} {nL : Nat} {own : String} {ret : Option FieldType} {rm : Room} {nm : String} {tb : List ExceptionTableEntry}
theorem nc_xAxI (C : Cx X G cc nL own ret rm nm tb) : va_Nc xA "java/lang/IndexOutOfBoundsException" X.2.2.2.2.1 := by
  obtain ⟨-, -, -, -, -, -, -, -, -, -, h, -⟩ := cx_sf C
  exact h.1
theorem nc_xSxI (C : Cx X G cc nL own ret rm nm tb) : va_Nc xS "java/lang/IndexOutOfBoundsException" X.2.2.2.2.1 := by
  obtain ⟨-, -, -, -, -, -, -, -, -, -, h, -⟩ := cx_sf C
  exact h.2.1
theorem nc_xSxA (C : Cx X G cc nL own ret rm nm tb) : va_Nc xS "java/lang/IllegalArgumentException" X.2.2.2.2.1 := by
  obtain ⟨-, -, -, -, -, -, -, -, -, -, h, -⟩ := cx_sf C
  exact h.2.2
end NC

abbrev r_L_ground : Room := { frames := 9, cells := 4, slots := 24, locals := 148 }
theorem c_L_ground {l : Launch} {G : GG} {w : va_W} {x o : Nat} {p0 p1 p2 e : Int32} {fs : List Value} {R0 : Option Value → va_W → Prop} {P2 : va_W → Prop} (hst : l.stackTraces = false) (hG : GOK G) (hm : (x, Sum.inr (7, fs)) ∈ w) (hM : Mth l yX7_ground cX7_ground 5 (Option.some Jvm.ClassFile.FieldType.int) r_X7_ground G w (.ref x :: [.int p0, .int p1, .int p2]) R0 (XW (fun E => pE L3 e E) w)) (hR : ∀ v w0, R0 v w0 → ∃ (R : Int32) (w2 : va_W), v = some (.int R) ∧ e = 0 ∧ OutS G o R.toInt64 w0 w2 ∧ P2 w2) : vx_Met l yL_ground (Cond.codeWith yL_ground cL_ground 6 (some .int) [((0 : Nat), (12 : Nat), (15 : Nat), (13 : Nat)), ((0 : Nat), (12 : Nat), (19 : Nat), (15 : Nat)), ((0 : Nat), (12 : Nat), (23 : Nat), (17 : Nat))] :: wA) r_L_ground (cP G w ([.ref x, .int p0, .int p1, .int p2, .ref o])) (cQ G (fun v w1 => v = some (.int e) ∧ ((e ≠ 0 ∧ w1 = w) ∨ (e = 0 ∧ P2 w1)))) (cX G nX) (r_L_ground).cells (r_L_ground).slots (gA G) := by
  refine mth_ofH rfl (Nat.le_of_ble_eq_true rfl) hst hG (fun X hX C0 => ?_)
  subst hX
  have C : Cx X G cL_ground 6 RL (some .int) r_L_ground "ground" [⟨0, 12, 15, 13⟩, ⟨0, 12, 19, 15⟩, ⟨0, 12, 23, 17⟩] := C0
  clear C0
  show V X G 6 w 0 0 _ 0 [(0, .ref x), (1, .int p0), (2, .int p1), (3, .int p2), (4, .ref o)] []
  refine v_aload C dL_ground_0 rfl 4 rfl ?_
  refine v_iconst C (v := 0) dL_ground_2 rfl rfl ?_
  refine v_aload_n C dL_ground_3 rfl 0 rfl ?_
  refine v_iload_n C dL_ground_4 rfl 1 rfl ?_
  refine v_iload_n C dL_ground_5 rfl 2 rfl ?_
  refine v_iload_n C dL_ground_6 rfl 3 rfl ?_
  refine w_invV C [.int p0, .int p1, .int p2] 4 24 L_L_7 hM hm rfl rfl rfl rfl dL_ground_7 rfl (fun E w9 hx => ?_) (fun v w0 hv => ?_)
  · obtain ⟨⟨v, hv, he⟩, hw⟩ := hx
    simp only [L3, List.mem_cons, Prod.mk.injEq, List.not_mem_nil, or_false] at hv
    rcases hv with ⟨rfl, rfl⟩ | ⟨rfl, rfl⟩ | ⟨rfl, rfl⟩
    · skip
      refine v_catch C (E := xI) [] ⟨0, 12, 15, 13⟩ [⟨0, 12, 19, 15⟩, ⟨0, 12, 23, 17⟩] rfl (fun _ h => absurd h List.not_mem_nil) rfl (by decide) (q1 153 rfl rfl) (qn1 171 rfl rfl) (fun q9 => ?_)
      refine v_astore C (lv1 := [(5, .ref q9), (0, .ref x), (1, .int p0), (2, .int p1), (3, .int p2), (4, .ref o)]) dL_ground_15 rfl (by decide) rfl ?_
      refine v_iconst C (v := 1) dL_ground_17 rfl rfl ?_
      exact v_iret C (by decide) (by decide) dL_ground_18 ⟨by rw [he], Or.inl ⟨by rw [he]; decide, hw⟩⟩
    · skip
      refine v_catch C (E := xA) [⟨0, 12, 15, 13⟩] ⟨0, 12, 19, 15⟩ [⟨0, 12, 23, 17⟩] rfl (List.forall_mem_cons.mpr ⟨⟨by decide, _, (q1 153 rfl rfl), nc_xAxI C⟩, (fun _ h => absurd h List.not_mem_nil)⟩) rfl (by decide) (q1 154 rfl rfl) (qn2 6 rfl rfl) (fun q9 => ?_)
      refine v_astore C (lv1 := [(5, .ref q9), (0, .ref x), (1, .int p0), (2, .int p1), (3, .int p2), (4, .ref o)]) dL_ground_19 rfl (by decide) rfl ?_
      refine v_iconst C (v := 2) dL_ground_21 rfl rfl ?_
      exact v_iret C (by decide) (by decide) dL_ground_22 ⟨by rw [he], Or.inl ⟨by rw [he]; decide, hw⟩⟩
    · skip
      refine v_catch C (E := xS) [⟨0, 12, 15, 13⟩, ⟨0, 12, 19, 15⟩] ⟨0, 12, 23, 17⟩ [] rfl (List.forall_mem_cons.mpr ⟨⟨by decide, _, (q1 153 rfl rfl), nc_xSxI C⟩, (List.forall_mem_cons.mpr ⟨⟨by decide, _, (q1 154 rfl rfl), nc_xSxA C⟩, (fun _ h => absurd h List.not_mem_nil)⟩)⟩) rfl (by decide) (q1 155 rfl rfl) (qn2 25 rfl rfl) (fun q9 => ?_)
      refine v_astore C (lv1 := [(5, .ref q9), (0, .ref x), (1, .int p0), (2, .int p1), (3, .int p2), (4, .ref o)]) dL_ground_23 rfl (by decide) rfl ?_
      refine v_iconst C (v := 3) dL_ground_25 rfl rfl ?_
      exact v_iret C (by decide) (by decide) dL_ground_26 ⟨by rw [he], Or.inl ⟨by rw [he]; decide, hw⟩⟩
  · obtain ⟨R, w2, rfl, h0, ⟨q0, f, g1, g2⟩, h2⟩ := hR _ _ hv
    show V X G 6 _ _ _ _ _ _ [.int R, .int 0, .ref o]
    refine v_i2l C dL_ground_10 rfl ?_
    refine v_last C ⟨q0, g1, g2⟩ (pk_in 0 1 (by decide)) dL_ground_11 rfl ?_
    refine v_goto C (q := 27) dL_ground_12 rfl ?_
    refine v_iconst C (v := 0) dL_ground_27 rfl rfl ?_
    exact v_iret C (by decide) (by decide) dL_ground_28 ⟨by rw [h0], Or.inr ⟨h0, h2⟩⟩

abbrev r_L_flow : Room := { frames := 9, cells := 1, slots := 6, locals := 146 }
theorem c_L_flow {l : Launch} {G : GG} {w : va_W} {x o : Nat} {p0 e : Int32} {fs : List Value} {R0 : Option Value → va_W → Prop} {P2 : va_W → Prop} (hst : l.stackTraces = false) (hG : GOK G) (hm : (x, Sum.inr (7, fs)) ∈ w) (hM : Mth l yX7_flow cX7_flow 3 (Option.some Jvm.ClassFile.FieldType.int) r_X7_flow G w (.ref x :: [.int p0]) R0 (XW (fun E => pE LA e E) w)) (hR : ∀ v w0, R0 v w0 → ∃ (R : Int32) (w2 : va_W), v = some (.int R) ∧ e = 0 ∧ OutS G o R.toInt64 w0 w2 ∧ P2 w2) : vx_Met l yL_flow (Cond.codeWith yL_flow cL_flow 4 (some .int) [((0 : Nat), (9 : Nat), (12 : Nat), (15 : Nat))] :: wA) r_L_flow (cP G w ([.ref x, .int p0, .ref o])) (cQ G (fun v w1 => v = some (.int e) ∧ ((e ≠ 0 ∧ w1 = w) ∨ (e = 0 ∧ P2 w1)))) (cX G nX) (r_L_flow).cells (r_L_flow).slots (gA G) := by
  refine mth_ofH rfl (Nat.le_of_ble_eq_true rfl) hst hG (fun X hX C0 => ?_)
  subst hX
  have C : Cx X G cL_flow 4 RL (some .int) r_L_flow "flow" [⟨0, 9, 12, 15⟩] := C0
  clear C0
  show V X G 4 w 0 0 _ 0 [(0, .ref x), (1, .int p0), (2, .ref o)] []
  refine v_aload_n C dL_flow_0 rfl 2 rfl ?_
  refine v_iconst C (v := 0) dL_flow_1 rfl rfl ?_
  refine v_aload_n C dL_flow_2 rfl 0 rfl ?_
  refine v_iload_n C dL_flow_3 rfl 1 rfl ?_
  refine w_invV C [.int p0] 1 6 L_L_19 hM hm rfl rfl rfl rfl dL_flow_4 rfl (fun E w9 hx => ?_) (fun v w0 hv => ?_)
  · obtain ⟨⟨v, hv, he⟩, hw⟩ := hx
    simp only [LA, List.mem_cons, Prod.mk.injEq, List.not_mem_nil, or_false] at hv
    obtain ⟨rfl, rfl⟩ := hv
    refine v_catch C (E := xA) [] ⟨0, 9, 12, 15⟩ [] rfl (fun _ h => absurd h List.not_mem_nil) rfl (by decide) (q1 154 rfl rfl) (qn2 6 rfl rfl) (fun q9 => ?_)
    refine v_astore_n C (lv1 := [(3, .ref q9), (0, .ref x), (1, .int p0), (2, .ref o)]) dL_flow_12 rfl (by decide) rfl ?_
    refine v_iconst C (v := 1) dL_flow_13 rfl rfl ?_
    exact v_iret C (by decide) (by decide) dL_flow_14 ⟨by rw [he], Or.inl ⟨by rw [he]; decide, hw⟩⟩
  · obtain ⟨R, w2, rfl, h0, ⟨q0, f, g1, g2⟩, h2⟩ := hR _ _ hv
    show V X G 4 _ _ _ _ _ _ [.int R, .int 0, .ref o]
    refine v_i2l C dL_flow_7 rfl ?_
    refine v_last C ⟨q0, g1, g2⟩ (pk_in 0 1 (by decide)) dL_flow_8 rfl ?_
    refine v_goto C (q := 15) dL_flow_9 rfl ?_
    refine v_iconst C (v := 0) dL_flow_15 rfl rfl ?_
    exact v_iret C (by decide) (by decide) dL_flow_16 ⟨by rw [h0], Or.inr ⟨h0, h2⟩⟩

abbrev r_L_miner : Room := { frames := 9, cells := 7, slots := 119, locals := 171 }
theorem c_L_miner {l : Launch} {G : GG} {w : va_W} {x o : Nat} {p0 p1 e : Int32} {fs : List Value} {R0 : Option Value → va_W → Prop} {P2 : va_W → Prop} (hst : l.stackTraces = false) (hG : GOK G) (hm : (x, Sum.inr (7, fs)) ∈ w) (hM : Mth l yX7_miner cX7_miner 3 (Option.some Jvm.ClassFile.FieldType.int) r_X7_miner G w (.ref x :: [.int p0, .int p1]) R0 (XW (fun E => pE LAS e E) w)) (hR : ∀ v w0, R0 v w0 → ∃ (R : Int32) (w2 : va_W), v = some (.int R) ∧ e = 0 ∧ OutS G o R.toInt64 w0 w2 ∧ P2 w2) : vx_Met l yL_miner (Cond.codeWith yL_miner cL_miner 5 (some .int) [((0 : Nat), (10 : Nat), (13 : Nat), (15 : Nat)), ((0 : Nat), (10 : Nat), (17 : Nat), (17 : Nat))] :: wA) r_L_miner (cP G w ([.ref x, .int p0, .int p1, .ref o])) (cQ G (fun v w1 => v = some (.int e) ∧ ((e ≠ 0 ∧ w1 = w) ∨ (e = 0 ∧ P2 w1)))) (cX G nX) (r_L_miner).cells (r_L_miner).slots (gA G) := by
  refine mth_ofH rfl (Nat.le_of_ble_eq_true rfl) hst hG (fun X hX C0 => ?_)
  subst hX
  have C : Cx X G cL_miner 5 RL (some .int) r_L_miner "miner" [⟨0, 10, 13, 15⟩, ⟨0, 10, 17, 17⟩] := C0
  clear C0
  show V X G 5 w 0 0 _ 0 [(0, .ref x), (1, .int p0), (2, .int p1), (3, .ref o)] []
  refine v_aload_n C dL_miner_0 rfl 3 rfl ?_
  refine v_iconst C (v := 0) dL_miner_1 rfl rfl ?_
  refine v_aload_n C dL_miner_2 rfl 0 rfl ?_
  refine v_iload_n C dL_miner_3 rfl 1 rfl ?_
  refine v_iload_n C dL_miner_4 rfl 2 rfl ?_
  refine w_invV C [.int p0, .int p1] 7 119 L_L_23 hM hm rfl rfl rfl rfl dL_miner_5 rfl (fun E w9 hx => ?_) (fun v w0 hv => ?_)
  · obtain ⟨⟨v, hv, he⟩, hw⟩ := hx
    simp only [LAS, List.mem_cons, Prod.mk.injEq, List.not_mem_nil, or_false] at hv
    rcases hv with ⟨rfl, rfl⟩ | ⟨rfl, rfl⟩
    · skip
      refine v_catch C (E := xA) [] ⟨0, 10, 13, 15⟩ [⟨0, 10, 17, 17⟩] rfl (fun _ h => absurd h List.not_mem_nil) rfl (by decide) (q1 154 rfl rfl) (qn2 6 rfl rfl) (fun q9 => ?_)
      refine v_astore C (lv1 := [(4, .ref q9), (0, .ref x), (1, .int p0), (2, .int p1), (3, .ref o)]) dL_miner_13 rfl (by decide) rfl ?_
      refine v_iconst C (v := 1) dL_miner_15 rfl rfl ?_
      exact v_iret C (by decide) (by decide) dL_miner_16 ⟨by rw [he], Or.inl ⟨by rw [he]; decide, hw⟩⟩
    · skip
      refine v_catch C (E := xS) [⟨0, 10, 13, 15⟩] ⟨0, 10, 17, 17⟩ [] rfl (List.forall_mem_cons.mpr ⟨⟨by decide, _, (q1 154 rfl rfl), nc_xSxA C⟩, (fun _ h => absurd h List.not_mem_nil)⟩) rfl (by decide) (q1 155 rfl rfl) (qn2 25 rfl rfl) (fun q9 => ?_)
      refine v_astore C (lv1 := [(4, .ref q9), (0, .ref x), (1, .int p0), (2, .int p1), (3, .ref o)]) dL_miner_17 rfl (by decide) rfl ?_
      refine v_iconst C (v := 2) dL_miner_19 rfl rfl ?_
      exact v_iret C (by decide) (by decide) dL_miner_20 ⟨by rw [he], Or.inl ⟨by rw [he]; decide, hw⟩⟩
  · obtain ⟨R, w2, rfl, h0, ⟨q0, f, g1, g2⟩, h2⟩ := hR _ _ hv
    show V X G 5 _ _ _ _ _ _ [.int R, .int 0, .ref o]
    refine v_i2l C dL_miner_8 rfl ?_
    refine v_last C ⟨q0, g1, g2⟩ (pk_in 0 1 (by decide)) dL_miner_9 rfl ?_
    refine v_goto C (q := 21) dL_miner_10 rfl ?_
    refine v_iconst C (v := 0) dL_miner_21 rfl rfl ?_
    exact v_iret C (by decide) (by decide) dL_miner_22 ⟨by rw [h0], Or.inr ⟨h0, h2⟩⟩

abbrev r_L_pass : Room := { frames := 9, cells := 2, slots := 12, locals := 149 }
theorem c_L_pass {l : Launch} {G : GG} {w : va_W} {x o : Nat} {p0 e : Int32} {fs : List Value} {R0 : Option Value → va_W → Prop} {P2 : va_W → Prop} (hst : l.stackTraces = false) (hG : GOK G) (hm : (x, Sum.inr (7, fs)) ∈ w) (hM : Mth l yX7_pass cX7_pass 3 (Option.some Jvm.ClassFile.FieldType.int) r_X7_pass G w (.ref x :: [.int p0]) R0 (XW (fun E => pE LAS e E) w)) (hR : ∀ v w0, R0 v w0 → ∃ (R : Int32) (w2 : va_W), v = some (.int R) ∧ e = 0 ∧ OutS G o R.toInt64 w0 w2 ∧ P2 w2) : vx_Met l yL_pass (Cond.codeWith yL_pass cL_pass 4 (some .int) [((0 : Nat), (9 : Nat), (12 : Nat), (15 : Nat)), ((0 : Nat), (9 : Nat), (15 : Nat), (17 : Nat))] :: wA) r_L_pass (cP G w ([.ref x, .int p0, .ref o])) (cQ G (fun v w1 => v = some (.int e) ∧ ((e ≠ 0 ∧ w1 = w) ∨ (e = 0 ∧ P2 w1)))) (cX G nX) (r_L_pass).cells (r_L_pass).slots (gA G) := by
  refine mth_ofH rfl (Nat.le_of_ble_eq_true rfl) hst hG (fun X hX C0 => ?_)
  subst hX
  have C : Cx X G cL_pass 4 RL (some .int) r_L_pass "pass" [⟨0, 9, 12, 15⟩, ⟨0, 9, 15, 17⟩] := C0
  clear C0
  show V X G 4 w 0 0 _ 0 [(0, .ref x), (1, .int p0), (2, .ref o)] []
  refine v_aload_n C dL_pass_0 rfl 2 rfl ?_
  refine v_iconst C (v := 0) dL_pass_1 rfl rfl ?_
  refine v_aload_n C dL_pass_2 rfl 0 rfl ?_
  refine v_iload_n C dL_pass_3 rfl 1 rfl ?_
  refine w_invV C [.int p0] 2 12 L_L_27 hM hm rfl rfl rfl rfl dL_pass_4 rfl (fun E w9 hx => ?_) (fun v w0 hv => ?_)
  · obtain ⟨⟨v, hv, he⟩, hw⟩ := hx
    simp only [LAS, List.mem_cons, Prod.mk.injEq, List.not_mem_nil, or_false] at hv
    rcases hv with ⟨rfl, rfl⟩ | ⟨rfl, rfl⟩
    · skip
      refine v_catch C (E := xA) [] ⟨0, 9, 12, 15⟩ [⟨0, 9, 15, 17⟩] rfl (fun _ h => absurd h List.not_mem_nil) rfl (by decide) (q1 154 rfl rfl) (qn2 6 rfl rfl) (fun q9 => ?_)
      refine v_astore_n C (lv1 := [(3, .ref q9), (0, .ref x), (1, .int p0), (2, .ref o)]) dL_pass_12 rfl (by decide) rfl ?_
      refine v_iconst C (v := 1) dL_pass_13 rfl rfl ?_
      exact v_iret C (by decide) (by decide) dL_pass_14 ⟨by rw [he], Or.inl ⟨by rw [he]; decide, hw⟩⟩
    · skip
      refine v_catch C (E := xS) [⟨0, 9, 12, 15⟩] ⟨0, 9, 15, 17⟩ [] rfl (List.forall_mem_cons.mpr ⟨⟨by decide, _, (q1 154 rfl rfl), nc_xSxA C⟩, (fun _ h => absurd h List.not_mem_nil)⟩) rfl (by decide) (q1 155 rfl rfl) (qn2 25 rfl rfl) (fun q9 => ?_)
      refine v_astore_n C (lv1 := [(3, .ref q9), (0, .ref x), (1, .int p0), (2, .ref o)]) dL_pass_15 rfl (by decide) rfl ?_
      refine v_iconst C (v := 2) dL_pass_16 rfl rfl ?_
      exact v_iret C (by decide) (by decide) dL_pass_17 ⟨by rw [he], Or.inl ⟨by rw [he]; decide, hw⟩⟩
  · obtain ⟨R, w2, rfl, h0, ⟨q0, f, g1, g2⟩, h2⟩ := hR _ _ hv
    show V X G 4 _ _ _ _ _ _ [.int R, .int 0, .ref o]
    refine v_i2l C dL_pass_7 rfl ?_
    refine v_last C ⟨q0, g1, g2⟩ (pk_in 0 1 (by decide)) dL_pass_8 rfl ?_
    refine v_goto C (q := 18) dL_pass_9 rfl ?_
    refine v_iconst C (v := 0) dL_pass_18 rfl rfl ?_
    exact v_iret C (by decide) (by decide) dL_pass_19 ⟨by rw [h0], Or.inr ⟨h0, h2⟩⟩

abbrev r_L_meet : Room := { frames := 9, cells := 5, slots := 30, locals := 149 }
theorem c_L_meet {l : Launch} {G : GG} {w : va_W} {x o : Nat} {p0 p1 p2 p3 e : Int32} {fs : List Value} {R0 : Option Value → va_W → Prop} {P2 : va_W → Prop} (hst : l.stackTraces = false) (hG : GOK G) (hm : (x, Sum.inr (7, fs)) ∈ w) (hM : Mth l yX7_meet cX7_meet 6 (Option.some Jvm.ClassFile.FieldType.boolean) r_X7_meet G w (.ref x :: [.int p0, .int p1, .int p2, .int p3]) R0 (XW (fun E => pE LA e E) w)) (hR : ∀ v w0, R0 v w0 → ∃ (R : Int32) (w2 : va_W), v = some (.int R) ∧ e = 0 ∧ OutS G o (if R = 0 then 0 else 1) w0 w2 ∧ P2 w2) : vx_Met l yL_meet (Cond.codeWith yL_meet cL_meet 7 (some .int) [((0 : Nat), (21 : Nat), (24 : Nat), (15 : Nat))] :: wA) r_L_meet (cP G w ([.ref x, .int p0, .int p1, .int p2, .int p3, .ref o])) (cQ G (fun v w1 => v = some (.int e) ∧ ((e ≠ 0 ∧ w1 = w) ∨ (e = 0 ∧ P2 w1)))) (cX G nX) (r_L_meet).cells (r_L_meet).slots (gA G) := by
  refine mth_ofH rfl (Nat.le_of_ble_eq_true rfl) hst hG (fun X hX C0 => ?_)
  subst hX
  have C : Cx X G cL_meet 7 RL (some .int) r_L_meet "meet" [⟨0, 21, 24, 15⟩] := C0
  clear C0
  show V X G 7 w 0 0 _ 0 [(0, .ref x), (1, .int p0), (2, .int p1), (3, .int p2), (4, .int p3), (5, .ref o)] []
  refine v_aload C dL_meet_0 rfl 5 rfl ?_
  refine v_iconst C (v := 0) dL_meet_2 rfl rfl ?_
  refine v_aload_n C dL_meet_3 rfl 0 rfl ?_
  refine v_iload_n C dL_meet_4 rfl 1 rfl ?_
  refine v_iload_n C dL_meet_5 rfl 2 rfl ?_
  refine v_iload_n C dL_meet_6 rfl 3 rfl ?_
  refine v_iload C dL_meet_7 rfl 4 rfl ?_
  refine w_invV C [.int p0, .int p1, .int p2, .int p3] 5 30 L_L_30 hM hm rfl rfl rfl rfl dL_meet_9 rfl (fun E w9 hx => ?_) (fun v w0 hv => ?_)
  · obtain ⟨⟨v, hv, he⟩, hw⟩ := hx
    simp only [LA, List.mem_cons, Prod.mk.injEq, List.not_mem_nil, or_false] at hv
    obtain ⟨rfl, rfl⟩ := hv
    refine v_catch C (E := xA) [] ⟨0, 21, 24, 15⟩ [] rfl (fun _ h => absurd h List.not_mem_nil) rfl (by decide) (q1 154 rfl rfl) (qn2 6 rfl rfl) (fun q9 => ?_)
    refine v_astore C (lv1 := [(6, .ref q9), (0, .ref x), (1, .int p0), (2, .int p1), (3, .int p2), (4, .int p3), (5, .ref o)]) dL_meet_24 rfl (by decide) rfl ?_
    refine v_iconst C (v := 1) dL_meet_26 rfl rfl ?_
    exact v_iret C (by decide) (by decide) dL_meet_27 ⟨by rw [he], Or.inl ⟨by rw [he]; decide, hw⟩⟩
  · obtain ⟨R, w2, rfl, h0, ⟨q0, f, g1, g2⟩, h2⟩ := hR _ _ hv
    show V X G 7 _ _ _ _ _ _ [.int R, .int 0, .ref o]
    have hk : V X G 7 w0 5 30 (Tg X G r_L_meet (fun v w1 => v = some (.int e) ∧ ((e ≠ 0 ∧ w1 = w) ∨ (e = 0 ∧ P2 w1))) nX) 20 [(0, .ref x), (1, .int p0), (2, .int p1), (3, .int p2), (4, .int p3), (5, .ref o)] [.long (if R = 0 then 0 else 1), .int 0, .ref o] := by
      refine v_last C ⟨q0, g1, g2⟩ (pk_in 0 1 (by decide)) dL_meet_20 rfl ?_
      refine v_goto C (q := 28) dL_meet_21 rfl ?_
      refine v_iconst C (v := 0) dL_meet_28 rfl rfl ?_
      exact v_iret C (by decide) (by decide) dL_meet_29 ⟨by rw [h0], Or.inr ⟨h0, h2⟩⟩
    refine v_if_eq C (t := 19) dL_meet_12 rfl rfl (fun hz => ?_) (fun hz => ?_)
    · rw [if_pos hz] at hk
      exact v_lconst C (v := 0) dL_meet_19 rfl rfl hk
    · rw [if_neg hz] at hk
      refine v_lconst C (v := 1) dL_meet_15 rfl rfl ?_
      exact v_goto C (q := 20) dL_meet_16 rfl hk

abbrev r_L_peg : Room := { frames := 9, cells := 7, slots := 81, locals := 173 }
theorem c_L_peg {l : Launch} {G : GG} {w : va_W} {x o : Nat} {p0 p1 p2 e : Int32} {fs : List Value} {R0 : Option Value → va_W → Prop} {P2 : va_W → Prop} (hst : l.stackTraces = false) (hG : GOK G) (hm : (x, Sum.inr (7, fs)) ∈ w) (hM : Mth l yX7_peg cX7_peg 5 (Option.some Jvm.ClassFile.FieldType.int) r_X7_peg G w (.ref x :: [.int p0, .int p1, .int p2]) R0 (XW (fun E => pE L3 e E) w)) (hR : ∀ v w0, R0 v w0 → ∃ (R : Int32) (w2 : va_W), v = some (.int R) ∧ e = 0 ∧ OutS G o R.toInt64 w0 w2 ∧ P2 w2) : vx_Met l yL_peg (Cond.codeWith yL_peg cL_peg 6 (some .int) [((0 : Nat), (12 : Nat), (15 : Nat), (13 : Nat)), ((0 : Nat), (12 : Nat), (19 : Nat), (15 : Nat)), ((0 : Nat), (12 : Nat), (23 : Nat), (17 : Nat))] :: wA) r_L_peg (cP G w ([.ref x, .int p0, .int p1, .int p2, .ref o])) (cQ G (fun v w1 => v = some (.int e) ∧ ((e ≠ 0 ∧ w1 = w) ∨ (e = 0 ∧ P2 w1)))) (cX G nX) (r_L_peg).cells (r_L_peg).slots (gA G) := by
  refine mth_ofH rfl (Nat.le_of_ble_eq_true rfl) hst hG (fun X hX C0 => ?_)
  subst hX
  have C : Cx X G cL_peg 6 RL (some .int) r_L_peg "peg" [⟨0, 12, 15, 13⟩, ⟨0, 12, 19, 15⟩, ⟨0, 12, 23, 17⟩] := C0
  clear C0
  show V X G 6 w 0 0 _ 0 [(0, .ref x), (1, .int p0), (2, .int p1), (3, .int p2), (4, .ref o)] []
  refine v_aload C dL_peg_0 rfl 4 rfl ?_
  refine v_iconst C (v := 0) dL_peg_2 rfl rfl ?_
  refine v_aload_n C dL_peg_3 rfl 0 rfl ?_
  refine v_iload_n C dL_peg_4 rfl 1 rfl ?_
  refine v_iload_n C dL_peg_5 rfl 2 rfl ?_
  refine v_iload_n C dL_peg_6 rfl 3 rfl ?_
  refine w_invV C [.int p0, .int p1, .int p2] 7 81 L_L_34 hM hm rfl rfl rfl rfl dL_peg_7 rfl (fun E w9 hx => ?_) (fun v w0 hv => ?_)
  · obtain ⟨⟨v, hv, he⟩, hw⟩ := hx
    simp only [L3, List.mem_cons, Prod.mk.injEq, List.not_mem_nil, or_false] at hv
    rcases hv with ⟨rfl, rfl⟩ | ⟨rfl, rfl⟩ | ⟨rfl, rfl⟩
    · skip
      refine v_catch C (E := xI) [] ⟨0, 12, 15, 13⟩ [⟨0, 12, 19, 15⟩, ⟨0, 12, 23, 17⟩] rfl (fun _ h => absurd h List.not_mem_nil) rfl (by decide) (q1 153 rfl rfl) (qn1 171 rfl rfl) (fun q9 => ?_)
      refine v_astore C (lv1 := [(5, .ref q9), (0, .ref x), (1, .int p0), (2, .int p1), (3, .int p2), (4, .ref o)]) dL_peg_15 rfl (by decide) rfl ?_
      refine v_iconst C (v := 1) dL_peg_17 rfl rfl ?_
      exact v_iret C (by decide) (by decide) dL_peg_18 ⟨by rw [he], Or.inl ⟨by rw [he]; decide, hw⟩⟩
    · skip
      refine v_catch C (E := xA) [⟨0, 12, 15, 13⟩] ⟨0, 12, 19, 15⟩ [⟨0, 12, 23, 17⟩] rfl (List.forall_mem_cons.mpr ⟨⟨by decide, _, (q1 153 rfl rfl), nc_xAxI C⟩, (fun _ h => absurd h List.not_mem_nil)⟩) rfl (by decide) (q1 154 rfl rfl) (qn2 6 rfl rfl) (fun q9 => ?_)
      refine v_astore C (lv1 := [(5, .ref q9), (0, .ref x), (1, .int p0), (2, .int p1), (3, .int p2), (4, .ref o)]) dL_peg_19 rfl (by decide) rfl ?_
      refine v_iconst C (v := 2) dL_peg_21 rfl rfl ?_
      exact v_iret C (by decide) (by decide) dL_peg_22 ⟨by rw [he], Or.inl ⟨by rw [he]; decide, hw⟩⟩
    · skip
      refine v_catch C (E := xS) [⟨0, 12, 15, 13⟩, ⟨0, 12, 19, 15⟩] ⟨0, 12, 23, 17⟩ [] rfl (List.forall_mem_cons.mpr ⟨⟨by decide, _, (q1 153 rfl rfl), nc_xSxI C⟩, (List.forall_mem_cons.mpr ⟨⟨by decide, _, (q1 154 rfl rfl), nc_xSxA C⟩, (fun _ h => absurd h List.not_mem_nil)⟩)⟩) rfl (by decide) (q1 155 rfl rfl) (qn2 25 rfl rfl) (fun q9 => ?_)
      refine v_astore C (lv1 := [(5, .ref q9), (0, .ref x), (1, .int p0), (2, .int p1), (3, .int p2), (4, .ref o)]) dL_peg_23 rfl (by decide) rfl ?_
      refine v_iconst C (v := 3) dL_peg_25 rfl rfl ?_
      exact v_iret C (by decide) (by decide) dL_peg_26 ⟨by rw [he], Or.inl ⟨by rw [he]; decide, hw⟩⟩
  · obtain ⟨R, w2, rfl, h0, ⟨q0, f, g1, g2⟩, h2⟩ := hR _ _ hv
    show V X G 6 _ _ _ _ _ _ [.int R, .int 0, .ref o]
    refine v_i2l C dL_peg_10 rfl ?_
    refine v_last C ⟨q0, g1, g2⟩ (pk_in 0 1 (by decide)) dL_peg_11 rfl ?_
    refine v_goto C (q := 27) dL_peg_12 rfl ?_
    refine v_iconst C (v := 0) dL_peg_27 rfl rfl ?_
    exact v_iret C (by decide) (by decide) dL_peg_28 ⟨by rw [h0], Or.inr ⟨h0, h2⟩⟩

abbrev r_L_right : Room := { frames := 9, cells := 5, slots := 60, locals := 172 }
theorem c_L_right {l : Launch} {G : GG} {w : va_W} {x o : Nat} {p0 p1 e : Int32} {fs : List Value} {R0 : Option Value → va_W → Prop} {P2 : va_W → Prop} (hst : l.stackTraces = false) (hG : GOK G) (hm : (x, Sum.inr (7, fs)) ∈ w) (hM : Mth l yX7_right cX7_right 4 (Option.some Jvm.ClassFile.FieldType.int) r_X7_right G w (.ref x :: [.int p0, .int p1]) R0 (XW (fun E => pE L3 e E) w)) (hR : ∀ v w0, R0 v w0 → ∃ (R : Int32) (w2 : va_W), v = some (.int R) ∧ e = 0 ∧ OutS G o R.toInt64 w0 w2 ∧ P2 w2) : vx_Met l yL_right (Cond.codeWith yL_right cL_right 5 (some .int) [((0 : Nat), (10 : Nat), (13 : Nat), (13 : Nat)), ((0 : Nat), (10 : Nat), (17 : Nat), (15 : Nat)), ((0 : Nat), (10 : Nat), (21 : Nat), (17 : Nat))] :: wA) r_L_right (cP G w ([.ref x, .int p0, .int p1, .ref o])) (cQ G (fun v w1 => v = some (.int e) ∧ ((e ≠ 0 ∧ w1 = w) ∨ (e = 0 ∧ P2 w1)))) (cX G nX) (r_L_right).cells (r_L_right).slots (gA G) := by
  refine mth_ofH rfl (Nat.le_of_ble_eq_true rfl) hst hG (fun X hX C0 => ?_)
  subst hX
  have C : Cx X G cL_right 5 RL (some .int) r_L_right "right" [⟨0, 10, 13, 13⟩, ⟨0, 10, 17, 15⟩, ⟨0, 10, 21, 17⟩] := C0
  clear C0
  show V X G 5 w 0 0 _ 0 [(0, .ref x), (1, .int p0), (2, .int p1), (3, .ref o)] []
  refine v_aload_n C dL_right_0 rfl 3 rfl ?_
  refine v_iconst C (v := 0) dL_right_1 rfl rfl ?_
  refine v_aload_n C dL_right_2 rfl 0 rfl ?_
  refine v_iload_n C dL_right_3 rfl 1 rfl ?_
  refine v_iload_n C dL_right_4 rfl 2 rfl ?_
  refine w_invV C [.int p0, .int p1] 5 60 L_L_37 hM hm rfl rfl rfl rfl dL_right_5 rfl (fun E w9 hx => ?_) (fun v w0 hv => ?_)
  · obtain ⟨⟨v, hv, he⟩, hw⟩ := hx
    simp only [L3, List.mem_cons, Prod.mk.injEq, List.not_mem_nil, or_false] at hv
    rcases hv with ⟨rfl, rfl⟩ | ⟨rfl, rfl⟩ | ⟨rfl, rfl⟩
    · skip
      refine v_catch C (E := xI) [] ⟨0, 10, 13, 13⟩ [⟨0, 10, 17, 15⟩, ⟨0, 10, 21, 17⟩] rfl (fun _ h => absurd h List.not_mem_nil) rfl (by decide) (q1 153 rfl rfl) (qn1 171 rfl rfl) (fun q9 => ?_)
      refine v_astore C (lv1 := [(4, .ref q9), (0, .ref x), (1, .int p0), (2, .int p1), (3, .ref o)]) dL_right_13 rfl (by decide) rfl ?_
      refine v_iconst C (v := 1) dL_right_15 rfl rfl ?_
      exact v_iret C (by decide) (by decide) dL_right_16 ⟨by rw [he], Or.inl ⟨by rw [he]; decide, hw⟩⟩
    · skip
      refine v_catch C (E := xA) [⟨0, 10, 13, 13⟩] ⟨0, 10, 17, 15⟩ [⟨0, 10, 21, 17⟩] rfl (List.forall_mem_cons.mpr ⟨⟨by decide, _, (q1 153 rfl rfl), nc_xAxI C⟩, (fun _ h => absurd h List.not_mem_nil)⟩) rfl (by decide) (q1 154 rfl rfl) (qn2 6 rfl rfl) (fun q9 => ?_)
      refine v_astore C (lv1 := [(4, .ref q9), (0, .ref x), (1, .int p0), (2, .int p1), (3, .ref o)]) dL_right_17 rfl (by decide) rfl ?_
      refine v_iconst C (v := 2) dL_right_19 rfl rfl ?_
      exact v_iret C (by decide) (by decide) dL_right_20 ⟨by rw [he], Or.inl ⟨by rw [he]; decide, hw⟩⟩
    · skip
      refine v_catch C (E := xS) [⟨0, 10, 13, 13⟩, ⟨0, 10, 17, 15⟩] ⟨0, 10, 21, 17⟩ [] rfl (List.forall_mem_cons.mpr ⟨⟨by decide, _, (q1 153 rfl rfl), nc_xSxI C⟩, (List.forall_mem_cons.mpr ⟨⟨by decide, _, (q1 154 rfl rfl), nc_xSxA C⟩, (fun _ h => absurd h List.not_mem_nil)⟩)⟩) rfl (by decide) (q1 155 rfl rfl) (qn2 25 rfl rfl) (fun q9 => ?_)
      refine v_astore C (lv1 := [(4, .ref q9), (0, .ref x), (1, .int p0), (2, .int p1), (3, .ref o)]) dL_right_21 rfl (by decide) rfl ?_
      refine v_iconst C (v := 3) dL_right_23 rfl rfl ?_
      exact v_iret C (by decide) (by decide) dL_right_24 ⟨by rw [he], Or.inl ⟨by rw [he]; decide, hw⟩⟩
  · obtain ⟨R, w2, rfl, h0, ⟨q0, f, g1, g2⟩, h2⟩ := hR _ _ hv
    show V X G 5 _ _ _ _ _ _ [.int R, .int 0, .ref o]
    refine v_i2l C dL_right_8 rfl ?_
    refine v_last C ⟨q0, g1, g2⟩ (pk_in 0 1 (by decide)) dL_right_9 rfl ?_
    refine v_goto C (q := 25) dL_right_10 rfl ?_
    refine v_iconst C (v := 0) dL_right_25 rfl rfl ?_
    exact v_iret C (by decide) (by decide) dL_right_26 ⟨by rw [h0], Or.inr ⟨h0, h2⟩⟩

abbrev r_L_work : Room := { frames := 9, cells := 6, slots := 36, locals := 160 }
theorem c_L_work {l : Launch} {G : GG} {w : va_W} {x o : Nat} {p0 p1 p2 e : Int32} {fs : List Value} {R0 : Option Value → va_W → Prop} {P2 : va_W → Prop} (hst : l.stackTraces = false) (hG : GOK G) (hm : (x, Sum.inr (7, fs)) ∈ w) (hM : Mth l yX7_work cX7_work 8 (Option.some Jvm.ClassFile.FieldType.int) r_X7_work G w (.ref x :: [.int p0, .int p1, .int p2]) R0 (XW (fun E => pE L3 e E) w)) (hR : ∀ v w0, R0 v w0 → ∃ (R : Int32) (w2 : va_W), v = some (.int R) ∧ e = 0 ∧ OutS G o R.toInt64 w0 w2 ∧ P2 w2) : vx_Met l yL_work (Cond.codeWith yL_work cL_work 6 (some .int) [((0 : Nat), (12 : Nat), (15 : Nat), (13 : Nat)), ((0 : Nat), (12 : Nat), (19 : Nat), (15 : Nat)), ((0 : Nat), (12 : Nat), (23 : Nat), (17 : Nat))] :: wA) r_L_work (cP G w ([.ref x, .int p0, .int p1, .int p2, .ref o])) (cQ G (fun v w1 => v = some (.int e) ∧ ((e ≠ 0 ∧ w1 = w) ∨ (e = 0 ∧ P2 w1)))) (cX G nX) (r_L_work).cells (r_L_work).slots (gA G) := by
  refine mth_ofH rfl (Nat.le_of_ble_eq_true rfl) hst hG (fun X hX C0 => ?_)
  subst hX
  have C : Cx X G cL_work 6 RL (some .int) r_L_work "work" [⟨0, 12, 15, 13⟩, ⟨0, 12, 19, 15⟩, ⟨0, 12, 23, 17⟩] := C0
  clear C0
  show V X G 6 w 0 0 _ 0 [(0, .ref x), (1, .int p0), (2, .int p1), (3, .int p2), (4, .ref o)] []
  refine v_aload C dL_work_0 rfl 4 rfl ?_
  refine v_iconst C (v := 0) dL_work_2 rfl rfl ?_
  refine v_aload_n C dL_work_3 rfl 0 rfl ?_
  refine v_iload_n C dL_work_4 rfl 1 rfl ?_
  refine v_iload_n C dL_work_5 rfl 2 rfl ?_
  refine v_iload_n C dL_work_6 rfl 3 rfl ?_
  refine w_invV C [.int p0, .int p1, .int p2] 6 36 L_L_40 hM hm rfl rfl rfl rfl dL_work_7 rfl (fun E w9 hx => ?_) (fun v w0 hv => ?_)
  · obtain ⟨⟨v, hv, he⟩, hw⟩ := hx
    simp only [L3, List.mem_cons, Prod.mk.injEq, List.not_mem_nil, or_false] at hv
    rcases hv with ⟨rfl, rfl⟩ | ⟨rfl, rfl⟩ | ⟨rfl, rfl⟩
    · skip
      refine v_catch C (E := xI) [] ⟨0, 12, 15, 13⟩ [⟨0, 12, 19, 15⟩, ⟨0, 12, 23, 17⟩] rfl (fun _ h => absurd h List.not_mem_nil) rfl (by decide) (q1 153 rfl rfl) (qn1 171 rfl rfl) (fun q9 => ?_)
      refine v_astore C (lv1 := [(5, .ref q9), (0, .ref x), (1, .int p0), (2, .int p1), (3, .int p2), (4, .ref o)]) dL_work_15 rfl (by decide) rfl ?_
      refine v_iconst C (v := 1) dL_work_17 rfl rfl ?_
      exact v_iret C (by decide) (by decide) dL_work_18 ⟨by rw [he], Or.inl ⟨by rw [he]; decide, hw⟩⟩
    · skip
      refine v_catch C (E := xA) [⟨0, 12, 15, 13⟩] ⟨0, 12, 19, 15⟩ [⟨0, 12, 23, 17⟩] rfl (List.forall_mem_cons.mpr ⟨⟨by decide, _, (q1 153 rfl rfl), nc_xAxI C⟩, (fun _ h => absurd h List.not_mem_nil)⟩) rfl (by decide) (q1 154 rfl rfl) (qn2 6 rfl rfl) (fun q9 => ?_)
      refine v_astore C (lv1 := [(5, .ref q9), (0, .ref x), (1, .int p0), (2, .int p1), (3, .int p2), (4, .ref o)]) dL_work_19 rfl (by decide) rfl ?_
      refine v_iconst C (v := 2) dL_work_21 rfl rfl ?_
      exact v_iret C (by decide) (by decide) dL_work_22 ⟨by rw [he], Or.inl ⟨by rw [he]; decide, hw⟩⟩
    · skip
      refine v_catch C (E := xS) [⟨0, 12, 15, 13⟩, ⟨0, 12, 19, 15⟩] ⟨0, 12, 23, 17⟩ [] rfl (List.forall_mem_cons.mpr ⟨⟨by decide, _, (q1 153 rfl rfl), nc_xSxI C⟩, (List.forall_mem_cons.mpr ⟨⟨by decide, _, (q1 154 rfl rfl), nc_xSxA C⟩, (fun _ h => absurd h List.not_mem_nil)⟩)⟩) rfl (by decide) (q1 155 rfl rfl) (qn2 25 rfl rfl) (fun q9 => ?_)
      refine v_astore C (lv1 := [(5, .ref q9), (0, .ref x), (1, .int p0), (2, .int p1), (3, .int p2), (4, .ref o)]) dL_work_23 rfl (by decide) rfl ?_
      refine v_iconst C (v := 3) dL_work_25 rfl rfl ?_
      exact v_iret C (by decide) (by decide) dL_work_26 ⟨by rw [he], Or.inl ⟨by rw [he]; decide, hw⟩⟩
  · obtain ⟨R, w2, rfl, h0, ⟨q0, f, g1, g2⟩, h2⟩ := hR _ _ hv
    show V X G 6 _ _ _ _ _ _ [.int R, .int 0, .ref o]
    refine v_i2l C dL_work_10 rfl ?_
    refine v_last C ⟨q0, g1, g2⟩ (pk_in 0 1 (by decide)) dL_work_11 rfl ?_
    refine v_goto C (q := 27) dL_work_12 rfl ?_
    refine v_iconst C (v := 0) dL_work_27 rfl rfl ?_
    exact v_iret C (by decide) (by decide) dL_work_28 ⟨by rw [h0], Or.inr ⟨h0, h2⟩⟩

abbrev r_L_sample : Room := { frames := 9, cells := 1, slots := 6, locals := 143 }
theorem c_L_sample {l : Launch} {G : GG} {w : va_W} {x o : Nat} {p0 e : Int32} {fs : List Value} {R0 : Option Value → va_W → Prop} {P2 : va_W → Prop} (hst : l.stackTraces = false) (hG : GOK G) (hm : (x, Sum.inr (7, fs)) ∈ w) (hM : Mth l yX7_sample cX7_sample 2 (Option.some Jvm.ClassFile.FieldType.int) r_X7_sample G w (.ref x :: [.int p0]) R0 (XW (fun E => pE LI1 e E) w)) (hR : ∀ v w0, R0 v w0 → ∃ (R : Int32) (w2 : va_W), v = some (.int R) ∧ e = 0 ∧ OutS G o R.toInt64 w0 w2 ∧ P2 w2) : vx_Met l yL_sample (Cond.codeWith yL_sample cL_sample 4 (some .int) [((0 : Nat), (9 : Nat), (12 : Nat), (13 : Nat))] :: wA) r_L_sample (cP G w ([.ref x, .int p0, .ref o])) (cQ G (fun v w1 => v = some (.int e) ∧ ((e ≠ 0 ∧ w1 = w) ∨ (e = 0 ∧ P2 w1)))) (cX G nX) (r_L_sample).cells (r_L_sample).slots (gA G) := by
  refine mth_ofH rfl (Nat.le_of_ble_eq_true rfl) hst hG (fun X hX C0 => ?_)
  subst hX
  have C : Cx X G cL_sample 4 RL (some .int) r_L_sample "sample" [⟨0, 9, 12, 13⟩] := C0
  clear C0
  show V X G 4 w 0 0 _ 0 [(0, .ref x), (1, .int p0), (2, .ref o)] []
  refine v_aload_n C dL_sample_0 rfl 2 rfl ?_
  refine v_iconst C (v := 0) dL_sample_1 rfl rfl ?_
  refine v_aload_n C dL_sample_2 rfl 0 rfl ?_
  refine v_iload_n C dL_sample_3 rfl 1 rfl ?_
  refine w_invV C [.int p0] 1 6 L_L_43 hM hm rfl rfl rfl rfl dL_sample_4 rfl (fun E w9 hx => ?_) (fun v w0 hv => ?_)
  · obtain ⟨⟨v, hv, he⟩, hw⟩ := hx
    simp only [LI1, List.mem_cons, Prod.mk.injEq, List.not_mem_nil, or_false] at hv
    obtain ⟨rfl, rfl⟩ := hv
    refine v_catch C (E := xI) [] ⟨0, 9, 12, 13⟩ [] rfl (fun _ h => absurd h List.not_mem_nil) rfl (by decide) (q1 153 rfl rfl) (qn1 171 rfl rfl) (fun q9 => ?_)
    refine v_astore_n C (lv1 := [(3, .ref q9), (0, .ref x), (1, .int p0), (2, .ref o)]) dL_sample_12 rfl (by decide) rfl ?_
    refine v_iconst C (v := 1) dL_sample_13 rfl rfl ?_
    exact v_iret C (by decide) (by decide) dL_sample_14 ⟨by rw [he], Or.inl ⟨by rw [he]; decide, hw⟩⟩
  · obtain ⟨R, w2, rfl, h0, ⟨q0, f, g1, g2⟩, h2⟩ := hR _ _ hv
    show V X G 4 _ _ _ _ _ _ [.int R, .int 0, .ref o]
    refine v_i2l C dL_sample_7 rfl ?_
    refine v_last C ⟨q0, g1, g2⟩ (pk_in 0 1 (by decide)) dL_sample_8 rfl ?_
    refine v_goto C (q := 15) dL_sample_9 rfl ?_
    refine v_iconst C (v := 0) dL_sample_15 rfl rfl ?_
    exact v_iret C (by decide) (by decide) dL_sample_16 ⟨by rw [h0], Or.inr ⟨h0, h2⟩⟩

abbrev r_L_salt : Room := { frames := 9, cells := 4, slots := 24, locals := 148 }
theorem c_L_salt {l : Launch} {G : GG} {w : va_W} {x o : Nat} {p0 p1 p2 e : Int32} {fs : List Value} {R0 : Option Value → va_W → Prop} {P2 : va_W → Prop} (hst : l.stackTraces = false) (hG : GOK G) (hm : (x, Sum.inr (7, fs)) ∈ w) (hM : Mth l yX7_salt cX7_salt 5 (Option.some Jvm.ClassFile.FieldType.int) r_X7_salt G w (.ref x :: [.int p0, .int p1, .int p2]) R0 (XW (fun E => pE L3 e E) w)) (hR : ∀ v w0, R0 v w0 → ∃ (R : Int32) (w2 : va_W), v = some (.int R) ∧ e = 0 ∧ OutS G o R.toInt64 w0 w2 ∧ P2 w2) : vx_Met l yL_salt (Cond.codeWith yL_salt cL_salt 6 (some .int) [((0 : Nat), (12 : Nat), (15 : Nat), (13 : Nat)), ((0 : Nat), (12 : Nat), (19 : Nat), (15 : Nat)), ((0 : Nat), (12 : Nat), (23 : Nat), (17 : Nat))] :: wA) r_L_salt (cP G w ([.ref x, .int p0, .int p1, .int p2, .ref o])) (cQ G (fun v w1 => v = some (.int e) ∧ ((e ≠ 0 ∧ w1 = w) ∨ (e = 0 ∧ P2 w1)))) (cX G nX) (r_L_salt).cells (r_L_salt).slots (gA G) := by
  refine mth_ofH rfl (Nat.le_of_ble_eq_true rfl) hst hG (fun X hX C0 => ?_)
  subst hX
  have C : Cx X G cL_salt 6 RL (some .int) r_L_salt "salt" [⟨0, 12, 15, 13⟩, ⟨0, 12, 19, 15⟩, ⟨0, 12, 23, 17⟩] := C0
  clear C0
  show V X G 6 w 0 0 _ 0 [(0, .ref x), (1, .int p0), (2, .int p1), (3, .int p2), (4, .ref o)] []
  refine v_aload C dL_salt_0 rfl 4 rfl ?_
  refine v_iconst C (v := 0) dL_salt_2 rfl rfl ?_
  refine v_aload_n C dL_salt_3 rfl 0 rfl ?_
  refine v_iload_n C dL_salt_4 rfl 1 rfl ?_
  refine v_iload_n C dL_salt_5 rfl 2 rfl ?_
  refine v_iload_n C dL_salt_6 rfl 3 rfl ?_
  refine w_invV C [.int p0, .int p1, .int p2] 4 24 L_L_46 hM hm rfl rfl rfl rfl dL_salt_7 rfl (fun E w9 hx => ?_) (fun v w0 hv => ?_)
  · obtain ⟨⟨v, hv, he⟩, hw⟩ := hx
    simp only [L3, List.mem_cons, Prod.mk.injEq, List.not_mem_nil, or_false] at hv
    rcases hv with ⟨rfl, rfl⟩ | ⟨rfl, rfl⟩ | ⟨rfl, rfl⟩
    · skip
      refine v_catch C (E := xI) [] ⟨0, 12, 15, 13⟩ [⟨0, 12, 19, 15⟩, ⟨0, 12, 23, 17⟩] rfl (fun _ h => absurd h List.not_mem_nil) rfl (by decide) (q1 153 rfl rfl) (qn1 171 rfl rfl) (fun q9 => ?_)
      refine v_astore C (lv1 := [(5, .ref q9), (0, .ref x), (1, .int p0), (2, .int p1), (3, .int p2), (4, .ref o)]) dL_salt_15 rfl (by decide) rfl ?_
      refine v_iconst C (v := 1) dL_salt_17 rfl rfl ?_
      exact v_iret C (by decide) (by decide) dL_salt_18 ⟨by rw [he], Or.inl ⟨by rw [he]; decide, hw⟩⟩
    · skip
      refine v_catch C (E := xA) [⟨0, 12, 15, 13⟩] ⟨0, 12, 19, 15⟩ [⟨0, 12, 23, 17⟩] rfl (List.forall_mem_cons.mpr ⟨⟨by decide, _, (q1 153 rfl rfl), nc_xAxI C⟩, (fun _ h => absurd h List.not_mem_nil)⟩) rfl (by decide) (q1 154 rfl rfl) (qn2 6 rfl rfl) (fun q9 => ?_)
      refine v_astore C (lv1 := [(5, .ref q9), (0, .ref x), (1, .int p0), (2, .int p1), (3, .int p2), (4, .ref o)]) dL_salt_19 rfl (by decide) rfl ?_
      refine v_iconst C (v := 2) dL_salt_21 rfl rfl ?_
      exact v_iret C (by decide) (by decide) dL_salt_22 ⟨by rw [he], Or.inl ⟨by rw [he]; decide, hw⟩⟩
    · skip
      refine v_catch C (E := xS) [⟨0, 12, 15, 13⟩, ⟨0, 12, 19, 15⟩] ⟨0, 12, 23, 17⟩ [] rfl (List.forall_mem_cons.mpr ⟨⟨by decide, _, (q1 153 rfl rfl), nc_xSxI C⟩, (List.forall_mem_cons.mpr ⟨⟨by decide, _, (q1 154 rfl rfl), nc_xSxA C⟩, (fun _ h => absurd h List.not_mem_nil)⟩)⟩) rfl (by decide) (q1 155 rfl rfl) (qn2 25 rfl rfl) (fun q9 => ?_)
      refine v_astore C (lv1 := [(5, .ref q9), (0, .ref x), (1, .int p0), (2, .int p1), (3, .int p2), (4, .ref o)]) dL_salt_23 rfl (by decide) rfl ?_
      refine v_iconst C (v := 3) dL_salt_25 rfl rfl ?_
      exact v_iret C (by decide) (by decide) dL_salt_26 ⟨by rw [he], Or.inl ⟨by rw [he]; decide, hw⟩⟩
  · obtain ⟨R, w2, rfl, h0, ⟨q0, f, g1, g2⟩, h2⟩ := hR _ _ hv
    show V X G 6 _ _ _ _ _ _ [.int R, .int 0, .ref o]
    refine v_i2l C dL_salt_10 rfl ?_
    refine v_last C ⟨q0, g1, g2⟩ (pk_in 0 1 (by decide)) dL_salt_11 rfl ?_
    refine v_goto C (q := 27) dL_salt_12 rfl ?_
    refine v_iconst C (v := 0) dL_salt_27 rfl rfl ?_
    exact v_iret C (by decide) (by decide) dL_salt_28 ⟨by rw [h0], Or.inr ⟨h0, h2⟩⟩

abbrev r_L_brass : Room := { frames := 9, cells := 3, slots := 18, locals := 147 }
theorem c_L_brass {l : Launch} {G : GG} {w : va_W} {x o : Nat} {p0 p1 e : Int32} {fs : List Value} {R0 : Option Value → va_W → Prop} {P2 : va_W → Prop} (hst : l.stackTraces = false) (hG : GOK G) (hm : (x, Sum.inr (7, fs)) ∈ w) (hM : Mth l yX7_brass cX7_brass 4 (Option.some Jvm.ClassFile.FieldType.int) r_X7_brass G w (.ref x :: [.int p0, .int p1]) R0 (XW (fun E => pE L3 e E) w)) (hR : ∀ v w0, R0 v w0 → ∃ (R : Int32) (w2 : va_W), v = some (.int R) ∧ e = 0 ∧ OutS G o R.toInt64 w0 w2 ∧ P2 w2) : vx_Met l yL_brass (Cond.codeWith yL_brass cL_brass 5 (some .int) [((0 : Nat), (10 : Nat), (13 : Nat), (13 : Nat)), ((0 : Nat), (10 : Nat), (17 : Nat), (15 : Nat)), ((0 : Nat), (10 : Nat), (21 : Nat), (17 : Nat))] :: wA) r_L_brass (cP G w ([.ref x, .int p0, .int p1, .ref o])) (cQ G (fun v w1 => v = some (.int e) ∧ ((e ≠ 0 ∧ w1 = w) ∨ (e = 0 ∧ P2 w1)))) (cX G nX) (r_L_brass).cells (r_L_brass).slots (gA G) := by
  refine mth_ofH rfl (Nat.le_of_ble_eq_true rfl) hst hG (fun X hX C0 => ?_)
  subst hX
  have C : Cx X G cL_brass 5 RL (some .int) r_L_brass "brass" [⟨0, 10, 13, 13⟩, ⟨0, 10, 17, 15⟩, ⟨0, 10, 21, 17⟩] := C0
  clear C0
  show V X G 5 w 0 0 _ 0 [(0, .ref x), (1, .int p0), (2, .int p1), (3, .ref o)] []
  refine v_aload_n C dL_brass_0 rfl 3 rfl ?_
  refine v_iconst C (v := 0) dL_brass_1 rfl rfl ?_
  refine v_aload_n C dL_brass_2 rfl 0 rfl ?_
  refine v_iload_n C dL_brass_3 rfl 1 rfl ?_
  refine v_iload_n C dL_brass_4 rfl 2 rfl ?_
  refine w_invV C [.int p0, .int p1] 3 18 L_L_49 hM hm rfl rfl rfl rfl dL_brass_5 rfl (fun E w9 hx => ?_) (fun v w0 hv => ?_)
  · obtain ⟨⟨v, hv, he⟩, hw⟩ := hx
    simp only [L3, List.mem_cons, Prod.mk.injEq, List.not_mem_nil, or_false] at hv
    rcases hv with ⟨rfl, rfl⟩ | ⟨rfl, rfl⟩ | ⟨rfl, rfl⟩
    · skip
      refine v_catch C (E := xI) [] ⟨0, 10, 13, 13⟩ [⟨0, 10, 17, 15⟩, ⟨0, 10, 21, 17⟩] rfl (fun _ h => absurd h List.not_mem_nil) rfl (by decide) (q1 153 rfl rfl) (qn1 171 rfl rfl) (fun q9 => ?_)
      refine v_astore C (lv1 := [(4, .ref q9), (0, .ref x), (1, .int p0), (2, .int p1), (3, .ref o)]) dL_brass_13 rfl (by decide) rfl ?_
      refine v_iconst C (v := 1) dL_brass_15 rfl rfl ?_
      exact v_iret C (by decide) (by decide) dL_brass_16 ⟨by rw [he], Or.inl ⟨by rw [he]; decide, hw⟩⟩
    · skip
      refine v_catch C (E := xA) [⟨0, 10, 13, 13⟩] ⟨0, 10, 17, 15⟩ [⟨0, 10, 21, 17⟩] rfl (List.forall_mem_cons.mpr ⟨⟨by decide, _, (q1 153 rfl rfl), nc_xAxI C⟩, (fun _ h => absurd h List.not_mem_nil)⟩) rfl (by decide) (q1 154 rfl rfl) (qn2 6 rfl rfl) (fun q9 => ?_)
      refine v_astore C (lv1 := [(4, .ref q9), (0, .ref x), (1, .int p0), (2, .int p1), (3, .ref o)]) dL_brass_17 rfl (by decide) rfl ?_
      refine v_iconst C (v := 2) dL_brass_19 rfl rfl ?_
      exact v_iret C (by decide) (by decide) dL_brass_20 ⟨by rw [he], Or.inl ⟨by rw [he]; decide, hw⟩⟩
    · skip
      refine v_catch C (E := xS) [⟨0, 10, 13, 13⟩, ⟨0, 10, 17, 15⟩] ⟨0, 10, 21, 17⟩ [] rfl (List.forall_mem_cons.mpr ⟨⟨by decide, _, (q1 153 rfl rfl), nc_xSxI C⟩, (List.forall_mem_cons.mpr ⟨⟨by decide, _, (q1 154 rfl rfl), nc_xSxA C⟩, (fun _ h => absurd h List.not_mem_nil)⟩)⟩) rfl (by decide) (q1 155 rfl rfl) (qn2 25 rfl rfl) (fun q9 => ?_)
      refine v_astore C (lv1 := [(4, .ref q9), (0, .ref x), (1, .int p0), (2, .int p1), (3, .ref o)]) dL_brass_21 rfl (by decide) rfl ?_
      refine v_iconst C (v := 3) dL_brass_23 rfl rfl ?_
      exact v_iret C (by decide) (by decide) dL_brass_24 ⟨by rw [he], Or.inl ⟨by rw [he]; decide, hw⟩⟩
  · obtain ⟨R, w2, rfl, h0, ⟨q0, f, g1, g2⟩, h2⟩ := hR _ _ hv
    show V X G 5 _ _ _ _ _ _ [.int R, .int 0, .ref o]
    refine v_i2l C dL_brass_8 rfl ?_
    refine v_last C ⟨q0, g1, g2⟩ (pk_in 0 1 (by decide)) dL_brass_9 rfl ?_
    refine v_goto C (q := 25) dL_brass_10 rfl ?_
    refine v_iconst C (v := 0) dL_brass_25 rfl rfl ?_
    exact v_iret C (by decide) (by decide) dL_brass_26 ⟨by rw [h0], Or.inr ⟨h0, h2⟩⟩

abbrev r_L_sell : Room := { frames := 9, cells := 3, slots := 18, locals := 150 }
theorem c_L_sell {l : Launch} {G : GG} {w : va_W} {x o : Nat} {p0 p1 e : Int32} {fs : List Value} {R0 : Option Value → va_W → Prop} {P2 : va_W → Prop} (hst : l.stackTraces = false) (hG : GOK G) (hm : (x, Sum.inr (7, fs)) ∈ w) (hM : Mth l yX7_sell cX7_sell 7 (Option.some Jvm.ClassFile.FieldType.int) r_X7_sell G w (.ref x :: [.int p0, .int p1]) R0 (XW (fun E => pE L3 e E) w)) (hR : ∀ v w0, R0 v w0 → ∃ (R : Int32) (w2 : va_W), v = some (.int R) ∧ e = 0 ∧ OutS G o R.toInt64 w0 w2 ∧ P2 w2) : vx_Met l yL_sell (Cond.codeWith yL_sell cL_sell 5 (some .int) [((0 : Nat), (10 : Nat), (13 : Nat), (13 : Nat)), ((0 : Nat), (10 : Nat), (17 : Nat), (15 : Nat)), ((0 : Nat), (10 : Nat), (21 : Nat), (17 : Nat))] :: wA) r_L_sell (cP G w ([.ref x, .int p0, .int p1, .ref o])) (cQ G (fun v w1 => v = some (.int e) ∧ ((e ≠ 0 ∧ w1 = w) ∨ (e = 0 ∧ P2 w1)))) (cX G nX) (r_L_sell).cells (r_L_sell).slots (gA G) := by
  refine mth_ofH rfl (Nat.le_of_ble_eq_true rfl) hst hG (fun X hX C0 => ?_)
  subst hX
  have C : Cx X G cL_sell 5 RL (some .int) r_L_sell "sell" [⟨0, 10, 13, 13⟩, ⟨0, 10, 17, 15⟩, ⟨0, 10, 21, 17⟩] := C0
  clear C0
  show V X G 5 w 0 0 _ 0 [(0, .ref x), (1, .int p0), (2, .int p1), (3, .ref o)] []
  refine v_aload_n C dL_sell_0 rfl 3 rfl ?_
  refine v_iconst C (v := 0) dL_sell_1 rfl rfl ?_
  refine v_aload_n C dL_sell_2 rfl 0 rfl ?_
  refine v_iload_n C dL_sell_3 rfl 1 rfl ?_
  refine v_iload_n C dL_sell_4 rfl 2 rfl ?_
  refine w_invV C [.int p0, .int p1] 3 18 L_L_52 hM hm rfl rfl rfl rfl dL_sell_5 rfl (fun E w9 hx => ?_) (fun v w0 hv => ?_)
  · obtain ⟨⟨v, hv, he⟩, hw⟩ := hx
    simp only [L3, List.mem_cons, Prod.mk.injEq, List.not_mem_nil, or_false] at hv
    rcases hv with ⟨rfl, rfl⟩ | ⟨rfl, rfl⟩ | ⟨rfl, rfl⟩
    · skip
      refine v_catch C (E := xI) [] ⟨0, 10, 13, 13⟩ [⟨0, 10, 17, 15⟩, ⟨0, 10, 21, 17⟩] rfl (fun _ h => absurd h List.not_mem_nil) rfl (by decide) (q1 153 rfl rfl) (qn1 171 rfl rfl) (fun q9 => ?_)
      refine v_astore C (lv1 := [(4, .ref q9), (0, .ref x), (1, .int p0), (2, .int p1), (3, .ref o)]) dL_sell_13 rfl (by decide) rfl ?_
      refine v_iconst C (v := 1) dL_sell_15 rfl rfl ?_
      exact v_iret C (by decide) (by decide) dL_sell_16 ⟨by rw [he], Or.inl ⟨by rw [he]; decide, hw⟩⟩
    · skip
      refine v_catch C (E := xA) [⟨0, 10, 13, 13⟩] ⟨0, 10, 17, 15⟩ [⟨0, 10, 21, 17⟩] rfl (List.forall_mem_cons.mpr ⟨⟨by decide, _, (q1 153 rfl rfl), nc_xAxI C⟩, (fun _ h => absurd h List.not_mem_nil)⟩) rfl (by decide) (q1 154 rfl rfl) (qn2 6 rfl rfl) (fun q9 => ?_)
      refine v_astore C (lv1 := [(4, .ref q9), (0, .ref x), (1, .int p0), (2, .int p1), (3, .ref o)]) dL_sell_17 rfl (by decide) rfl ?_
      refine v_iconst C (v := 2) dL_sell_19 rfl rfl ?_
      exact v_iret C (by decide) (by decide) dL_sell_20 ⟨by rw [he], Or.inl ⟨by rw [he]; decide, hw⟩⟩
    · skip
      refine v_catch C (E := xS) [⟨0, 10, 13, 13⟩, ⟨0, 10, 17, 15⟩] ⟨0, 10, 21, 17⟩ [] rfl (List.forall_mem_cons.mpr ⟨⟨by decide, _, (q1 153 rfl rfl), nc_xSxI C⟩, (List.forall_mem_cons.mpr ⟨⟨by decide, _, (q1 154 rfl rfl), nc_xSxA C⟩, (fun _ h => absurd h List.not_mem_nil)⟩)⟩) rfl (by decide) (q1 155 rfl rfl) (qn2 25 rfl rfl) (fun q9 => ?_)
      refine v_astore C (lv1 := [(4, .ref q9), (0, .ref x), (1, .int p0), (2, .int p1), (3, .ref o)]) dL_sell_21 rfl (by decide) rfl ?_
      refine v_iconst C (v := 3) dL_sell_23 rfl rfl ?_
      exact v_iret C (by decide) (by decide) dL_sell_24 ⟨by rw [he], Or.inl ⟨by rw [he]; decide, hw⟩⟩
  · obtain ⟨R, w2, rfl, h0, ⟨q0, f, g1, g2⟩, h2⟩ := hR _ _ hv
    show V X G 5 _ _ _ _ _ _ [.int R, .int 0, .ref o]
    refine v_i2l C dL_sell_8 rfl ?_
    refine v_last C ⟨q0, g1, g2⟩ (pk_in 0 1 (by decide)) dL_sell_9 rfl ?_
    refine v_goto C (q := 25) dL_sell_10 rfl ?_
    refine v_iconst C (v := 0) dL_sell_25 rfl rfl ?_
    exact v_iret C (by decide) (by decide) dL_sell_26 ⟨by rw [h0], Or.inr ⟨h0, h2⟩⟩

abbrev r_L_rate : Room := { frames := 9, cells := 1, slots := 6, locals := 146 }
theorem c_L_rate {l : Launch} {G : GG} {w : va_W} {x o : Nat} {p0 e : Int32} {fs : List Value} {R0 : Option Value → va_W → Prop} {P2 : va_W → Prop} (hst : l.stackTraces = false) (hG : GOK G) (hm : (x, Sum.inr (7, fs)) ∈ w) (hM : Mth l yX7_rate cX7_rate 3 (Option.some Jvm.ClassFile.FieldType.int) r_X7_rate G w (.ref x :: [.int p0]) R0 (XW (fun E => pE LA e E) w)) (hR : ∀ v w0, R0 v w0 → ∃ (R : Int32) (w2 : va_W), v = some (.int R) ∧ e = 0 ∧ OutS G o R.toInt64 w0 w2 ∧ P2 w2) : vx_Met l yL_rate (Cond.codeWith yL_rate cL_rate 4 (some .int) [((0 : Nat), (9 : Nat), (12 : Nat), (15 : Nat))] :: wA) r_L_rate (cP G w ([.ref x, .int p0, .ref o])) (cQ G (fun v w1 => v = some (.int e) ∧ ((e ≠ 0 ∧ w1 = w) ∨ (e = 0 ∧ P2 w1)))) (cX G nX) (r_L_rate).cells (r_L_rate).slots (gA G) := by
  refine mth_ofH rfl (Nat.le_of_ble_eq_true rfl) hst hG (fun X hX C0 => ?_)
  subst hX
  have C : Cx X G cL_rate 4 RL (some .int) r_L_rate "rate" [⟨0, 9, 12, 15⟩] := C0
  clear C0
  show V X G 4 w 0 0 _ 0 [(0, .ref x), (1, .int p0), (2, .ref o)] []
  refine v_aload_n C dL_rate_0 rfl 2 rfl ?_
  refine v_iconst C (v := 0) dL_rate_1 rfl rfl ?_
  refine v_aload_n C dL_rate_2 rfl 0 rfl ?_
  refine v_iload_n C dL_rate_3 rfl 1 rfl ?_
  refine w_invV C [.int p0] 1 6 L_L_55 hM hm rfl rfl rfl rfl dL_rate_4 rfl (fun E w9 hx => ?_) (fun v w0 hv => ?_)
  · obtain ⟨⟨v, hv, he⟩, hw⟩ := hx
    simp only [LA, List.mem_cons, Prod.mk.injEq, List.not_mem_nil, or_false] at hv
    obtain ⟨rfl, rfl⟩ := hv
    refine v_catch C (E := xA) [] ⟨0, 9, 12, 15⟩ [] rfl (fun _ h => absurd h List.not_mem_nil) rfl (by decide) (q1 154 rfl rfl) (qn2 6 rfl rfl) (fun q9 => ?_)
    refine v_astore_n C (lv1 := [(3, .ref q9), (0, .ref x), (1, .int p0), (2, .ref o)]) dL_rate_12 rfl (by decide) rfl ?_
    refine v_iconst C (v := 1) dL_rate_13 rfl rfl ?_
    exact v_iret C (by decide) (by decide) dL_rate_14 ⟨by rw [he], Or.inl ⟨by rw [he]; decide, hw⟩⟩
  · obtain ⟨R, w2, rfl, h0, ⟨q0, f, g1, g2⟩, h2⟩ := hR _ _ hv
    show V X G 4 _ _ _ _ _ _ [.int R, .int 0, .ref o]
    refine v_i2l C dL_rate_7 rfl ?_
    refine v_last C ⟨q0, g1, g2⟩ (pk_in 0 1 (by decide)) dL_rate_8 rfl ?_
    refine v_goto C (q := 15) dL_rate_9 rfl ?_
    refine v_iconst C (v := 0) dL_rate_15 rfl rfl ?_
    exact v_iret C (by decide) (by decide) dL_rate_16 ⟨by rw [h0], Or.inr ⟨h0, h2⟩⟩

abbrev r_L_freight : Room := { frames := 9, cells := 3, slots := 18, locals := 146 }
theorem c_L_freight {l : Launch} {G : GG} {w : va_W} {x o : Nat} {p0 p1 e : Int32} {fs : List Value} {R0 : Option Value → va_W → Prop} {P2 : va_W → Prop} (hst : l.stackTraces = false) (hG : GOK G) (hm : (x, Sum.inr (7, fs)) ∈ w) (hM : Mth l yX7_freight cX7_freight 3 none r_X7_freight G w (.ref x :: [.int p0, .int p1]) R0 (XW (fun E => pE LAS e E) w)) (hR : ∀ v w0, R0 v w0 → v = none ∧ e = 0 ∧ P2 w0) : vx_Met l yL_freight (Cond.codeWith yL_freight cL_freight 4 (some .int) [((0 : Nat), (6 : Nat), (9 : Nat), (15 : Nat)), ((0 : Nat), (6 : Nat), (12 : Nat), (17 : Nat))] :: wA) r_L_freight (cP G w ([.ref x, .int p0, .int p1])) (cQ G (fun v w1 => v = some (.int e) ∧ ((e ≠ 0 ∧ w1 = w) ∨ (e = 0 ∧ P2 w1)))) (cX G nX) (r_L_freight).cells (r_L_freight).slots (gA G) := by
  refine mth_ofH rfl (Nat.le_of_ble_eq_true rfl) hst hG (fun X hX C0 => ?_)
  subst hX
  have C : Cx X G cL_freight 4 RL (some .int) r_L_freight "freight" [⟨0, 6, 9, 15⟩, ⟨0, 6, 12, 17⟩] := C0
  clear C0
  show V X G 4 w 0 0 _ 0 [(0, .ref x), (1, .int p0), (2, .int p1)] []
  refine v_aload_n C dL_freight_0 rfl 0 rfl ?_
  refine v_iload_n C dL_freight_1 rfl 1 rfl ?_
  refine v_iload_n C dL_freight_2 rfl 2 rfl ?_
  refine w_invV C [.int p0, .int p1] 3 18 L_L_58 hM hm rfl rfl rfl rfl dL_freight_3 rfl (fun E w9 hx => ?_) (fun v w0 hv => ?_)
  · obtain ⟨⟨v, hv, he⟩, hw⟩ := hx
    simp only [LAS, List.mem_cons, Prod.mk.injEq, List.not_mem_nil, or_false] at hv
    rcases hv with ⟨rfl, rfl⟩ | ⟨rfl, rfl⟩
    · skip
      refine v_catch C (E := xA) [] ⟨0, 6, 9, 15⟩ [⟨0, 6, 12, 17⟩] rfl (fun _ h => absurd h List.not_mem_nil) rfl (by decide) (q1 154 rfl rfl) (qn2 6 rfl rfl) (fun q9 => ?_)
      refine v_astore_n C (lv1 := [(3, .ref q9), (0, .ref x), (1, .int p0), (2, .int p1)]) dL_freight_9 rfl (by decide) rfl ?_
      refine v_iconst C (v := 1) dL_freight_10 rfl rfl ?_
      exact v_iret C (by decide) (by decide) dL_freight_11 ⟨by rw [he], Or.inl ⟨by rw [he]; decide, hw⟩⟩
    · skip
      refine v_catch C (E := xS) [⟨0, 6, 9, 15⟩] ⟨0, 6, 12, 17⟩ [] rfl (List.forall_mem_cons.mpr ⟨⟨by decide, _, (q1 154 rfl rfl), nc_xSxA C⟩, (fun _ h => absurd h List.not_mem_nil)⟩) rfl (by decide) (q1 155 rfl rfl) (qn2 25 rfl rfl) (fun q9 => ?_)
      refine v_astore_n C (lv1 := [(3, .ref q9), (0, .ref x), (1, .int p0), (2, .int p1)]) dL_freight_12 rfl (by decide) rfl ?_
      refine v_iconst C (v := 2) dL_freight_13 rfl rfl ?_
      exact v_iret C (by decide) (by decide) dL_freight_14 ⟨by rw [he], Or.inl ⟨by rw [he]; decide, hw⟩⟩
  · obtain ⟨rfl, h0, h2⟩ := hR _ _ hv
    show V X G 4 _ _ _ _ _ _ []
    refine v_goto C (q := 15) dL_freight_6 rfl ?_
    refine v_iconst C (v := 0) dL_freight_15 rfl rfl ?_
    exact v_iret C (by decide) (by decide) dL_freight_16 ⟨by rw [h0], Or.inr ⟨h0, h2⟩⟩

abbrev r_L_buy : Room := { frames := 9, cells := 3, slots := 18, locals := 148 }
theorem c_L_buy {l : Launch} {G : GG} {w : va_W} {x o : Nat} {p0 p1 e : Int32} {fs : List Value} {R0 : Option Value → va_W → Prop} {P2 : va_W → Prop} (hst : l.stackTraces = false) (hG : GOK G) (hm : (x, Sum.inr (7, fs)) ∈ w) (hM : Mth l yX7_buy cX7_buy 5 (Option.some Jvm.ClassFile.FieldType.int) r_X7_buy G w (.ref x :: [.int p0, .int p1]) R0 (XW (fun E => pE L3 e E) w)) (hR : ∀ v w0, R0 v w0 → ∃ (R : Int32) (w2 : va_W), v = some (.int R) ∧ e = 0 ∧ OutS G o R.toInt64 w0 w2 ∧ P2 w2) : vx_Met l yL_buy (Cond.codeWith yL_buy cL_buy 5 (some .int) [((0 : Nat), (10 : Nat), (13 : Nat), (13 : Nat)), ((0 : Nat), (10 : Nat), (17 : Nat), (15 : Nat)), ((0 : Nat), (10 : Nat), (21 : Nat), (17 : Nat))] :: wA) r_L_buy (cP G w ([.ref x, .int p0, .int p1, .ref o])) (cQ G (fun v w1 => v = some (.int e) ∧ ((e ≠ 0 ∧ w1 = w) ∨ (e = 0 ∧ P2 w1)))) (cX G nX) (r_L_buy).cells (r_L_buy).slots (gA G) := by
  refine mth_ofH rfl (Nat.le_of_ble_eq_true rfl) hst hG (fun X hX C0 => ?_)
  subst hX
  have C : Cx X G cL_buy 5 RL (some .int) r_L_buy "buy" [⟨0, 10, 13, 13⟩, ⟨0, 10, 17, 15⟩, ⟨0, 10, 21, 17⟩] := C0
  clear C0
  show V X G 5 w 0 0 _ 0 [(0, .ref x), (1, .int p0), (2, .int p1), (3, .ref o)] []
  refine v_aload_n C dL_buy_0 rfl 3 rfl ?_
  refine v_iconst C (v := 0) dL_buy_1 rfl rfl ?_
  refine v_aload_n C dL_buy_2 rfl 0 rfl ?_
  refine v_iload_n C dL_buy_3 rfl 1 rfl ?_
  refine v_iload_n C dL_buy_4 rfl 2 rfl ?_
  refine w_invV C [.int p0, .int p1] 3 18 L_L_62 hM hm rfl rfl rfl rfl dL_buy_5 rfl (fun E w9 hx => ?_) (fun v w0 hv => ?_)
  · obtain ⟨⟨v, hv, he⟩, hw⟩ := hx
    simp only [L3, List.mem_cons, Prod.mk.injEq, List.not_mem_nil, or_false] at hv
    rcases hv with ⟨rfl, rfl⟩ | ⟨rfl, rfl⟩ | ⟨rfl, rfl⟩
    · skip
      refine v_catch C (E := xI) [] ⟨0, 10, 13, 13⟩ [⟨0, 10, 17, 15⟩, ⟨0, 10, 21, 17⟩] rfl (fun _ h => absurd h List.not_mem_nil) rfl (by decide) (q1 153 rfl rfl) (qn1 171 rfl rfl) (fun q9 => ?_)
      refine v_astore C (lv1 := [(4, .ref q9), (0, .ref x), (1, .int p0), (2, .int p1), (3, .ref o)]) dL_buy_13 rfl (by decide) rfl ?_
      refine v_iconst C (v := 1) dL_buy_15 rfl rfl ?_
      exact v_iret C (by decide) (by decide) dL_buy_16 ⟨by rw [he], Or.inl ⟨by rw [he]; decide, hw⟩⟩
    · skip
      refine v_catch C (E := xA) [⟨0, 10, 13, 13⟩] ⟨0, 10, 17, 15⟩ [⟨0, 10, 21, 17⟩] rfl (List.forall_mem_cons.mpr ⟨⟨by decide, _, (q1 153 rfl rfl), nc_xAxI C⟩, (fun _ h => absurd h List.not_mem_nil)⟩) rfl (by decide) (q1 154 rfl rfl) (qn2 6 rfl rfl) (fun q9 => ?_)
      refine v_astore C (lv1 := [(4, .ref q9), (0, .ref x), (1, .int p0), (2, .int p1), (3, .ref o)]) dL_buy_17 rfl (by decide) rfl ?_
      refine v_iconst C (v := 2) dL_buy_19 rfl rfl ?_
      exact v_iret C (by decide) (by decide) dL_buy_20 ⟨by rw [he], Or.inl ⟨by rw [he]; decide, hw⟩⟩
    · skip
      refine v_catch C (E := xS) [⟨0, 10, 13, 13⟩, ⟨0, 10, 17, 15⟩] ⟨0, 10, 21, 17⟩ [] rfl (List.forall_mem_cons.mpr ⟨⟨by decide, _, (q1 153 rfl rfl), nc_xSxI C⟩, (List.forall_mem_cons.mpr ⟨⟨by decide, _, (q1 154 rfl rfl), nc_xSxA C⟩, (fun _ h => absurd h List.not_mem_nil)⟩)⟩) rfl (by decide) (q1 155 rfl rfl) (qn2 25 rfl rfl) (fun q9 => ?_)
      refine v_astore C (lv1 := [(4, .ref q9), (0, .ref x), (1, .int p0), (2, .int p1), (3, .ref o)]) dL_buy_21 rfl (by decide) rfl ?_
      refine v_iconst C (v := 3) dL_buy_23 rfl rfl ?_
      exact v_iret C (by decide) (by decide) dL_buy_24 ⟨by rw [he], Or.inl ⟨by rw [he]; decide, hw⟩⟩
  · obtain ⟨R, w2, rfl, h0, ⟨q0, f, g1, g2⟩, h2⟩ := hR _ _ hv
    show V X G 5 _ _ _ _ _ _ [.int R, .int 0, .ref o]
    refine v_i2l C dL_buy_8 rfl ?_
    refine v_last C ⟨q0, g1, g2⟩ (pk_in 0 1 (by decide)) dL_buy_9 rfl ?_
    refine v_goto C (q := 25) dL_buy_10 rfl ?_
    refine v_iconst C (v := 0) dL_buy_25 rfl rfl ?_
    exact v_iret C (by decide) (by decide) dL_buy_26 ⟨by rw [h0], Or.inr ⟨h0, h2⟩⟩

abbrev r_L_back : Room := { frames := 9, cells := 6, slots := 36, locals := 150 }
theorem c_L_back {l : Launch} {G : GG} {w : va_W} {x o : Nat} {p0 p1 p2 p3 e : Int32} {fs : List Value} {R0 : Option Value → va_W → Prop} {P2 : va_W → Prop} (hst : l.stackTraces = false) (hG : GOK G) (hm : (x, Sum.inr (7, fs)) ∈ w) (hM : Mth l yX7_back cX7_back 7 none r_X7_back G w (.ref x :: [.int p0, .int p1, .int p2, .int p3]) R0 (XW (fun E => pE L3 e E) w)) (hR : ∀ v w0, R0 v w0 → v = none ∧ e = 0 ∧ P2 w0) : vx_Met l yL_back (Cond.codeWith yL_back cL_back 6 (some .int) [((0 : Nat), (9 : Nat), (12 : Nat), (13 : Nat)), ((0 : Nat), (9 : Nat), (16 : Nat), (15 : Nat)), ((0 : Nat), (9 : Nat), (20 : Nat), (17 : Nat))] :: wA) r_L_back (cP G w ([.ref x, .int p0, .int p1, .int p2, .int p3])) (cQ G (fun v w1 => v = some (.int e) ∧ ((e ≠ 0 ∧ w1 = w) ∨ (e = 0 ∧ P2 w1)))) (cX G nX) (r_L_back).cells (r_L_back).slots (gA G) := by
  refine mth_ofH rfl (Nat.le_of_ble_eq_true rfl) hst hG (fun X hX C0 => ?_)
  subst hX
  have C : Cx X G cL_back 6 RL (some .int) r_L_back "back" [⟨0, 9, 12, 13⟩, ⟨0, 9, 16, 15⟩, ⟨0, 9, 20, 17⟩] := C0
  clear C0
  show V X G 6 w 0 0 _ 0 [(0, .ref x), (1, .int p0), (2, .int p1), (3, .int p2), (4, .int p3)] []
  refine v_aload_n C dL_back_0 rfl 0 rfl ?_
  refine v_iload_n C dL_back_1 rfl 1 rfl ?_
  refine v_iload_n C dL_back_2 rfl 2 rfl ?_
  refine v_iload_n C dL_back_3 rfl 3 rfl ?_
  refine v_iload C dL_back_4 rfl 4 rfl ?_
  refine w_invV C [.int p0, .int p1, .int p2, .int p3] 6 36 L_L_65 hM hm rfl rfl rfl rfl dL_back_6 rfl (fun E w9 hx => ?_) (fun v w0 hv => ?_)
  · obtain ⟨⟨v, hv, he⟩, hw⟩ := hx
    simp only [L3, List.mem_cons, Prod.mk.injEq, List.not_mem_nil, or_false] at hv
    rcases hv with ⟨rfl, rfl⟩ | ⟨rfl, rfl⟩ | ⟨rfl, rfl⟩
    · skip
      refine v_catch C (E := xI) [] ⟨0, 9, 12, 13⟩ [⟨0, 9, 16, 15⟩, ⟨0, 9, 20, 17⟩] rfl (fun _ h => absurd h List.not_mem_nil) rfl (by decide) (q1 153 rfl rfl) (qn1 171 rfl rfl) (fun q9 => ?_)
      refine v_astore C (lv1 := [(5, .ref q9), (0, .ref x), (1, .int p0), (2, .int p1), (3, .int p2), (4, .int p3)]) dL_back_12 rfl (by decide) rfl ?_
      refine v_iconst C (v := 1) dL_back_14 rfl rfl ?_
      exact v_iret C (by decide) (by decide) dL_back_15 ⟨by rw [he], Or.inl ⟨by rw [he]; decide, hw⟩⟩
    · skip
      refine v_catch C (E := xA) [⟨0, 9, 12, 13⟩] ⟨0, 9, 16, 15⟩ [⟨0, 9, 20, 17⟩] rfl (List.forall_mem_cons.mpr ⟨⟨by decide, _, (q1 153 rfl rfl), nc_xAxI C⟩, (fun _ h => absurd h List.not_mem_nil)⟩) rfl (by decide) (q1 154 rfl rfl) (qn2 6 rfl rfl) (fun q9 => ?_)
      refine v_astore C (lv1 := [(5, .ref q9), (0, .ref x), (1, .int p0), (2, .int p1), (3, .int p2), (4, .int p3)]) dL_back_16 rfl (by decide) rfl ?_
      refine v_iconst C (v := 2) dL_back_18 rfl rfl ?_
      exact v_iret C (by decide) (by decide) dL_back_19 ⟨by rw [he], Or.inl ⟨by rw [he]; decide, hw⟩⟩
    · skip
      refine v_catch C (E := xS) [⟨0, 9, 12, 13⟩, ⟨0, 9, 16, 15⟩] ⟨0, 9, 20, 17⟩ [] rfl (List.forall_mem_cons.mpr ⟨⟨by decide, _, (q1 153 rfl rfl), nc_xSxI C⟩, (List.forall_mem_cons.mpr ⟨⟨by decide, _, (q1 154 rfl rfl), nc_xSxA C⟩, (fun _ h => absurd h List.not_mem_nil)⟩)⟩) rfl (by decide) (q1 155 rfl rfl) (qn2 25 rfl rfl) (fun q9 => ?_)
      refine v_astore C (lv1 := [(5, .ref q9), (0, .ref x), (1, .int p0), (2, .int p1), (3, .int p2), (4, .int p3)]) dL_back_20 rfl (by decide) rfl ?_
      refine v_iconst C (v := 3) dL_back_22 rfl rfl ?_
      exact v_iret C (by decide) (by decide) dL_back_23 ⟨by rw [he], Or.inl ⟨by rw [he]; decide, hw⟩⟩
  · obtain ⟨rfl, h0, h2⟩ := hR _ _ hv
    show V X G 6 _ _ _ _ _ _ []
    refine v_goto C (q := 24) dL_back_9 rfl ?_
    refine v_iconst C (v := 0) dL_back_24 rfl rfl ?_
    exact v_iret C (by decide) (by decide) dL_back_25 ⟨by rw [h0], Or.inr ⟨h0, h2⟩⟩

abbrev r_L_end : Room := { frames := 8, cells := 3, slots := 18, locals := 127 }
theorem c_L_end {l : Launch} {G : GG} {w : va_W} {x o : Nat} {p0 p1 e : Int32} {fs : List Value} {R0 : Option Value → va_W → Prop} {P2 : va_W → Prop} (hst : l.stackTraces = false) (hG : GOK G) (hm : (x, Sum.inr (7, fs)) ∈ w) (hM : Mth l yX7_end cX7_end 5 (Option.some Jvm.ClassFile.FieldType.int) r_X7_end G w (.ref x :: [.int p0, .int p1]) R0 (XW (fun E => pE LIS e E) w)) (hR : ∀ v w0, R0 v w0 → ∃ (R : Int32) (w2 : va_W), v = some (.int R) ∧ e = 0 ∧ OutS G o R.toInt64 w0 w2 ∧ P2 w2) : vx_Met l yL_end (Cond.codeWith yL_end cL_end 5 (some .int) [((0 : Nat), (10 : Nat), (13 : Nat), (13 : Nat)), ((0 : Nat), (10 : Nat), (17 : Nat), (17 : Nat))] :: wA) r_L_end (cP G w ([.ref x, .int p0, .int p1, .ref o])) (cQ G (fun v w1 => v = some (.int e) ∧ ((e ≠ 0 ∧ w1 = w) ∨ (e = 0 ∧ P2 w1)))) (cX G nX) (r_L_end).cells (r_L_end).slots (gA G) := by
  refine mth_ofH rfl (Nat.le_of_ble_eq_true rfl) hst hG (fun X hX C0 => ?_)
  subst hX
  have C : Cx X G cL_end 5 RL (some .int) r_L_end "end" [⟨0, 10, 13, 13⟩, ⟨0, 10, 17, 17⟩] := C0
  clear C0
  show V X G 5 w 0 0 _ 0 [(0, .ref x), (1, .int p0), (2, .int p1), (3, .ref o)] []
  refine v_aload_n C dL_end_0 rfl 3 rfl ?_
  refine v_iconst C (v := 0) dL_end_1 rfl rfl ?_
  refine v_aload_n C dL_end_2 rfl 0 rfl ?_
  refine v_iload_n C dL_end_3 rfl 1 rfl ?_
  refine v_iload_n C dL_end_4 rfl 2 rfl ?_
  refine w_invV C [.int p0, .int p1] 3 18 L_L_69 hM hm rfl rfl rfl rfl dL_end_5 rfl (fun E w9 hx => ?_) (fun v w0 hv => ?_)
  · obtain ⟨⟨v, hv, he⟩, hw⟩ := hx
    simp only [LIS, List.mem_cons, Prod.mk.injEq, List.not_mem_nil, or_false] at hv
    rcases hv with ⟨rfl, rfl⟩ | ⟨rfl, rfl⟩
    · skip
      refine v_catch C (E := xI) [] ⟨0, 10, 13, 13⟩ [⟨0, 10, 17, 17⟩] rfl (fun _ h => absurd h List.not_mem_nil) rfl (by decide) (q1 153 rfl rfl) (qn1 171 rfl rfl) (fun q9 => ?_)
      refine v_astore C (lv1 := [(4, .ref q9), (0, .ref x), (1, .int p0), (2, .int p1), (3, .ref o)]) dL_end_13 rfl (by decide) rfl ?_
      refine v_iconst C (v := 1) dL_end_15 rfl rfl ?_
      exact v_iret C (by decide) (by decide) dL_end_16 ⟨by rw [he], Or.inl ⟨by rw [he]; decide, hw⟩⟩
    · skip
      refine v_catch C (E := xS) [⟨0, 10, 13, 13⟩] ⟨0, 10, 17, 17⟩ [] rfl (List.forall_mem_cons.mpr ⟨⟨by decide, _, (q1 153 rfl rfl), nc_xSxI C⟩, (fun _ h => absurd h List.not_mem_nil)⟩) rfl (by decide) (q1 155 rfl rfl) (qn2 25 rfl rfl) (fun q9 => ?_)
      refine v_astore C (lv1 := [(4, .ref q9), (0, .ref x), (1, .int p0), (2, .int p1), (3, .ref o)]) dL_end_17 rfl (by decide) rfl ?_
      refine v_iconst C (v := 2) dL_end_19 rfl rfl ?_
      exact v_iret C (by decide) (by decide) dL_end_20 ⟨by rw [he], Or.inl ⟨by rw [he]; decide, hw⟩⟩
  · obtain ⟨R, w2, rfl, h0, ⟨q0, f, g1, g2⟩, h2⟩ := hR _ _ hv
    show V X G 5 _ _ _ _ _ _ [.int R, .int 0, .ref o]
    refine v_i2l C dL_end_8 rfl ?_
    refine v_last C ⟨q0, g1, g2⟩ (pk_in 0 1 (by decide)) dL_end_9 rfl ?_
    refine v_goto C (q := 21) dL_end_10 rfl ?_
    refine v_iconst C (v := 0) dL_end_21 rfl rfl ?_
    exact v_iret C (by decide) (by decide) dL_end_22 ⟨by rw [h0], Or.inr ⟨h0, h2⟩⟩

abbrev r_L_trade : Room := { frames := 9, cells := 6, slots := 36, locals := 152 }
theorem c_L_trade {l : Launch} {G : GG} {w : va_W} {x o : Nat} {p0 p1 p2 e : Int32} {fs : List Value} {R0 : Option Value → va_W → Prop} {P2 : va_W → Prop} (hst : l.stackTraces = false) (hG : GOK G) (hm : (x, Sum.inr (7, fs)) ∈ w) (hM : Mth l yX7_trade cX7_trade 9 (Option.some Jvm.ClassFile.FieldType.int) r_X7_trade G w (.ref x :: [.int p0, .int p1, .int p2]) R0 (XW (fun E => pE L3 e E) w)) (hR : ∀ v w0, R0 v w0 → ∃ (R : Int32) (w2 : va_W), v = some (.int R) ∧ e = 0 ∧ OutS G o R.toInt64 w0 w2 ∧ P2 w2) : vx_Met l yL_trade (Cond.codeWith yL_trade cL_trade 6 (some .int) [((0 : Nat), (12 : Nat), (15 : Nat), (13 : Nat)), ((0 : Nat), (12 : Nat), (19 : Nat), (15 : Nat)), ((0 : Nat), (12 : Nat), (23 : Nat), (17 : Nat))] :: wA) r_L_trade (cP G w ([.ref x, .int p0, .int p1, .int p2, .ref o])) (cQ G (fun v w1 => v = some (.int e) ∧ ((e ≠ 0 ∧ w1 = w) ∨ (e = 0 ∧ P2 w1)))) (cX G nX) (r_L_trade).cells (r_L_trade).slots (gA G) := by
  refine mth_ofH rfl (Nat.le_of_ble_eq_true rfl) hst hG (fun X hX C0 => ?_)
  subst hX
  have C : Cx X G cL_trade 6 RL (some .int) r_L_trade "trade" [⟨0, 12, 15, 13⟩, ⟨0, 12, 19, 15⟩, ⟨0, 12, 23, 17⟩] := C0
  clear C0
  show V X G 6 w 0 0 _ 0 [(0, .ref x), (1, .int p0), (2, .int p1), (3, .int p2), (4, .ref o)] []
  refine v_aload C dL_trade_0 rfl 4 rfl ?_
  refine v_iconst C (v := 0) dL_trade_2 rfl rfl ?_
  refine v_aload_n C dL_trade_3 rfl 0 rfl ?_
  refine v_iload_n C dL_trade_4 rfl 1 rfl ?_
  refine v_iload_n C dL_trade_5 rfl 2 rfl ?_
  refine v_iload_n C dL_trade_6 rfl 3 rfl ?_
  refine w_invV C [.int p0, .int p1, .int p2] 6 36 L_L_72 hM hm rfl rfl rfl rfl dL_trade_7 rfl (fun E w9 hx => ?_) (fun v w0 hv => ?_)
  · obtain ⟨⟨v, hv, he⟩, hw⟩ := hx
    simp only [L3, List.mem_cons, Prod.mk.injEq, List.not_mem_nil, or_false] at hv
    rcases hv with ⟨rfl, rfl⟩ | ⟨rfl, rfl⟩ | ⟨rfl, rfl⟩
    · skip
      refine v_catch C (E := xI) [] ⟨0, 12, 15, 13⟩ [⟨0, 12, 19, 15⟩, ⟨0, 12, 23, 17⟩] rfl (fun _ h => absurd h List.not_mem_nil) rfl (by decide) (q1 153 rfl rfl) (qn1 171 rfl rfl) (fun q9 => ?_)
      refine v_astore C (lv1 := [(5, .ref q9), (0, .ref x), (1, .int p0), (2, .int p1), (3, .int p2), (4, .ref o)]) dL_trade_15 rfl (by decide) rfl ?_
      refine v_iconst C (v := 1) dL_trade_17 rfl rfl ?_
      exact v_iret C (by decide) (by decide) dL_trade_18 ⟨by rw [he], Or.inl ⟨by rw [he]; decide, hw⟩⟩
    · skip
      refine v_catch C (E := xA) [⟨0, 12, 15, 13⟩] ⟨0, 12, 19, 15⟩ [⟨0, 12, 23, 17⟩] rfl (List.forall_mem_cons.mpr ⟨⟨by decide, _, (q1 153 rfl rfl), nc_xAxI C⟩, (fun _ h => absurd h List.not_mem_nil)⟩) rfl (by decide) (q1 154 rfl rfl) (qn2 6 rfl rfl) (fun q9 => ?_)
      refine v_astore C (lv1 := [(5, .ref q9), (0, .ref x), (1, .int p0), (2, .int p1), (3, .int p2), (4, .ref o)]) dL_trade_19 rfl (by decide) rfl ?_
      refine v_iconst C (v := 2) dL_trade_21 rfl rfl ?_
      exact v_iret C (by decide) (by decide) dL_trade_22 ⟨by rw [he], Or.inl ⟨by rw [he]; decide, hw⟩⟩
    · skip
      refine v_catch C (E := xS) [⟨0, 12, 15, 13⟩, ⟨0, 12, 19, 15⟩] ⟨0, 12, 23, 17⟩ [] rfl (List.forall_mem_cons.mpr ⟨⟨by decide, _, (q1 153 rfl rfl), nc_xSxI C⟩, (List.forall_mem_cons.mpr ⟨⟨by decide, _, (q1 154 rfl rfl), nc_xSxA C⟩, (fun _ h => absurd h List.not_mem_nil)⟩)⟩) rfl (by decide) (q1 155 rfl rfl) (qn2 25 rfl rfl) (fun q9 => ?_)
      refine v_astore C (lv1 := [(5, .ref q9), (0, .ref x), (1, .int p0), (2, .int p1), (3, .int p2), (4, .ref o)]) dL_trade_23 rfl (by decide) rfl ?_
      refine v_iconst C (v := 3) dL_trade_25 rfl rfl ?_
      exact v_iret C (by decide) (by decide) dL_trade_26 ⟨by rw [he], Or.inl ⟨by rw [he]; decide, hw⟩⟩
  · obtain ⟨R, w2, rfl, h0, ⟨q0, f, g1, g2⟩, h2⟩ := hR _ _ hv
    show V X G 6 _ _ _ _ _ _ [.int R, .int 0, .ref o]
    refine v_i2l C dL_trade_10 rfl ?_
    refine v_last C ⟨q0, g1, g2⟩ (pk_in 0 1 (by decide)) dL_trade_11 rfl ?_
    refine v_goto C (q := 27) dL_trade_12 rfl ?_
    refine v_iconst C (v := 0) dL_trade_27 rfl rfl ?_
    exact v_iret C (by decide) (by decide) dL_trade_28 ⟨by rw [h0], Or.inr ⟨h0, h2⟩⟩

abbrev r_L_suit : Room := { frames := 8, cells := 4, slots := 24, locals := 128 }
theorem c_L_suit {l : Launch} {G : GG} {w : va_W} {x o : Nat} {p0 e : Int32} {fs : List Value} {R0 : Option Value → va_W → Prop} {P2 : va_W → Prop} (hst : l.stackTraces = false) (hG : GOK G) (hm : (x, Sum.inr (7, fs)) ∈ w) (hM : Mth l yX7_suit cX7_suit 6 (Option.some Jvm.ClassFile.FieldType.int) r_X7_suit G w (.ref x :: [.int p0]) R0 (XW (fun E => pE LIS e E) w)) (hR : ∀ v w0, R0 v w0 → ∃ (R : Int32) (w2 : va_W), v = some (.int R) ∧ e = 0 ∧ OutS G o R.toInt64 w0 w2 ∧ P2 w2) : vx_Met l yL_suit (Cond.codeWith yL_suit cL_suit 4 (some .int) [((0 : Nat), (9 : Nat), (12 : Nat), (13 : Nat)), ((0 : Nat), (9 : Nat), (15 : Nat), (17 : Nat))] :: wA) r_L_suit (cP G w ([.ref x, .int p0, .ref o])) (cQ G (fun v w1 => v = some (.int e) ∧ ((e ≠ 0 ∧ w1 = w) ∨ (e = 0 ∧ P2 w1)))) (cX G nX) (r_L_suit).cells (r_L_suit).slots (gA G) := by
  refine mth_ofH rfl (Nat.le_of_ble_eq_true rfl) hst hG (fun X hX C0 => ?_)
  subst hX
  have C : Cx X G cL_suit 4 RL (some .int) r_L_suit "suit" [⟨0, 9, 12, 13⟩, ⟨0, 9, 15, 17⟩] := C0
  clear C0
  show V X G 4 w 0 0 _ 0 [(0, .ref x), (1, .int p0), (2, .ref o)] []
  refine v_aload_n C dL_suit_0 rfl 2 rfl ?_
  refine v_iconst C (v := 0) dL_suit_1 rfl rfl ?_
  refine v_aload_n C dL_suit_2 rfl 0 rfl ?_
  refine v_iload_n C dL_suit_3 rfl 1 rfl ?_
  refine w_invV C [.int p0] 4 24 L_L_75 hM hm rfl rfl rfl rfl dL_suit_4 rfl (fun E w9 hx => ?_) (fun v w0 hv => ?_)
  · obtain ⟨⟨v, hv, he⟩, hw⟩ := hx
    simp only [LIS, List.mem_cons, Prod.mk.injEq, List.not_mem_nil, or_false] at hv
    rcases hv with ⟨rfl, rfl⟩ | ⟨rfl, rfl⟩
    · skip
      refine v_catch C (E := xI) [] ⟨0, 9, 12, 13⟩ [⟨0, 9, 15, 17⟩] rfl (fun _ h => absurd h List.not_mem_nil) rfl (by decide) (q1 153 rfl rfl) (qn1 171 rfl rfl) (fun q9 => ?_)
      refine v_astore_n C (lv1 := [(3, .ref q9), (0, .ref x), (1, .int p0), (2, .ref o)]) dL_suit_12 rfl (by decide) rfl ?_
      refine v_iconst C (v := 1) dL_suit_13 rfl rfl ?_
      exact v_iret C (by decide) (by decide) dL_suit_14 ⟨by rw [he], Or.inl ⟨by rw [he]; decide, hw⟩⟩
    · skip
      refine v_catch C (E := xS) [⟨0, 9, 12, 13⟩] ⟨0, 9, 15, 17⟩ [] rfl (List.forall_mem_cons.mpr ⟨⟨by decide, _, (q1 153 rfl rfl), nc_xSxI C⟩, (fun _ h => absurd h List.not_mem_nil)⟩) rfl (by decide) (q1 155 rfl rfl) (qn2 25 rfl rfl) (fun q9 => ?_)
      refine v_astore_n C (lv1 := [(3, .ref q9), (0, .ref x), (1, .int p0), (2, .ref o)]) dL_suit_15 rfl (by decide) rfl ?_
      refine v_iconst C (v := 2) dL_suit_16 rfl rfl ?_
      exact v_iret C (by decide) (by decide) dL_suit_17 ⟨by rw [he], Or.inl ⟨by rw [he]; decide, hw⟩⟩
  · obtain ⟨R, w2, rfl, h0, ⟨q0, f, g1, g2⟩, h2⟩ := hR _ _ hv
    show V X G 4 _ _ _ _ _ _ [.int R, .int 0, .ref o]
    refine v_i2l C dL_suit_7 rfl ?_
    refine v_last C ⟨q0, g1, g2⟩ (pk_in 0 1 (by decide)) dL_suit_8 rfl ?_
    refine v_goto C (q := 18) dL_suit_9 rfl ?_
    refine v_iconst C (v := 0) dL_suit_18 rfl rfl ?_
    exact v_iret C (by decide) (by decide) dL_suit_19 ⟨by rw [h0], Or.inr ⟨h0, h2⟩⟩

abbrev r_L_rumour : Room := { frames := 9, cells := 2, slots := 12, locals := 147 }
theorem c_L_rumour {l : Launch} {G : GG} {w : va_W} {x o : Nat} {p0 p1 e : Int32} {fs : List Value} {R0 : Option Value → va_W → Prop} {P2 : va_W → Prop} (hst : l.stackTraces = false) (hG : GOK G) (hm : (x, Sum.inr (7, fs)) ∈ w) (hM : Mth l yX7_rumour cX7_rumour 4 (Option.some Jvm.ClassFile.FieldType.int) r_X7_rumour G w (.ref x :: [.int p0, .int p1]) R0 (XW (fun E => pE LIA e E) w)) (hR : ∀ v w0, R0 v w0 → ∃ (R : Int32) (w2 : va_W), v = some (.int R) ∧ e = 0 ∧ OutS G o R.toInt64 w0 w2 ∧ P2 w2) : vx_Met l yL_rumour (Cond.codeWith yL_rumour cL_rumour 5 (some .int) [((0 : Nat), (10 : Nat), (13 : Nat), (13 : Nat)), ((0 : Nat), (10 : Nat), (17 : Nat), (15 : Nat))] :: wA) r_L_rumour (cP G w ([.ref x, .int p0, .int p1, .ref o])) (cQ G (fun v w1 => v = some (.int e) ∧ ((e ≠ 0 ∧ w1 = w) ∨ (e = 0 ∧ P2 w1)))) (cX G nX) (r_L_rumour).cells (r_L_rumour).slots (gA G) := by
  refine mth_ofH rfl (Nat.le_of_ble_eq_true rfl) hst hG (fun X hX C0 => ?_)
  subst hX
  have C : Cx X G cL_rumour 5 RL (some .int) r_L_rumour "rumour" [⟨0, 10, 13, 13⟩, ⟨0, 10, 17, 15⟩] := C0
  clear C0
  show V X G 5 w 0 0 _ 0 [(0, .ref x), (1, .int p0), (2, .int p1), (3, .ref o)] []
  refine v_aload_n C dL_rumour_0 rfl 3 rfl ?_
  refine v_iconst C (v := 0) dL_rumour_1 rfl rfl ?_
  refine v_aload_n C dL_rumour_2 rfl 0 rfl ?_
  refine v_iload_n C dL_rumour_3 rfl 1 rfl ?_
  refine v_iload_n C dL_rumour_4 rfl 2 rfl ?_
  refine w_invV C [.int p0, .int p1] 2 12 L_L_78 hM hm rfl rfl rfl rfl dL_rumour_5 rfl (fun E w9 hx => ?_) (fun v w0 hv => ?_)
  · obtain ⟨⟨v, hv, he⟩, hw⟩ := hx
    simp only [LIA, List.mem_cons, Prod.mk.injEq, List.not_mem_nil, or_false] at hv
    rcases hv with ⟨rfl, rfl⟩ | ⟨rfl, rfl⟩
    · skip
      refine v_catch C (E := xI) [] ⟨0, 10, 13, 13⟩ [⟨0, 10, 17, 15⟩] rfl (fun _ h => absurd h List.not_mem_nil) rfl (by decide) (q1 153 rfl rfl) (qn1 171 rfl rfl) (fun q9 => ?_)
      refine v_astore C (lv1 := [(4, .ref q9), (0, .ref x), (1, .int p0), (2, .int p1), (3, .ref o)]) dL_rumour_13 rfl (by decide) rfl ?_
      refine v_iconst C (v := 1) dL_rumour_15 rfl rfl ?_
      exact v_iret C (by decide) (by decide) dL_rumour_16 ⟨by rw [he], Or.inl ⟨by rw [he]; decide, hw⟩⟩
    · skip
      refine v_catch C (E := xA) [⟨0, 10, 13, 13⟩] ⟨0, 10, 17, 15⟩ [] rfl (List.forall_mem_cons.mpr ⟨⟨by decide, _, (q1 153 rfl rfl), nc_xAxI C⟩, (fun _ h => absurd h List.not_mem_nil)⟩) rfl (by decide) (q1 154 rfl rfl) (qn2 6 rfl rfl) (fun q9 => ?_)
      refine v_astore C (lv1 := [(4, .ref q9), (0, .ref x), (1, .int p0), (2, .int p1), (3, .ref o)]) dL_rumour_17 rfl (by decide) rfl ?_
      refine v_iconst C (v := 2) dL_rumour_19 rfl rfl ?_
      exact v_iret C (by decide) (by decide) dL_rumour_20 ⟨by rw [he], Or.inl ⟨by rw [he]; decide, hw⟩⟩
  · obtain ⟨R, w2, rfl, h0, ⟨q0, f, g1, g2⟩, h2⟩ := hR _ _ hv
    show V X G 5 _ _ _ _ _ _ [.int R, .int 0, .ref o]
    refine v_i2l C dL_rumour_8 rfl ?_
    refine v_last C ⟨q0, g1, g2⟩ (pk_in 0 1 (by decide)) dL_rumour_9 rfl ?_
    refine v_goto C (q := 21) dL_rumour_10 rfl ?_
    refine v_iconst C (v := 0) dL_rumour_21 rfl rfl ?_
    exact v_iret C (by decide) (by decide) dL_rumour_22 ⟨by rw [h0], Or.inr ⟨h0, h2⟩⟩

abbrev r_L_holds : Room := { frames := 9, cells := 1, slots := 6, locals := 143 }
theorem c_L_holds {l : Launch} {G : GG} {w : va_W} {x o : Nat} {p0 e : Int32} {fs : List Value} {R0 : Option Value → va_W → Prop} {P2 : va_W → Prop} (hst : l.stackTraces = false) (hG : GOK G) (hm : (x, Sum.inr (7, fs)) ∈ w) (hM : Mth l yX7_holds cX7_holds 2 (Option.some Jvm.ClassFile.FieldType.int) r_X7_holds G w (.ref x :: [.int p0]) R0 (XW (fun E => pE LI1 e E) w)) (hR : ∀ v w0, R0 v w0 → ∃ (R : Int32) (w2 : va_W), v = some (.int R) ∧ e = 0 ∧ OutS G o R.toInt64 w0 w2 ∧ P2 w2) : vx_Met l yL_holds (Cond.codeWith yL_holds cL_holds 4 (some .int) [((0 : Nat), (9 : Nat), (12 : Nat), (13 : Nat))] :: wA) r_L_holds (cP G w ([.ref x, .int p0, .ref o])) (cQ G (fun v w1 => v = some (.int e) ∧ ((e ≠ 0 ∧ w1 = w) ∨ (e = 0 ∧ P2 w1)))) (cX G nX) (r_L_holds).cells (r_L_holds).slots (gA G) := by
  refine mth_ofH rfl (Nat.le_of_ble_eq_true rfl) hst hG (fun X hX C0 => ?_)
  subst hX
  have C : Cx X G cL_holds 4 RL (some .int) r_L_holds "holds" [⟨0, 9, 12, 13⟩] := C0
  clear C0
  show V X G 4 w 0 0 _ 0 [(0, .ref x), (1, .int p0), (2, .ref o)] []
  refine v_aload_n C dL_holds_0 rfl 2 rfl ?_
  refine v_iconst C (v := 0) dL_holds_1 rfl rfl ?_
  refine v_aload_n C dL_holds_2 rfl 0 rfl ?_
  refine v_iload_n C dL_holds_3 rfl 1 rfl ?_
  refine w_invV C [.int p0] 1 6 L_L_81 hM hm rfl rfl rfl rfl dL_holds_4 rfl (fun E w9 hx => ?_) (fun v w0 hv => ?_)
  · obtain ⟨⟨v, hv, he⟩, hw⟩ := hx
    simp only [LI1, List.mem_cons, Prod.mk.injEq, List.not_mem_nil, or_false] at hv
    obtain ⟨rfl, rfl⟩ := hv
    refine v_catch C (E := xI) [] ⟨0, 9, 12, 13⟩ [] rfl (fun _ h => absurd h List.not_mem_nil) rfl (by decide) (q1 153 rfl rfl) (qn1 171 rfl rfl) (fun q9 => ?_)
    refine v_astore_n C (lv1 := [(3, .ref q9), (0, .ref x), (1, .int p0), (2, .ref o)]) dL_holds_12 rfl (by decide) rfl ?_
    refine v_iconst C (v := 1) dL_holds_13 rfl rfl ?_
    exact v_iret C (by decide) (by decide) dL_holds_14 ⟨by rw [he], Or.inl ⟨by rw [he]; decide, hw⟩⟩
  · obtain ⟨R, w2, rfl, h0, ⟨q0, f, g1, g2⟩, h2⟩ := hR _ _ hv
    show V X G 4 _ _ _ _ _ _ [.int R, .int 0, .ref o]
    refine v_i2l C dL_holds_7 rfl ?_
    refine v_last C ⟨q0, g1, g2⟩ (pk_in 0 1 (by decide)) dL_holds_8 rfl ?_
    refine v_goto C (q := 15) dL_holds_9 rfl ?_
    refine v_iconst C (v := 0) dL_holds_15 rfl rfl ?_
    exact v_iret C (by decide) (by decide) dL_holds_16 ⟨by rw [h0], Or.inr ⟨h0, h2⟩⟩

abbrev r_L_ofClaim : Room := { frames := 9, cells := 2, slots := 12, locals := 147 }
theorem c_L_ofClaim {l : Launch} {G : GG} {w : va_W} {x o : Nat} {p0 p1 e : Int32} {fs : List Value} {R0 : Option Value → va_W → Prop} {P2 : va_W → Prop} (hst : l.stackTraces = false) (hG : GOK G) (hm : (x, Sum.inr (7, fs)) ∈ w) (hM : Mth l yX7_ofClaim cX7_ofClaim 4 (Option.some Jvm.ClassFile.FieldType.int) r_X7_ofClaim G w (.ref x :: [.int p0, .int p1]) R0 (XW (fun E => pE LIA e E) w)) (hR : ∀ v w0, R0 v w0 → ∃ (R : Int32) (w2 : va_W), v = some (.int R) ∧ e = 0 ∧ OutS G o R.toInt64 w0 w2 ∧ P2 w2) : vx_Met l yL_ofClaim (Cond.codeWith yL_ofClaim cL_ofClaim 5 (some .int) [((0 : Nat), (10 : Nat), (13 : Nat), (13 : Nat)), ((0 : Nat), (10 : Nat), (17 : Nat), (15 : Nat))] :: wA) r_L_ofClaim (cP G w ([.ref x, .int p0, .int p1, .ref o])) (cQ G (fun v w1 => v = some (.int e) ∧ ((e ≠ 0 ∧ w1 = w) ∨ (e = 0 ∧ P2 w1)))) (cX G nX) (r_L_ofClaim).cells (r_L_ofClaim).slots (gA G) := by
  refine mth_ofH rfl (Nat.le_of_ble_eq_true rfl) hst hG (fun X hX C0 => ?_)
  subst hX
  have C : Cx X G cL_ofClaim 5 RL (some .int) r_L_ofClaim "ofClaim" [⟨0, 10, 13, 13⟩, ⟨0, 10, 17, 15⟩] := C0
  clear C0
  show V X G 5 w 0 0 _ 0 [(0, .ref x), (1, .int p0), (2, .int p1), (3, .ref o)] []
  refine v_aload_n C dL_ofClaim_0 rfl 3 rfl ?_
  refine v_iconst C (v := 0) dL_ofClaim_1 rfl rfl ?_
  refine v_aload_n C dL_ofClaim_2 rfl 0 rfl ?_
  refine v_iload_n C dL_ofClaim_3 rfl 1 rfl ?_
  refine v_iload_n C dL_ofClaim_4 rfl 2 rfl ?_
  refine w_invV C [.int p0, .int p1] 2 12 L_L_84 hM hm rfl rfl rfl rfl dL_ofClaim_5 rfl (fun E w9 hx => ?_) (fun v w0 hv => ?_)
  · obtain ⟨⟨v, hv, he⟩, hw⟩ := hx
    simp only [LIA, List.mem_cons, Prod.mk.injEq, List.not_mem_nil, or_false] at hv
    rcases hv with ⟨rfl, rfl⟩ | ⟨rfl, rfl⟩
    · skip
      refine v_catch C (E := xI) [] ⟨0, 10, 13, 13⟩ [⟨0, 10, 17, 15⟩] rfl (fun _ h => absurd h List.not_mem_nil) rfl (by decide) (q1 153 rfl rfl) (qn1 171 rfl rfl) (fun q9 => ?_)
      refine v_astore C (lv1 := [(4, .ref q9), (0, .ref x), (1, .int p0), (2, .int p1), (3, .ref o)]) dL_ofClaim_13 rfl (by decide) rfl ?_
      refine v_iconst C (v := 1) dL_ofClaim_15 rfl rfl ?_
      exact v_iret C (by decide) (by decide) dL_ofClaim_16 ⟨by rw [he], Or.inl ⟨by rw [he]; decide, hw⟩⟩
    · skip
      refine v_catch C (E := xA) [⟨0, 10, 13, 13⟩] ⟨0, 10, 17, 15⟩ [] rfl (List.forall_mem_cons.mpr ⟨⟨by decide, _, (q1 153 rfl rfl), nc_xAxI C⟩, (fun _ h => absurd h List.not_mem_nil)⟩) rfl (by decide) (q1 154 rfl rfl) (qn2 6 rfl rfl) (fun q9 => ?_)
      refine v_astore C (lv1 := [(4, .ref q9), (0, .ref x), (1, .int p0), (2, .int p1), (3, .ref o)]) dL_ofClaim_17 rfl (by decide) rfl ?_
      refine v_iconst C (v := 2) dL_ofClaim_19 rfl rfl ?_
      exact v_iret C (by decide) (by decide) dL_ofClaim_20 ⟨by rw [he], Or.inl ⟨by rw [he]; decide, hw⟩⟩
  · obtain ⟨R, w2, rfl, h0, ⟨q0, f, g1, g2⟩, h2⟩ := hR _ _ hv
    show V X G 5 _ _ _ _ _ _ [.int R, .int 0, .ref o]
    refine v_i2l C dL_ofClaim_8 rfl ?_
    refine v_last C ⟨q0, g1, g2⟩ (pk_in 0 1 (by decide)) dL_ofClaim_9 rfl ?_
    refine v_goto C (q := 21) dL_ofClaim_10 rfl ?_
    refine v_iconst C (v := 0) dL_ofClaim_21 rfl rfl ?_
    exact v_iret C (by decide) (by decide) dL_ofClaim_22 ⟨by rw [h0], Or.inr ⟨h0, h2⟩⟩

abbrev r_L_ofMiner : Room := { frames := 9, cells := 2, slots := 12, locals := 156 }
theorem c_L_ofMiner {l : Launch} {G : GG} {w : va_W} {x o : Nat} {p0 p1 e : Int32} {fs : List Value} {R0 : Option Value → va_W → Prop} {P2 : va_W → Prop} (hst : l.stackTraces = false) (hG : GOK G) (hm : (x, Sum.inr (7, fs)) ∈ w) (hM : Mth l yX7_ofMiner cX7_ofMiner 4 (Option.some Jvm.ClassFile.FieldType.int) r_X7_ofMiner G w (.ref x :: [.int p0, .int p1]) R0 (XW (fun E => pE LIA e E) w)) (hR : ∀ v w0, R0 v w0 → ∃ (R : Int32) (w2 : va_W), v = some (.int R) ∧ e = 0 ∧ OutS G o R.toInt64 w0 w2 ∧ P2 w2) : vx_Met l yL_ofMiner (Cond.codeWith yL_ofMiner cL_ofMiner 5 (some .int) [((0 : Nat), (10 : Nat), (13 : Nat), (13 : Nat)), ((0 : Nat), (10 : Nat), (17 : Nat), (15 : Nat))] :: wA) r_L_ofMiner (cP G w ([.ref x, .int p0, .int p1, .ref o])) (cQ G (fun v w1 => v = some (.int e) ∧ ((e ≠ 0 ∧ w1 = w) ∨ (e = 0 ∧ P2 w1)))) (cX G nX) (r_L_ofMiner).cells (r_L_ofMiner).slots (gA G) := by
  refine mth_ofH rfl (Nat.le_of_ble_eq_true rfl) hst hG (fun X hX C0 => ?_)
  subst hX
  have C : Cx X G cL_ofMiner 5 RL (some .int) r_L_ofMiner "ofMiner" [⟨0, 10, 13, 13⟩, ⟨0, 10, 17, 15⟩] := C0
  clear C0
  show V X G 5 w 0 0 _ 0 [(0, .ref x), (1, .int p0), (2, .int p1), (3, .ref o)] []
  refine v_aload_n C dL_ofMiner_0 rfl 3 rfl ?_
  refine v_iconst C (v := 0) dL_ofMiner_1 rfl rfl ?_
  refine v_aload_n C dL_ofMiner_2 rfl 0 rfl ?_
  refine v_iload_n C dL_ofMiner_3 rfl 1 rfl ?_
  refine v_iload_n C dL_ofMiner_4 rfl 2 rfl ?_
  refine w_invV C [.int p0, .int p1] 2 12 L_L_87 hM hm rfl rfl rfl rfl dL_ofMiner_5 rfl (fun E w9 hx => ?_) (fun v w0 hv => ?_)
  · obtain ⟨⟨v, hv, he⟩, hw⟩ := hx
    simp only [LIA, List.mem_cons, Prod.mk.injEq, List.not_mem_nil, or_false] at hv
    rcases hv with ⟨rfl, rfl⟩ | ⟨rfl, rfl⟩
    · skip
      refine v_catch C (E := xI) [] ⟨0, 10, 13, 13⟩ [⟨0, 10, 17, 15⟩] rfl (fun _ h => absurd h List.not_mem_nil) rfl (by decide) (q1 153 rfl rfl) (qn1 171 rfl rfl) (fun q9 => ?_)
      refine v_astore C (lv1 := [(4, .ref q9), (0, .ref x), (1, .int p0), (2, .int p1), (3, .ref o)]) dL_ofMiner_13 rfl (by decide) rfl ?_
      refine v_iconst C (v := 1) dL_ofMiner_15 rfl rfl ?_
      exact v_iret C (by decide) (by decide) dL_ofMiner_16 ⟨by rw [he], Or.inl ⟨by rw [he]; decide, hw⟩⟩
    · skip
      refine v_catch C (E := xA) [⟨0, 10, 13, 13⟩] ⟨0, 10, 17, 15⟩ [] rfl (List.forall_mem_cons.mpr ⟨⟨by decide, _, (q1 153 rfl rfl), nc_xAxI C⟩, (fun _ h => absurd h List.not_mem_nil)⟩) rfl (by decide) (q1 154 rfl rfl) (qn2 6 rfl rfl) (fun q9 => ?_)
      refine v_astore C (lv1 := [(4, .ref q9), (0, .ref x), (1, .int p0), (2, .int p1), (3, .ref o)]) dL_ofMiner_17 rfl (by decide) rfl ?_
      refine v_iconst C (v := 2) dL_ofMiner_19 rfl rfl ?_
      exact v_iret C (by decide) (by decide) dL_ofMiner_20 ⟨by rw [he], Or.inl ⟨by rw [he]; decide, hw⟩⟩
  · obtain ⟨R, w2, rfl, h0, ⟨q0, f, g1, g2⟩, h2⟩ := hR _ _ hv
    show V X G 5 _ _ _ _ _ _ [.int R, .int 0, .ref o]
    refine v_i2l C dL_ofMiner_8 rfl ?_
    refine v_last C ⟨q0, g1, g2⟩ (pk_in 0 1 (by decide)) dL_ofMiner_9 rfl ?_
    refine v_goto C (q := 21) dL_ofMiner_10 rfl ?_
    refine v_iconst C (v := 0) dL_ofMiner_21 rfl rfl ?_
    exact v_iret C (by decide) (by decide) dL_ofMiner_22 ⟨by rw [h0], Or.inr ⟨h0, h2⟩⟩

abbrev r_L_gets : Room := { frames := 8, cells := 1, slots := 6, locals := 131 }
theorem c_L_gets {l : Launch} {G : GG} {w : va_W} {x o : Nat} {p0 e : Int32} {fs : List Value} {R0 : Option Value → va_W → Prop} {P2 : va_W → Prop} (hst : l.stackTraces = false) (hG : GOK G) (hm : (x, Sum.inr (7, fs)) ∈ w) (hM : Mth l yX7_gets cX7_gets 2 (Option.some Jvm.ClassFile.FieldType.int) r_X7_gets G w (.ref x :: [.int p0]) R0 (XW (fun E => pE LI1 e E) w)) (hR : ∀ v w0, R0 v w0 → ∃ (R : Int32) (w2 : va_W), v = some (.int R) ∧ e = 0 ∧ OutS G o R.toInt64 w0 w2 ∧ P2 w2) : vx_Met l yL_gets (Cond.codeWith yL_gets cL_gets 4 (some .int) [((0 : Nat), (9 : Nat), (12 : Nat), (13 : Nat))] :: wA) r_L_gets (cP G w ([.ref x, .int p0, .ref o])) (cQ G (fun v w1 => v = some (.int e) ∧ ((e ≠ 0 ∧ w1 = w) ∨ (e = 0 ∧ P2 w1)))) (cX G nX) (r_L_gets).cells (r_L_gets).slots (gA G) := by
  refine mth_ofH rfl (Nat.le_of_ble_eq_true rfl) hst hG (fun X hX C0 => ?_)
  subst hX
  have C : Cx X G cL_gets 4 RL (some .int) r_L_gets "gets" [⟨0, 9, 12, 13⟩] := C0
  clear C0
  show V X G 4 w 0 0 _ 0 [(0, .ref x), (1, .int p0), (2, .ref o)] []
  refine v_aload_n C dL_gets_0 rfl 2 rfl ?_
  refine v_iconst C (v := 0) dL_gets_1 rfl rfl ?_
  refine v_aload_n C dL_gets_2 rfl 0 rfl ?_
  refine v_iload_n C dL_gets_3 rfl 1 rfl ?_
  refine w_invV C [.int p0] 1 6 L_L_90 hM hm rfl rfl rfl rfl dL_gets_4 rfl (fun E w9 hx => ?_) (fun v w0 hv => ?_)
  · obtain ⟨⟨v, hv, he⟩, hw⟩ := hx
    simp only [LI1, List.mem_cons, Prod.mk.injEq, List.not_mem_nil, or_false] at hv
    obtain ⟨rfl, rfl⟩ := hv
    refine v_catch C (E := xI) [] ⟨0, 9, 12, 13⟩ [] rfl (fun _ h => absurd h List.not_mem_nil) rfl (by decide) (q1 153 rfl rfl) (qn1 171 rfl rfl) (fun q9 => ?_)
    refine v_astore_n C (lv1 := [(3, .ref q9), (0, .ref x), (1, .int p0), (2, .ref o)]) dL_gets_12 rfl (by decide) rfl ?_
    refine v_iconst C (v := 1) dL_gets_13 rfl rfl ?_
    exact v_iret C (by decide) (by decide) dL_gets_14 ⟨by rw [he], Or.inl ⟨by rw [he]; decide, hw⟩⟩
  · obtain ⟨R, w2, rfl, h0, ⟨q0, f, g1, g2⟩, h2⟩ := hR _ _ hv
    show V X G 4 _ _ _ _ _ _ [.int R, .int 0, .ref o]
    refine v_i2l C dL_gets_7 rfl ?_
    refine v_last C ⟨q0, g1, g2⟩ (pk_in 0 1 (by decide)) dL_gets_8 rfl ?_
    refine v_goto C (q := 15) dL_gets_9 rfl ?_
    refine v_iconst C (v := 0) dL_gets_15 rfl rfl ?_
    exact v_iret C (by decide) (by decide) dL_gets_16 ⟨by rw [h0], Or.inr ⟨h0, h2⟩⟩

abbrev r_L_gold : Room := { frames := 9, cells := 1, slots := 6, locals := 145 }
theorem c_L_gold {l : Launch} {G : GG} {w : va_W} {x o : Nat} {p0 e : Int32} {fs : List Value} {R0 : Option Value → va_W → Prop} {P2 : va_W → Prop} (hst : l.stackTraces = false) (hG : GOK G) (hm : (x, Sum.inr (7, fs)) ∈ w) (hM : Mth l yX7_gold cX7_gold 2 (Option.some Jvm.ClassFile.FieldType.int) r_X7_gold G w (.ref x :: [.int p0]) R0 (XW (fun E => pE LA e E) w)) (hR : ∀ v w0, R0 v w0 → ∃ (R : Int32) (w2 : va_W), v = some (.int R) ∧ e = 0 ∧ OutS G o R.toInt64 w0 w2 ∧ P2 w2) : vx_Met l yL_gold (Cond.codeWith yL_gold cL_gold 4 (some .int) [((0 : Nat), (9 : Nat), (12 : Nat), (15 : Nat))] :: wA) r_L_gold (cP G w ([.ref x, .int p0, .ref o])) (cQ G (fun v w1 => v = some (.int e) ∧ ((e ≠ 0 ∧ w1 = w) ∨ (e = 0 ∧ P2 w1)))) (cX G nX) (r_L_gold).cells (r_L_gold).slots (gA G) := by
  refine mth_ofH rfl (Nat.le_of_ble_eq_true rfl) hst hG (fun X hX C0 => ?_)
  subst hX
  have C : Cx X G cL_gold 4 RL (some .int) r_L_gold "gold" [⟨0, 9, 12, 15⟩] := C0
  clear C0
  show V X G 4 w 0 0 _ 0 [(0, .ref x), (1, .int p0), (2, .ref o)] []
  refine v_aload_n C dL_gold_0 rfl 2 rfl ?_
  refine v_iconst C (v := 0) dL_gold_1 rfl rfl ?_
  refine v_aload_n C dL_gold_2 rfl 0 rfl ?_
  refine v_iload_n C dL_gold_3 rfl 1 rfl ?_
  refine w_invV C [.int p0] 1 6 L_L_93 hM hm rfl rfl rfl rfl dL_gold_4 rfl (fun E w9 hx => ?_) (fun v w0 hv => ?_)
  · obtain ⟨⟨v, hv, he⟩, hw⟩ := hx
    simp only [LA, List.mem_cons, Prod.mk.injEq, List.not_mem_nil, or_false] at hv
    obtain ⟨rfl, rfl⟩ := hv
    refine v_catch C (E := xA) [] ⟨0, 9, 12, 15⟩ [] rfl (fun _ h => absurd h List.not_mem_nil) rfl (by decide) (q1 154 rfl rfl) (qn2 6 rfl rfl) (fun q9 => ?_)
    refine v_astore_n C (lv1 := [(3, .ref q9), (0, .ref x), (1, .int p0), (2, .ref o)]) dL_gold_12 rfl (by decide) rfl ?_
    refine v_iconst C (v := 1) dL_gold_13 rfl rfl ?_
    exact v_iret C (by decide) (by decide) dL_gold_14 ⟨by rw [he], Or.inl ⟨by rw [he]; decide, hw⟩⟩
  · obtain ⟨R, w2, rfl, h0, ⟨q0, f, g1, g2⟩, h2⟩ := hR _ _ hv
    show V X G 4 _ _ _ _ _ _ [.int R, .int 0, .ref o]
    refine v_i2l C dL_gold_7 rfl ?_
    refine v_last C ⟨q0, g1, g2⟩ (pk_in 0 1 (by decide)) dL_gold_8 rfl ?_
    refine v_goto C (q := 15) dL_gold_9 rfl ?_
    refine v_iconst C (v := 0) dL_gold_15 rfl rfl ?_
    exact v_iret C (by decide) (by decide) dL_gold_16 ⟨by rw [h0], Or.inr ⟨h0, h2⟩⟩

abbrev r_L_camp : Room := { frames := 9, cells := 1, slots := 6, locals := 145 }
theorem c_L_camp {l : Launch} {G : GG} {w : va_W} {x o : Nat} {p0 e : Int32} {fs : List Value} {R0 : Option Value → va_W → Prop} {P2 : va_W → Prop} (hst : l.stackTraces = false) (hG : GOK G) (hm : (x, Sum.inr (7, fs)) ∈ w) (hM : Mth l yX7_camp cX7_camp 2 (Option.some Jvm.ClassFile.FieldType.int) r_X7_camp G w (.ref x :: [.int p0]) R0 (XW (fun E => pE LA e E) w)) (hR : ∀ v w0, R0 v w0 → ∃ (R : Int32) (w2 : va_W), v = some (.int R) ∧ e = 0 ∧ OutS G o R.toInt64 w0 w2 ∧ P2 w2) : vx_Met l yL_camp (Cond.codeWith yL_camp cL_camp 4 (some .int) [((0 : Nat), (9 : Nat), (12 : Nat), (15 : Nat))] :: wA) r_L_camp (cP G w ([.ref x, .int p0, .ref o])) (cQ G (fun v w1 => v = some (.int e) ∧ ((e ≠ 0 ∧ w1 = w) ∨ (e = 0 ∧ P2 w1)))) (cX G nX) (r_L_camp).cells (r_L_camp).slots (gA G) := by
  refine mth_ofH rfl (Nat.le_of_ble_eq_true rfl) hst hG (fun X hX C0 => ?_)
  subst hX
  have C : Cx X G cL_camp 4 RL (some .int) r_L_camp "camp" [⟨0, 9, 12, 15⟩] := C0
  clear C0
  show V X G 4 w 0 0 _ 0 [(0, .ref x), (1, .int p0), (2, .ref o)] []
  refine v_aload_n C dL_camp_0 rfl 2 rfl ?_
  refine v_iconst C (v := 0) dL_camp_1 rfl rfl ?_
  refine v_aload_n C dL_camp_2 rfl 0 rfl ?_
  refine v_iload_n C dL_camp_3 rfl 1 rfl ?_
  refine w_invV C [.int p0] 1 6 L_L_96 hM hm rfl rfl rfl rfl dL_camp_4 rfl (fun E w9 hx => ?_) (fun v w0 hv => ?_)
  · obtain ⟨⟨v, hv, he⟩, hw⟩ := hx
    simp only [LA, List.mem_cons, Prod.mk.injEq, List.not_mem_nil, or_false] at hv
    obtain ⟨rfl, rfl⟩ := hv
    refine v_catch C (E := xA) [] ⟨0, 9, 12, 15⟩ [] rfl (fun _ h => absurd h List.not_mem_nil) rfl (by decide) (q1 154 rfl rfl) (qn2 6 rfl rfl) (fun q9 => ?_)
    refine v_astore_n C (lv1 := [(3, .ref q9), (0, .ref x), (1, .int p0), (2, .ref o)]) dL_camp_12 rfl (by decide) rfl ?_
    refine v_iconst C (v := 1) dL_camp_13 rfl rfl ?_
    exact v_iret C (by decide) (by decide) dL_camp_14 ⟨by rw [he], Or.inl ⟨by rw [he]; decide, hw⟩⟩
  · obtain ⟨R, w2, rfl, h0, ⟨q0, f, g1, g2⟩, h2⟩ := hR _ _ hv
    show V X G 4 _ _ _ _ _ _ [.int R, .int 0, .ref o]
    refine v_i2l C dL_camp_7 rfl ?_
    refine v_last C ⟨q0, g1, g2⟩ (pk_in 0 1 (by decide)) dL_camp_8 rfl ?_
    refine v_goto C (q := 15) dL_camp_9 rfl ?_
    refine v_iconst C (v := 0) dL_camp_15 rfl rfl ?_
    exact v_iret C (by decide) (by decide) dL_camp_16 ⟨by rw [h0], Or.inr ⟨h0, h2⟩⟩

abbrev r_L_belief : Room := { frames := 9, cells := 1, slots := 6, locals := 143 }
theorem c_L_belief {l : Launch} {G : GG} {w : va_W} {x o : Nat} {p0 e : Int32} {fs : List Value} {R0 : Option Value → va_W → Prop} {P2 : va_W → Prop} (hst : l.stackTraces = false) (hG : GOK G) (hm : (x, Sum.inr (7, fs)) ∈ w) (hM : Mth l yX7_belief cX7_belief 2 (Option.some Jvm.ClassFile.FieldType.int) r_X7_belief G w (.ref x :: [.int p0]) R0 (XW (fun E => pE LI1 e E) w)) (hR : ∀ v w0, R0 v w0 → ∃ (R : Int32) (w2 : va_W), v = some (.int R) ∧ e = 0 ∧ OutS G o R.toInt64 w0 w2 ∧ P2 w2) : vx_Met l yL_belief (Cond.codeWith yL_belief cL_belief 4 (some .int) [((0 : Nat), (9 : Nat), (12 : Nat), (13 : Nat))] :: wA) r_L_belief (cP G w ([.ref x, .int p0, .ref o])) (cQ G (fun v w1 => v = some (.int e) ∧ ((e ≠ 0 ∧ w1 = w) ∨ (e = 0 ∧ P2 w1)))) (cX G nX) (r_L_belief).cells (r_L_belief).slots (gA G) := by
  refine mth_ofH rfl (Nat.le_of_ble_eq_true rfl) hst hG (fun X hX C0 => ?_)
  subst hX
  have C : Cx X G cL_belief 4 RL (some .int) r_L_belief "belief" [⟨0, 9, 12, 13⟩] := C0
  clear C0
  show V X G 4 w 0 0 _ 0 [(0, .ref x), (1, .int p0), (2, .ref o)] []
  refine v_aload_n C dL_belief_0 rfl 2 rfl ?_
  refine v_iconst C (v := 0) dL_belief_1 rfl rfl ?_
  refine v_aload_n C dL_belief_2 rfl 0 rfl ?_
  refine v_iload_n C dL_belief_3 rfl 1 rfl ?_
  refine w_invV C [.int p0] 1 6 L_L_99 hM hm rfl rfl rfl rfl dL_belief_4 rfl (fun E w9 hx => ?_) (fun v w0 hv => ?_)
  · obtain ⟨⟨v, hv, he⟩, hw⟩ := hx
    simp only [LI1, List.mem_cons, Prod.mk.injEq, List.not_mem_nil, or_false] at hv
    obtain ⟨rfl, rfl⟩ := hv
    refine v_catch C (E := xI) [] ⟨0, 9, 12, 13⟩ [] rfl (fun _ h => absurd h List.not_mem_nil) rfl (by decide) (q1 153 rfl rfl) (qn1 171 rfl rfl) (fun q9 => ?_)
    refine v_astore_n C (lv1 := [(3, .ref q9), (0, .ref x), (1, .int p0), (2, .ref o)]) dL_belief_12 rfl (by decide) rfl ?_
    refine v_iconst C (v := 1) dL_belief_13 rfl rfl ?_
    exact v_iret C (by decide) (by decide) dL_belief_14 ⟨by rw [he], Or.inl ⟨by rw [he]; decide, hw⟩⟩
  · obtain ⟨R, w2, rfl, h0, ⟨q0, f, g1, g2⟩, h2⟩ := hR _ _ hv
    show V X G 4 _ _ _ _ _ _ [.int R, .int 0, .ref o]
    refine v_i2l C dL_belief_7 rfl ?_
    refine v_last C ⟨q0, g1, g2⟩ (pk_in 0 1 (by decide)) dL_belief_8 rfl ?_
    refine v_goto C (q := 15) dL_belief_9 rfl ?_
    refine v_iconst C (v := 0) dL_belief_15 rfl rfl ?_
    exact v_iret C (by decide) (by decide) dL_belief_16 ⟨by rw [h0], Or.inr ⟨h0, h2⟩⟩

abbrev r_L_plan : Room := { frames := 8, cells := 3, slots := 18, locals := 127 }
theorem c_L_plan {l : Launch} {G : GG} {w : va_W} {x o : Nat} {p0 p1 e : Int32} {fs : List Value} {R0 : Option Value → va_W → Prop} {P2 : va_W → Prop} (hst : l.stackTraces = false) (hG : GOK G) (hm : (x, Sum.inr (7, fs)) ∈ w) (hM : Mth l yX7_plan cX7_plan 5 (Option.some Jvm.ClassFile.FieldType.int) r_X7_plan G w (.ref x :: [.int p0, .int p1]) R0 (XW (fun E => pE L3 e E) w)) (hR : ∀ v w0, R0 v w0 → ∃ (R : Int32) (w2 : va_W), v = some (.int R) ∧ e = 0 ∧ OutS G o R.toInt64 w0 w2 ∧ P2 w2) : vx_Met l yL_plan (Cond.codeWith yL_plan cL_plan 5 (some .int) [((0 : Nat), (10 : Nat), (13 : Nat), (13 : Nat)), ((0 : Nat), (10 : Nat), (17 : Nat), (15 : Nat)), ((0 : Nat), (10 : Nat), (21 : Nat), (17 : Nat))] :: wA) r_L_plan (cP G w ([.ref x, .int p0, .int p1, .ref o])) (cQ G (fun v w1 => v = some (.int e) ∧ ((e ≠ 0 ∧ w1 = w) ∨ (e = 0 ∧ P2 w1)))) (cX G nX) (r_L_plan).cells (r_L_plan).slots (gA G) := by
  refine mth_ofH rfl (Nat.le_of_ble_eq_true rfl) hst hG (fun X hX C0 => ?_)
  subst hX
  have C : Cx X G cL_plan 5 RL (some .int) r_L_plan "plan" [⟨0, 10, 13, 13⟩, ⟨0, 10, 17, 15⟩, ⟨0, 10, 21, 17⟩] := C0
  clear C0
  show V X G 5 w 0 0 _ 0 [(0, .ref x), (1, .int p0), (2, .int p1), (3, .ref o)] []
  refine v_aload_n C dL_plan_0 rfl 3 rfl ?_
  refine v_iconst C (v := 0) dL_plan_1 rfl rfl ?_
  refine v_aload_n C dL_plan_2 rfl 0 rfl ?_
  refine v_iload_n C dL_plan_3 rfl 1 rfl ?_
  refine v_iload_n C dL_plan_4 rfl 2 rfl ?_
  refine w_invV C [.int p0, .int p1] 3 18 L_L_102 hM hm rfl rfl rfl rfl dL_plan_5 rfl (fun E w9 hx => ?_) (fun v w0 hv => ?_)
  · obtain ⟨⟨v, hv, he⟩, hw⟩ := hx
    simp only [L3, List.mem_cons, Prod.mk.injEq, List.not_mem_nil, or_false] at hv
    rcases hv with ⟨rfl, rfl⟩ | ⟨rfl, rfl⟩ | ⟨rfl, rfl⟩
    · skip
      refine v_catch C (E := xI) [] ⟨0, 10, 13, 13⟩ [⟨0, 10, 17, 15⟩, ⟨0, 10, 21, 17⟩] rfl (fun _ h => absurd h List.not_mem_nil) rfl (by decide) (q1 153 rfl rfl) (qn1 171 rfl rfl) (fun q9 => ?_)
      refine v_astore C (lv1 := [(4, .ref q9), (0, .ref x), (1, .int p0), (2, .int p1), (3, .ref o)]) dL_plan_13 rfl (by decide) rfl ?_
      refine v_iconst C (v := 1) dL_plan_15 rfl rfl ?_
      exact v_iret C (by decide) (by decide) dL_plan_16 ⟨by rw [he], Or.inl ⟨by rw [he]; decide, hw⟩⟩
    · skip
      refine v_catch C (E := xA) [⟨0, 10, 13, 13⟩] ⟨0, 10, 17, 15⟩ [⟨0, 10, 21, 17⟩] rfl (List.forall_mem_cons.mpr ⟨⟨by decide, _, (q1 153 rfl rfl), nc_xAxI C⟩, (fun _ h => absurd h List.not_mem_nil)⟩) rfl (by decide) (q1 154 rfl rfl) (qn2 6 rfl rfl) (fun q9 => ?_)
      refine v_astore C (lv1 := [(4, .ref q9), (0, .ref x), (1, .int p0), (2, .int p1), (3, .ref o)]) dL_plan_17 rfl (by decide) rfl ?_
      refine v_iconst C (v := 2) dL_plan_19 rfl rfl ?_
      exact v_iret C (by decide) (by decide) dL_plan_20 ⟨by rw [he], Or.inl ⟨by rw [he]; decide, hw⟩⟩
    · skip
      refine v_catch C (E := xS) [⟨0, 10, 13, 13⟩, ⟨0, 10, 17, 15⟩] ⟨0, 10, 21, 17⟩ [] rfl (List.forall_mem_cons.mpr ⟨⟨by decide, _, (q1 153 rfl rfl), nc_xSxI C⟩, (List.forall_mem_cons.mpr ⟨⟨by decide, _, (q1 154 rfl rfl), nc_xSxA C⟩, (fun _ h => absurd h List.not_mem_nil)⟩)⟩) rfl (by decide) (q1 155 rfl rfl) (qn2 25 rfl rfl) (fun q9 => ?_)
      refine v_astore C (lv1 := [(4, .ref q9), (0, .ref x), (1, .int p0), (2, .int p1), (3, .ref o)]) dL_plan_21 rfl (by decide) rfl ?_
      refine v_iconst C (v := 3) dL_plan_23 rfl rfl ?_
      exact v_iret C (by decide) (by decide) dL_plan_24 ⟨by rw [he], Or.inl ⟨by rw [he]; decide, hw⟩⟩
  · obtain ⟨R, w2, rfl, h0, ⟨q0, f, g1, g2⟩, h2⟩ := hR _ _ hv
    show V X G 5 _ _ _ _ _ _ [.int R, .int 0, .ref o]
    refine v_i2l C dL_plan_8 rfl ?_
    refine v_last C ⟨q0, g1, g2⟩ (pk_in 0 1 (by decide)) dL_plan_9 rfl ?_
    refine v_goto C (q := 25) dL_plan_10 rfl ?_
    refine v_iconst C (v := 0) dL_plan_25 rfl rfl ?_
    exact v_iret C (by decide) (by decide) dL_plan_26 ⟨by rw [h0], Or.inr ⟨h0, h2⟩⟩

abbrev r_L_planCell : Room := { frames := 9, cells := 4, slots := 24, locals := 148 }
theorem c_L_planCell {l : Launch} {G : GG} {w : va_W} {x o : Nat} {p0 p1 p2 e : Int32} {fs : List Value} {R0 : Option Value → va_W → Prop} {P2 : va_W → Prop} (hst : l.stackTraces = false) (hG : GOK G) (hm : (x, Sum.inr (7, fs)) ∈ w) (hM : Mth l yX7_planCell cX7_planCell 5 (Option.some Jvm.ClassFile.FieldType.int) r_X7_planCell G w (.ref x :: [.int p0, .int p1, .int p2]) R0 (XW (fun E => pE L3 e E) w)) (hR : ∀ v w0, R0 v w0 → ∃ (R : Int32) (w2 : va_W), v = some (.int R) ∧ e = 0 ∧ OutS G o R.toInt64 w0 w2 ∧ P2 w2) : vx_Met l yL_planCell (Cond.codeWith yL_planCell cL_planCell 6 (some .int) [((0 : Nat), (12 : Nat), (15 : Nat), (13 : Nat)), ((0 : Nat), (12 : Nat), (19 : Nat), (15 : Nat)), ((0 : Nat), (12 : Nat), (23 : Nat), (17 : Nat))] :: wA) r_L_planCell (cP G w ([.ref x, .int p0, .int p1, .int p2, .ref o])) (cQ G (fun v w1 => v = some (.int e) ∧ ((e ≠ 0 ∧ w1 = w) ∨ (e = 0 ∧ P2 w1)))) (cX G nX) (r_L_planCell).cells (r_L_planCell).slots (gA G) := by
  refine mth_ofH rfl (Nat.le_of_ble_eq_true rfl) hst hG (fun X hX C0 => ?_)
  subst hX
  have C : Cx X G cL_planCell 6 RL (some .int) r_L_planCell "planCell" [⟨0, 12, 15, 13⟩, ⟨0, 12, 19, 15⟩, ⟨0, 12, 23, 17⟩] := C0
  clear C0
  show V X G 6 w 0 0 _ 0 [(0, .ref x), (1, .int p0), (2, .int p1), (3, .int p2), (4, .ref o)] []
  refine v_aload C dL_planCell_0 rfl 4 rfl ?_
  refine v_iconst C (v := 0) dL_planCell_2 rfl rfl ?_
  refine v_aload_n C dL_planCell_3 rfl 0 rfl ?_
  refine v_iload_n C dL_planCell_4 rfl 1 rfl ?_
  refine v_iload_n C dL_planCell_5 rfl 2 rfl ?_
  refine v_iload_n C dL_planCell_6 rfl 3 rfl ?_
  refine w_invV C [.int p0, .int p1, .int p2] 4 24 L_L_105 hM hm rfl rfl rfl rfl dL_planCell_7 rfl (fun E w9 hx => ?_) (fun v w0 hv => ?_)
  · obtain ⟨⟨v, hv, he⟩, hw⟩ := hx
    simp only [L3, List.mem_cons, Prod.mk.injEq, List.not_mem_nil, or_false] at hv
    rcases hv with ⟨rfl, rfl⟩ | ⟨rfl, rfl⟩ | ⟨rfl, rfl⟩
    · skip
      refine v_catch C (E := xI) [] ⟨0, 12, 15, 13⟩ [⟨0, 12, 19, 15⟩, ⟨0, 12, 23, 17⟩] rfl (fun _ h => absurd h List.not_mem_nil) rfl (by decide) (q1 153 rfl rfl) (qn1 171 rfl rfl) (fun q9 => ?_)
      refine v_astore C (lv1 := [(5, .ref q9), (0, .ref x), (1, .int p0), (2, .int p1), (3, .int p2), (4, .ref o)]) dL_planCell_15 rfl (by decide) rfl ?_
      refine v_iconst C (v := 1) dL_planCell_17 rfl rfl ?_
      exact v_iret C (by decide) (by decide) dL_planCell_18 ⟨by rw [he], Or.inl ⟨by rw [he]; decide, hw⟩⟩
    · skip
      refine v_catch C (E := xA) [⟨0, 12, 15, 13⟩] ⟨0, 12, 19, 15⟩ [⟨0, 12, 23, 17⟩] rfl (List.forall_mem_cons.mpr ⟨⟨by decide, _, (q1 153 rfl rfl), nc_xAxI C⟩, (fun _ h => absurd h List.not_mem_nil)⟩) rfl (by decide) (q1 154 rfl rfl) (qn2 6 rfl rfl) (fun q9 => ?_)
      refine v_astore C (lv1 := [(5, .ref q9), (0, .ref x), (1, .int p0), (2, .int p1), (3, .int p2), (4, .ref o)]) dL_planCell_19 rfl (by decide) rfl ?_
      refine v_iconst C (v := 2) dL_planCell_21 rfl rfl ?_
      exact v_iret C (by decide) (by decide) dL_planCell_22 ⟨by rw [he], Or.inl ⟨by rw [he]; decide, hw⟩⟩
    · skip
      refine v_catch C (E := xS) [⟨0, 12, 15, 13⟩, ⟨0, 12, 19, 15⟩] ⟨0, 12, 23, 17⟩ [] rfl (List.forall_mem_cons.mpr ⟨⟨by decide, _, (q1 153 rfl rfl), nc_xSxI C⟩, (List.forall_mem_cons.mpr ⟨⟨by decide, _, (q1 154 rfl rfl), nc_xSxA C⟩, (fun _ h => absurd h List.not_mem_nil)⟩)⟩) rfl (by decide) (q1 155 rfl rfl) (qn2 25 rfl rfl) (fun q9 => ?_)
      refine v_astore C (lv1 := [(5, .ref q9), (0, .ref x), (1, .int p0), (2, .int p1), (3, .int p2), (4, .ref o)]) dL_planCell_23 rfl (by decide) rfl ?_
      refine v_iconst C (v := 3) dL_planCell_25 rfl rfl ?_
      exact v_iret C (by decide) (by decide) dL_planCell_26 ⟨by rw [he], Or.inl ⟨by rw [he]; decide, hw⟩⟩
  · obtain ⟨R, w2, rfl, h0, ⟨q0, f, g1, g2⟩, h2⟩ := hR _ _ hv
    show V X G 6 _ _ _ _ _ _ [.int R, .int 0, .ref o]
    refine v_i2l C dL_planCell_10 rfl ?_
    refine v_last C ⟨q0, g1, g2⟩ (pk_in 0 1 (by decide)) dL_planCell_11 rfl ?_
    refine v_goto C (q := 27) dL_planCell_12 rfl ?_
    refine v_iconst C (v := 0) dL_planCell_27 rfl rfl ?_
    exact v_iret C (by decide) (by decide) dL_planCell_28 ⟨by rw [h0], Or.inr ⟨h0, h2⟩⟩
