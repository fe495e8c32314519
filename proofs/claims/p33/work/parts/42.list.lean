theorem dflt_Z {X : XS} {G : GG} {cc : ByteArray} {nL : Nat} {own : String} {ret : Option FieldType} {rm : Room} {nm : String} {tb : List ExceptionTableEntry} (C : Cx X G cc nL own ret rm nm tb) : va_Z "java/util/ArrayList" "DEFAULTCAPACITY_EMPTY_ELEMENTDATA" "[Ljava/lang/Object;" (.ref (G.2.2.1 10)) (gA G) X.2.2.2.2.1 X.2.2.2.2.1.heap := by
  obtain ⟨-, -, -, -, -, h, -⟩ := cx_sf C
  exact h
abbrev r_Jxa1e45_init_da8c8 : Room := { frames := 1, cells := 0, slots := 0, locals := 12 }
theorem c_Jxa1e45_init_da8c8 {l : Launch} {G : GG} {w : va_W} {h : Nat} (hst : l.stackTraces = false) (hG : GOK G) : Mth l yJxa1e45_init_da8c8 cJxa1e45_init_da8c8 1 none r_Jxa1e45_init_da8c8 G w [.ref h] (RV w True) nX := by
  refine mth_of rfl (Nat.le_of_ble_eq_true rfl) hst hG (fun X hX C0 => ?_)
  subst hX
  have C : Cx X G cJxa1e45_init_da8c8 1 RJxa1e45 none r_Jxa1e45_init_da8c8 "<init>" [] := C0
  clear C0
  show V X G 1 _ 0 0 _ 0 [(0, .ref h)] []
  refine v_aload_n C dJxa1e45_init_da8c8_0 rfl 0 rfl ?_
  refine v_objInit C L_Jxa1e45_1 obj_i obj_c (by decide) (Nat.le_of_ble_eq_true rfl) dJxa1e45_init_da8c8_1 rfl ?_
  exact v_vret C (by decide) (by decide) dJxa1e45_init_da8c8_4 ⟨rfl, rfl, trivial⟩
abbrev r_Jxc12de_init_da8c8 : Room := { frames := 2, cells := 0, slots := 0, locals := 32 }
theorem c_Jxc12de_init_da8c8 {l : Launch} {G : GG} {w : va_W} {h q0 : Nat} (hst : l.stackTraces = false) (hG : GOK G) (hw : w[q0]? = some (h, Sum.inr (0, [.int 0, .null, .int 0]))) : Mth l yJxc12de_init_da8c8 cJxc12de_init_da8c8 1 none r_Jxc12de_init_da8c8 G w [.ref h] (RV w True) nX := by
  have hlt : q0 < w.length := (List.getElem?_eq_some_iff.mp hw).1
  refine mth_of rfl (Nat.le_of_ble_eq_true rfl) hst hG (fun X hX C0 => ?_)
  subst hX
  have C : Cx X G cJxc12de_init_da8c8 1 RJxc12de none r_Jxc12de_init_da8c8 "<init>" [] := C0
  clear C0
  show V X G 1 _ 0 0 _ 0 [(0, .ref h)] []
  refine v_aload_n C dJxc12de_init_da8c8_0 rfl 0 rfl ?_
  refine w_invI C [] 0 0 L_Jxc12de_1 (c_Jxa1e45_init_da8c8 hst hG) rfl rfl rfl dJxc12de_init_da8c8_1 rfl (fun v w1 hv => ?_)
  obtain ⟨rfl, rfl, -⟩ := hv
  refine v_aload_n C dJxc12de_init_da8c8_4 rfl 0 rfl ?_
  refine v_iconst C (v := 0) dJxc12de_init_da8c8_5 rfl rfl ?_
  refine v_put C f_Jxc12de_7 ⟨q0, hw, rfl⟩ rfl rfl (Nat.le_of_ble_eq_true rfl) dJxc12de_init_da8c8_6 rfl ?_
  refine v_vret C (by decide) (by decide) dJxc12de_init_da8c8_9 ⟨rfl, ?_, trivial⟩
  show w1.set q0 (h, Sum.inr (0, [.int 0, .null, .int 0])) = w1
  obtain ⟨e1, e2⟩ := List.getElem?_eq_some_iff.mp hw
  rw [← e2, List.set_getElem_self]
abbrev r_Jx4a65c_init_da8c8 : Room := { frames := 3, cells := 0, slots := 0, locals := 52 }
/-- a list is made -/
theorem c_Jx4a65c_init_da8c8 {l : Launch} {G : GG} {w : va_W} {h q0 : Nat} (hst : l.stackTraces = false) (hG : GOK G) (hw : w[q0]? = some (h, Sum.inr (0, [.int 0, .null, .int 0]))) : Mth l yJx4a65c_init_da8c8 cJx4a65c_init_da8c8 1 none r_Jx4a65c_init_da8c8 G w [.ref h] (RV (w.set q0 (h, Sum.inr (0, [.int 0, .ref (G.2.2.1 10), .int 0]))) True) nX := by
  have hlt : q0 < w.length := (List.getElem?_eq_some_iff.mp hw).1
  refine mth_of rfl (Nat.le_of_ble_eq_true rfl) hst hG (fun X hX C0 => ?_)
  subst hX
  have C : Cx X G cJx4a65c_init_da8c8 1 RJx4a65c none r_Jx4a65c_init_da8c8 "<init>" [] := C0
  clear C0
  show V X G 1 _ 0 0 _ 0 [(0, .ref h)] []
  refine v_aload_n C dJx4a65c_init_da8c8_0 rfl 0 rfl ?_
  refine w_invI C [] 0 0 L_Jx4a65c_1 (c_Jxc12de_init_da8c8 hst hG hw) rfl rfl rfl dJx4a65c_init_da8c8_1 rfl (fun v w1 hv => ?_)
  obtain ⟨rfl, rfl, -⟩ := hv
  refine v_aload_n C dJx4a65c_init_da8c8_4 rfl 0 rfl ?_
  refine v_gets C S_Jx4a65c_39 (dflt_Z C) dJx4a65c_init_da8c8_5 rfl ?_
  refine v_put C f_Jx4a65c_9 ⟨q0, hw, rfl⟩ rfl rfl (Nat.le_of_ble_eq_true rfl) dJx4a65c_init_da8c8_8 rfl ?_
  exact v_vret C (by decide) (by decide) dJx4a65c_init_da8c8_11 ⟨rfl, rfl, trivial⟩
