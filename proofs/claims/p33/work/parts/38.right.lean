theorem obj_i : Cond.instanceMethod objectInit ∈ wA := (q1 31 rfl rfl)
theorem obj_c : Cond.code objectInit ⟨#[0xb1]⟩ 1 none ∈ wA := (q1 32 rfl rfl)
abbrev r_X4_init : Room := { frames := 1, cells := 0, slots := 0, locals := 12 }
/-- a right is made: over any world that holds the new cell -/
theorem c_X4_init {l : Launch} {G : GG} {w : va_W} {h q0 : Nat} {o i : Int32} (hst : l.stackTraces = false) (hG : GOK G) (hw : w[q0]? = some (h, Sum.inr (4, [.int 0, .int 0]))) : Mth l yX4_init cX4_init 3 none r_X4_init G w [.ref h, .int o, .int i] (RV (w.set q0 (h, Sum.inr (4, [.int o, .int i]))) True) nX := by
  have hlt : q0 < w.length := (List.getElem?_eq_some_iff.mp hw).1
  refine mth_of rfl (Nat.le_of_ble_eq_true rfl) hst hG (fun X hX C0 => ?_)
  subst hX
  have C : Cx X G cX4_init 3 RX4 none r_X4_init "<init>" [] := C0
  clear C0
  show V X G 3 _ 0 0 _ 0 [(0, .ref h), (1, .int o), (2, .int i)] []
  refine v_aload_n C dX4_init_0 rfl 0 rfl ?_
  refine v_objInit C L_X4_1 obj_i obj_c (by decide) (Nat.le_of_ble_eq_true rfl) dX4_init_1 rfl ?_
  refine v_aload_n C dX4_init_4 rfl 0 rfl ?_
  refine v_iload_n C dX4_init_5 rfl 1 rfl ?_
  refine v_putF C f_X4_7 ⟨q0, hw, rfl⟩ rfl rfl (Nat.le_of_ble_eq_true rfl) dX4_init_6 rfl ?_
  refine v_aload_n C dX4_init_9 rfl 0 rfl ?_
  refine v_iload_n C dX4_init_10 rfl 2 rfl ?_
  refine v_putF C f_X4_13 ⟨q0, List.getElem?_set_self hlt, rfl⟩ rfl rfl (Nat.le_of_ble_eq_true rfl) dX4_init_11 rfl ?_
  exact v_vret C (by decide) (by decide) dX4_init_14 ⟨rfl, by rw [List.set_set]; rfl, trivial⟩
