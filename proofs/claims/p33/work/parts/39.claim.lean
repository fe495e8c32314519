abbrev r_X0_init : Room := { frames := 1, cells := 0, slots := 0, locals := 12 }
theorem c_X0_init {l : Launch} {G : GG} {w : va_W} {h q0 : Nat} {o t_ m dw dd : Int32} (hst : l.stackTraces = false) (hG : GOK G) (hw : w[q0]? = some (h, Sum.inr (1, [.int 0, .int 0, .int 0, .int 0, .int 0, .int 0, .int 0, .int 0, .int 0, .int 0, .int 0]))) : Mth l yX0_init cX0_init 6 none r_X0_init G w [.ref h, .int o, .int t_, .int m, .int dw, .int dd] (RV (w.set q0 (h, Sum.inr (1, [.int t_, .int m, .int dw, .int o, .int dd, .int 1, .int (-1), .int (-1), .int 0, .int 0, .int 0]))) True) nX := by
  have hlt : q0 < w.length := (List.getElem?_eq_some_iff.mp hw).1
  refine mth_of rfl (Nat.le_of_ble_eq_true rfl) hst hG (fun X hX C0 => ?_)
  subst hX
  have C : Cx X G cX0_init 6 RX0 none r_X0_init "<init>" [] := C0
  clear C0
  show V X G 6 _ 0 0 _ 0 [(0, .ref h), (1, .int o), (2, .int t_), (3, .int m), (4, .int dw), (5, .int dd)] []
  refine v_aload_n C dX0_init_0 rfl 0 rfl ?_
  refine v_objInit C L_X0_3 obj_i obj_c (by decide) (Nat.le_of_ble_eq_true rfl) dX0_init_1 rfl ?_
  refine v_aload_n C dX0_init_4 rfl 0 rfl ?_
  refine v_iconst C (v := 1) dX0_init_5 rfl rfl ?_
  refine v_put C f_X0_9 ⟨q0, hw, rfl⟩ rfl rfl (Nat.le_of_ble_eq_true rfl) dX0_init_6 rfl ?_
  refine xx_w (w' := w.set q0 (h, Sum.inr (1, [.int 0, .int 0, .int 0, .int 0, .int 0, .int 1, .int 0, .int 0, .int 0, .int 0, .int 0]))) rfl ?_
  refine v_aload_n C dX0_init_9 rfl 0 rfl ?_
  refine v_iconst C (v := (-1)) dX0_init_10 rfl rfl ?_
  refine v_put C f_X0_15 ⟨q0, List.getElem?_set_self (by simpa using hlt), rfl⟩ rfl rfl (Nat.le_of_ble_eq_true rfl) dX0_init_11 rfl ?_
  refine xx_w (w' := w.set q0 (h, Sum.inr (1, [.int 0, .int 0, .int 0, .int 0, .int 0, .int 1, .int (-1), .int 0, .int 0, .int 0, .int 0]))) (by rw [List.set_set]; rfl) ?_
  refine v_aload_n C dX0_init_14 rfl 0 rfl ?_
  refine v_iconst C (v := (-1)) dX0_init_15 rfl rfl ?_
  refine v_put C f_X0_19 ⟨q0, List.getElem?_set_self (by simpa using hlt), rfl⟩ rfl rfl (Nat.le_of_ble_eq_true rfl) dX0_init_16 rfl ?_
  refine xx_w (w' := w.set q0 (h, Sum.inr (1, [.int 0, .int 0, .int 0, .int 0, .int 0, .int 1, .int (-1), .int (-1), .int 0, .int 0, .int 0]))) (by rw [List.set_set]; rfl) ?_
  refine v_aload_n C dX0_init_19 rfl 0 rfl ?_
  refine v_iconst C (v := 0) dX0_init_20 rfl rfl ?_
  refine v_put C f_X0_22 ⟨q0, List.getElem?_set_self (by simpa using hlt), rfl⟩ rfl rfl (Nat.le_of_ble_eq_true rfl) dX0_init_21 rfl ?_
  refine xx_w (w' := w.set q0 (h, Sum.inr (1, [.int 0, .int 0, .int 0, .int 0, .int 0, .int 1, .int (-1), .int (-1), .int 0, .int 0, .int 0]))) (by rw [List.set_set]; rfl) ?_
  refine v_aload_n C dX0_init_24 rfl 0 rfl ?_
  refine v_iconst C (v := 0) dX0_init_25 rfl rfl ?_
  refine v_put C f_X0_25 ⟨q0, List.getElem?_set_self (by simpa using hlt), rfl⟩ rfl rfl (Nat.le_of_ble_eq_true rfl) dX0_init_26 rfl ?_
  refine xx_w (w' := w.set q0 (h, Sum.inr (1, [.int 0, .int 0, .int 0, .int 0, .int 0, .int 1, .int (-1), .int (-1), .int 0, .int 0, .int 0]))) (by rw [List.set_set]; rfl) ?_
  refine v_aload_n C dX0_init_29 rfl 0 rfl ?_
  refine v_iconst C (v := 0) dX0_init_30 rfl rfl ?_
  refine v_put C f_X0_28 ⟨q0, List.getElem?_set_self (by simpa using hlt), rfl⟩ rfl rfl (Nat.le_of_ble_eq_true rfl) dX0_init_31 rfl ?_
  refine xx_w (w' := w.set q0 (h, Sum.inr (1, [.int 0, .int 0, .int 0, .int 0, .int 0, .int 1, .int (-1), .int (-1), .int 0, .int 0, .int 0]))) (by rw [List.set_set]; rfl) ?_
  refine v_aload_n C dX0_init_34 rfl 0 rfl ?_
  refine v_iload_n C dX0_init_35 rfl 1 rfl ?_
  refine v_put C f_X0_31 ⟨q0, List.getElem?_set_self (by simpa using hlt), rfl⟩ rfl rfl (Nat.le_of_ble_eq_true rfl) dX0_init_36 rfl ?_
  refine xx_w (w' := w.set q0 (h, Sum.inr (1, [.int 0, .int 0, .int 0, .int o, .int 0, .int 1, .int (-1), .int (-1), .int 0, .int 0, .int 0]))) (by rw [List.set_set]; rfl) ?_
  refine v_aload_n C dX0_init_39 rfl 0 rfl ?_
  refine v_iload_n C dX0_init_40 rfl 2 rfl ?_
  refine v_putF C f_X0_34 ⟨q0, List.getElem?_set_self (by simpa using hlt), rfl⟩ rfl rfl (Nat.le_of_ble_eq_true rfl) dX0_init_41 rfl ?_
  refine xx_w (w' := w.set q0 (h, Sum.inr (1, [.int t_, .int 0, .int 0, .int o, .int 0, .int 1, .int (-1), .int (-1), .int 0, .int 0, .int 0]))) (by rw [List.set_set]; rfl) ?_
  refine v_aload_n C dX0_init_44 rfl 0 rfl ?_
  refine v_iload_n C dX0_init_45 rfl 3 rfl ?_
  refine v_putF C f_X0_37 ⟨q0, List.getElem?_set_self (by simpa using hlt), rfl⟩ rfl rfl (Nat.le_of_ble_eq_true rfl) dX0_init_46 rfl ?_
  refine xx_w (w' := w.set q0 (h, Sum.inr (1, [.int t_, .int m, .int 0, .int o, .int 0, .int 1, .int (-1), .int (-1), .int 0, .int 0, .int 0]))) (by rw [List.set_set]; rfl) ?_
  refine v_aload_n C dX0_init_49 rfl 0 rfl ?_
  refine v_iload C dX0_init_50 rfl 4 rfl ?_
  refine v_putF C f_X0_40 ⟨q0, List.getElem?_set_self (by simpa using hlt), rfl⟩ rfl rfl (Nat.le_of_ble_eq_true rfl) dX0_init_52 rfl ?_
  refine xx_w (w' := w.set q0 (h, Sum.inr (1, [.int t_, .int m, .int dw, .int o, .int 0, .int 1, .int (-1), .int (-1), .int 0, .int 0, .int 0]))) (by rw [List.set_set]; rfl) ?_
  refine v_aload_n C dX0_init_55 rfl 0 rfl ?_
  refine v_iload C dX0_init_56 rfl 5 rfl ?_
  refine v_put C f_X0_43 ⟨q0, List.getElem?_set_self (by simpa using hlt), rfl⟩ rfl rfl (Nat.le_of_ble_eq_true rfl) dX0_init_58 rfl ?_
  refine xx_w (w' := w.set q0 (h, Sum.inr (1, [.int t_, .int m, .int dw, .int o, .int dd, .int 1, .int (-1), .int (-1), .int 0, .int 0, .int 0]))) (by rw [List.set_set]; rfl) ?_
  exact v_vret C (by decide) (by decide) dX0_init_61 ⟨rfl, rfl, trivial⟩
