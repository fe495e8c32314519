abbrev r_X1_init : Room := { frames := 1, cells := 2, slots := 80, locals := 13 }
theorem c_X1_init {l : Launch} {G : GG} {w : va_W} {h q0 : Nat} (hst : l.stackTraces = false) (hG : GOK G) (hw : w[q0]? = some (h, Sum.inr (2, [.null, .null, .int 0, .int 0]))) : Mth l yX1_init cX1_init 1 none r_X1_init G w [.ref h] (fun v w1 => v = none ∧ ∃ b1 b2 : Nat, w1 = (w.set q0 (h, Sum.inr (2, [.ref b1, .ref b2, .int 0, .int 0]))) ++ [(b1, Sum.inl (G.2.2.1 0, 40, Sum.inl (fun _ => 0))), (b2, Sum.inl (G.2.2.1 0, 40, Sum.inl (fun _ => 0)))]) nX := by
  have hlt : q0 < w.length := (List.getElem?_eq_some_iff.mp hw).1
  refine mth_of rfl (Nat.le_of_ble_eq_true rfl) hst hG (fun X hX C0 => ?_)
  subst hX
  have C : Cx X G cX1_init 1 RX1 none r_X1_init "<init>" [] := C0
  clear C0
  show V X G 1 _ 0 0 _ 0 [(0, .ref h)] []
  refine v_aload_n C dX1_init_0 rfl 0 rfl ?_
  refine v_objInit C L_X1_3 obj_i obj_c (by decide) (Nat.le_of_ble_eq_true rfl) dX1_init_1 rfl ?_
  refine v_aload_n C dX1_init_4 rfl 0 rfl ?_
  refine v_bipush C (v := 40) dX1_init_5 rfl rfl ?_
  refine v_newI C (N := 40) arr_i (by decide) rfl (by decide) (by decide) (by decide) dX1_init_7 rfl (fun b1 => ?_)
  refine xx_w (w' := (w) ++ [(b1, Sum.inl (G.2.2.1 0, 40, Sum.inl (fun _ => 0)))]) (by simp) ?_
  refine v_putF C f_X1_9 ⟨q0, (ap_l hw), rfl⟩ rfl rfl (Nat.le_of_ble_eq_true rfl) dX1_init_9 rfl ?_
  refine xx_w (w' := (w.set q0 (h, Sum.inr (2, [.ref b1, .null, .int 0, .int 0]))) ++ [(b1, Sum.inl (G.2.2.1 0, 40, Sum.inl (fun _ => 0)))]) (by rw [ap_set (by simpa using hlt)]; first | rfl | (rw [List.set_set]; rfl)) ?_
  refine v_aload_n C dX1_init_12 rfl 0 rfl ?_
  refine v_bipush C (v := 40) dX1_init_13 rfl rfl ?_
  refine v_newI C (N := 40) arr_i (by decide) rfl (by decide) (by decide) (by decide) dX1_init_15 rfl (fun b2 => ?_)
  refine xx_w (w' := (w.set q0 (h, Sum.inr (2, [.ref b1, .null, .int 0, .int 0]))) ++ [(b1, Sum.inl (G.2.2.1 0, 40, Sum.inl (fun _ => 0))), (b2, Sum.inl (G.2.2.1 0, 40, Sum.inl (fun _ => 0)))]) (by simp) ?_
  refine v_putF C f_X1_15 ⟨q0, (ap_l (List.getElem?_set_self (by simpa using hlt))), rfl⟩ rfl rfl (Nat.le_of_ble_eq_true rfl) dX1_init_17 rfl ?_
  refine xx_w (w' := (w.set q0 (h, Sum.inr (2, [.ref b1, .ref b2, .int 0, .int 0]))) ++ [(b1, Sum.inl (G.2.2.1 0, 40, Sum.inl (fun _ => 0))), (b2, Sum.inl (G.2.2.1 0, 40, Sum.inl (fun _ => 0)))]) (by rw [ap_set (by simpa using hlt)]; first | rfl | (rw [List.set_set]; rfl)) ?_
  refine v_aload_n C dX1_init_20 rfl 0 rfl ?_
  refine v_iconst C (v := 0) dX1_init_21 rfl rfl ?_
  refine v_put C f_X1_18 ⟨q0, (ap_l (List.getElem?_set_self (by simpa using hlt))), rfl⟩ rfl rfl (Nat.le_of_ble_eq_true rfl) dX1_init_22 rfl ?_
  refine xx_w (w' := (w.set q0 (h, Sum.inr (2, [.ref b1, .ref b2, .int 0, .int 0]))) ++ [(b1, Sum.inl (G.2.2.1 0, 40, Sum.inl (fun _ => 0))), (b2, Sum.inl (G.2.2.1 0, 40, Sum.inl (fun _ => 0)))]) (by rw [ap_set (by simpa using hlt)]; first | rfl | (rw [List.set_set]; rfl)) ?_
  refine v_aload_n C dX1_init_25 rfl 0 rfl ?_
  refine v_iconst C (v := 0) dX1_init_26 rfl rfl ?_
  refine v_put C f_X1_22 ⟨q0, (ap_l (List.getElem?_set_self (by simpa using hlt))), rfl⟩ rfl rfl (Nat.le_of_ble_eq_true rfl) dX1_init_27 rfl ?_
  refine xx_w (w' := (w.set q0 (h, Sum.inr (2, [.ref b1, .ref b2, .int 0, .int 0]))) ++ [(b1, Sum.inl (G.2.2.1 0, 40, Sum.inl (fun _ => 0))), (b2, Sum.inl (G.2.2.1 0, 40, Sum.inl (fun _ => 0)))]) (by rw [ap_set (by simpa using hlt)]; first | rfl | (rw [List.set_set]; rfl)) ?_
  exact v_vret C (by decide) (by decide) dX1_init_30 ⟨rfl, b1, b2, rfl⟩
abbrev r_X6_init : Room := { frames := 1, cells := 2, slots := 40, locals := 13 }
theorem c_X6_init {l : Launch} {G : GG} {w : va_W} {h q0 : Nat} (hst : l.stackTraces = false) (hG : GOK G) (hw : w[q0]? = some (h, Sum.inr (6, [.null, .null, .int 0]))) : Mth l yX6_init cX6_init 1 none r_X6_init G w [.ref h] (fun v w1 => v = none ∧ ∃ b1 b2 : Nat, w1 = (w.set q0 (h, Sum.inr (6, [.ref b1, .ref b2, .int 50]))) ++ [(b1, Sum.inl (G.2.2.1 0, 20, Sum.inl (fun _ => 0))), (b2, Sum.inl (G.2.2.1 0, 20, Sum.inl (fun _ => 0)))]) nX := by
  have hlt : q0 < w.length := (List.getElem?_eq_some_iff.mp hw).1
  refine mth_of rfl (Nat.le_of_ble_eq_true rfl) hst hG (fun X hX C0 => ?_)
  subst hX
  have C : Cx X G cX6_init 1 RX6 none r_X6_init "<init>" [] := C0
  clear C0
  show V X G 1 _ 0 0 _ 0 [(0, .ref h)] []
  refine v_aload_n C dX6_init_0 rfl 0 rfl ?_
  refine v_objInit C L_X6_3 obj_i obj_c (by decide) (Nat.le_of_ble_eq_true rfl) dX6_init_1 rfl ?_
  refine v_aload_n C dX6_init_4 rfl 0 rfl ?_
  refine v_bipush C (v := 20) dX6_init_5 rfl rfl ?_
  refine v_newI C (N := 20) arr_i (by decide) rfl (by decide) (by decide) (by decide) dX6_init_7 rfl (fun b1 => ?_)
  refine xx_w (w' := (w) ++ [(b1, Sum.inl (G.2.2.1 0, 20, Sum.inl (fun _ => 0)))]) (by simp) ?_
  refine v_putF C f_X6_9 ⟨q0, (ap_l hw), rfl⟩ rfl rfl (Nat.le_of_ble_eq_true rfl) dX6_init_9 rfl ?_
  refine xx_w (w' := (w.set q0 (h, Sum.inr (6, [.ref b1, .null, .int 0]))) ++ [(b1, Sum.inl (G.2.2.1 0, 20, Sum.inl (fun _ => 0)))]) (by rw [ap_set (by simpa using hlt)]; first | rfl | (rw [List.set_set]; rfl)) ?_
  refine v_aload_n C dX6_init_12 rfl 0 rfl ?_
  refine v_bipush C (v := 20) dX6_init_13 rfl rfl ?_
  refine v_newI C (N := 20) arr_i (by decide) rfl (by decide) (by decide) (by decide) dX6_init_15 rfl (fun b2 => ?_)
  refine xx_w (w' := (w.set q0 (h, Sum.inr (6, [.ref b1, .null, .int 0]))) ++ [(b1, Sum.inl (G.2.2.1 0, 20, Sum.inl (fun _ => 0))), (b2, Sum.inl (G.2.2.1 0, 20, Sum.inl (fun _ => 0)))]) (by simp) ?_
  refine v_putF C f_X6_15 ⟨q0, (ap_l (List.getElem?_set_self (by simpa using hlt))), rfl⟩ rfl rfl (Nat.le_of_ble_eq_true rfl) dX6_init_17 rfl ?_
  refine xx_w (w' := (w.set q0 (h, Sum.inr (6, [.ref b1, .ref b2, .int 0]))) ++ [(b1, Sum.inl (G.2.2.1 0, 20, Sum.inl (fun _ => 0))), (b2, Sum.inl (G.2.2.1 0, 20, Sum.inl (fun _ => 0)))]) (by rw [ap_set (by simpa using hlt)]; first | rfl | (rw [List.set_set]; rfl)) ?_
  refine v_aload_n C dX6_init_20 rfl 0 rfl ?_
  refine v_bipush C (v := 50) dX6_init_21 rfl rfl ?_
  refine v_put C f_X6_18 ⟨q0, (ap_l (List.getElem?_set_self (by simpa using hlt))), rfl⟩ rfl rfl (Nat.le_of_ble_eq_true rfl) dX6_init_23 rfl ?_
  refine xx_w (w' := (w.set q0 (h, Sum.inr (6, [.ref b1, .ref b2, .int 50]))) ++ [(b1, Sum.inl (G.2.2.1 0, 20, Sum.inl (fun _ => 0))), (b2, Sum.inl (G.2.2.1 0, 20, Sum.inl (fun _ => 0)))]) (by rw [ap_set (by simpa using hlt)]; first | rfl | (rw [List.set_set]; rfl)) ?_
  exact v_vret C (by decide) (by decide) dX6_init_26 ⟨rfl, b1, b2, rfl⟩
