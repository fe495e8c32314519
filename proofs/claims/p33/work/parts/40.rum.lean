theorem arr_i : Cond.arrayClass .int ∈ wA := (q1 54 rfl rfl)
theorem ap_l {w w2 : va_W} {q0 : Nat} {e : Nat × va_E} (h : w[q0]? = some e) : (w ++ w2)[q0]? = some e := by
  have hlt : q0 < w.length := (List.getElem?_eq_some_iff.mp h).1
  rw [List.getElem?_append_left hlt]
  exact h
theorem ap_set {w w2 : va_W} {q0 : Nat} {e : Nat × va_E} (h : q0 < w.length) : (w ++ w2).set q0 e = w.set q0 e ++ w2 := by
  rw [List.set_append_left _ _ h]
abbrev r_X5_init : Room := { frames := 1, cells := 1, slots := 40, locals := 13 }
/-- the rumours are made: a new row behind the world -/
theorem c_X5_init {l : Launch} {G : GG} {w : va_W} {h q0 : Nat} (hst : l.stackTraces = false) (hG : GOK G) (hw : w[q0]? = some (h, Sum.inr (5, [.null]))) : Mth l yX5_init cX5_init 1 none r_X5_init G w [.ref h] (fun v w1 => v = none ∧ ∃ b : Nat, w1 = w.set q0 (h, Sum.inr (5, [.ref b])) ++ [(b, Sum.inl (G.2.2.1 0, 40, Sum.inl (fun _ => 0)))]) nX := by
  have hlt : q0 < w.length := (List.getElem?_eq_some_iff.mp hw).1
  refine mth_of rfl (Nat.le_of_ble_eq_true rfl) hst hG (fun X hX C0 => ?_)
  subst hX
  have C : Cx X G cX5_init 1 RX5 none r_X5_init "<init>" [] := C0
  clear C0
  show V X G 1 _ 0 0 _ 0 [(0, .ref h)] []
  refine v_aload_n C dX5_init_0 rfl 0 rfl ?_
  refine v_objInit C L_X5_3 obj_i obj_c (by decide) (Nat.le_of_ble_eq_true rfl) dX5_init_1 rfl ?_
  refine v_aload_n C dX5_init_4 rfl 0 rfl ?_
  refine v_bipush C (v := 40) dX5_init_5 rfl rfl ?_
  refine v_newI C (N := 40) arr_i (by decide) rfl (by decide) (by decide) (by decide) dX5_init_7 rfl (fun b => ?_)
  refine v_putF C f_X5_9 ⟨q0, ap_l hw, rfl⟩ rfl rfl (Nat.le_of_ble_eq_true rfl) dX5_init_9 rfl ?_
  refine xx_w (w' := w.set q0 (h, Sum.inr (5, [.ref b])) ++ [(b, Sum.inl (G.2.2.1 0, 40, Sum.inl (fun _ => 0)))]) (ap_set hlt) ?_
  exact v_vret C (by decide) (by decide) dX5_init_12 ⟨rfl, b, rfl⟩
