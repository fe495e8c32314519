/-- a miner is made: two rows behind the world, no salting anywhere -/
abbrev r_X3_init : Room := { frames := 1, cells := 2, slots := 52, locals := 13 }
def fillM (n : Nat) : Nat → Int32 := fun j => if j < n then -1 else 0
theorem fillM_s {n : Nat} : upd (fillM n) n (-1) = fillM (n + 1) := by
  funext j
  unfold upd fillM
  by_cases h : j = n
  · rw [if_pos h, if_pos (by omega)]
  · rw [if_neg h]
    by_cases h2 : j < n
    · rw [if_pos h2, if_pos (by omega)]
    · rw [if_neg h2, if_neg (by omega)]
theorem fillM_0 : fillM 0 = fun _ => 0 := funext fun j => if_neg (Nat.not_lt_zero j)
theorem mi_put {w : va_W} {e1 : Nat × va_E} {b2 c0 n : Nat} {f f' g : Nat → Int32} (h : g = f') : ∃ q0 : Nat, (w ++ [e1, (b2, Sum.inl (c0, n, Sum.inl f))])[q0]? = some (b2, Sum.inl (c0, n, Sum.inl f)) ∧ (w ++ [e1, (b2, Sum.inl (c0, n, Sum.inl f))]).set q0 (b2, Sum.inl (c0, n, Sum.inl g)) = w ++ [e1, (b2, Sum.inl (c0, n, Sum.inl f'))] := by
  subst h
  refine ⟨w.length + 1, ?_, ?_⟩
  · rw [List.getElem?_append_right (by omega)]
    simp
  · rw [List.set_append_right _ _ (by omega)]
    simp
theorem c_X3_init {l : Launch} {G : GG} {w : va_W} {h q0 : Nat} {f c : Int32} (hst : l.stackTraces = false) (hG : GOK G) (hw : w[q0]? = some (h, Sum.inr (3, [.null, .null, .int 0, .int 0, .int 0, .int 0, .int 0, .int 0, .int 0]))) : Mth l yX3_init cX3_init 4 none r_X3_init G w [.ref h, .int f, .int c] (fun v w1 => v = none ∧ ∃ b1 b2 : Nat, w1 = (w.set q0 (h, Sum.inr (3, [.ref b1, .ref b2, .int 0, .int 0, .int f, .int c, .int 10, .int 0, .int (-1)]))) ++ [(b1, Sum.inl (G.2.2.1 0, 12, Sum.inl (fun _ => 0))), (b2, Sum.inl (G.2.2.1 0, 40, Sum.inl (fillM 40)))]) nX := by
  have hlt : q0 < w.length := (List.getElem?_eq_some_iff.mp hw).1
  refine mth_of rfl (Nat.le_of_ble_eq_true rfl) hst hG (fun X hX C0 => ?_)
  subst hX
  have C : Cx X G cX3_init 4 RX3 none r_X3_init "<init>" [] := C0
  clear C0
  show V X G 4 _ 0 0 _ 0 [(0, .ref h), (1, .int f), (2, .int c)] []
  refine v_aload_n C dX3_init_0 rfl 0 rfl ?_
  refine v_objInit C L_X3_3 obj_i obj_c (by decide) (Nat.le_of_ble_eq_true rfl) dX3_init_1 rfl ?_
  refine v_aload_n C dX3_init_4 rfl 0 rfl ?_
  refine v_bipush C (v := 12) dX3_init_5 rfl rfl ?_
  refine v_newI C (N := 12) arr_i (by decide) rfl (by decide) (by decide) (by decide) dX3_init_7 rfl (fun b1 => ?_)
  refine xx_w (w' := (w) ++ [(b1, Sum.inl (G.2.2.1 0, 12, Sum.inl (fun _ => 0)))]) (by simp) ?_
  refine v_putF C f_X3_9 ⟨q0, (ap_l hw), rfl⟩ rfl rfl (Nat.le_of_ble_eq_true rfl) dX3_init_9 rfl ?_
  refine xx_w (w' := (w.set q0 (h, Sum.inr (3, [.ref b1, .null, .int 0, .int 0, .int 0, .int 0, .int 0, .int 0, .int 0]))) ++ [(b1, Sum.inl (G.2.2.1 0, 12, Sum.inl (fun _ => 0)))]) (by rw [ap_set (by simpa using hlt)]; first | rfl | (rw [List.set_set]; rfl)) ?_
  refine v_aload_n C dX3_init_12 rfl 0 rfl ?_
  refine v_bipush C (v := 40) dX3_init_13 rfl rfl ?_
  refine v_newI C (N := 40) arr_i (by decide) rfl (by decide) (by decide) (by decide) dX3_init_15 rfl (fun b2 => ?_)
  refine xx_w (w' := (w.set q0 (h, Sum.inr (3, [.ref b1, .null, .int 0, .int 0, .int 0, .int 0, .int 0, .int 0, .int 0]))) ++ [(b1, Sum.inl (G.2.2.1 0, 12, Sum.inl (fun _ => 0))), (b2, Sum.inl (G.2.2.1 0, 40, Sum.inl (fun _ => 0)))]) (by simp) ?_
  refine v_putF C f_X3_15 ⟨q0, (ap_l (List.getElem?_set_self (by simpa using hlt))), rfl⟩ rfl rfl (Nat.le_of_ble_eq_true rfl) dX3_init_17 rfl ?_
  refine xx_w (w' := (w.set q0 (h, Sum.inr (3, [.ref b1, .ref b2, .int 0, .int 0, .int 0, .int 0, .int 0, .int 0, .int 0]))) ++ [(b1, Sum.inl (G.2.2.1 0, 12, Sum.inl (fun _ => 0))), (b2, Sum.inl (G.2.2.1 0, 40, Sum.inl (fun _ => 0)))]) (by rw [ap_set (by simpa using hlt)]; first | rfl | (rw [List.set_set]; rfl)) ?_
  refine v_aload_n C dX3_init_20 rfl 0 rfl ?_
  refine v_iconst C (v := 0) dX3_init_21 rfl rfl ?_
  refine v_put C f_X3_18 ⟨q0, (ap_l (List.getElem?_set_self (by simpa using hlt))), rfl⟩ rfl rfl (Nat.le_of_ble_eq_true rfl) dX3_init_22 rfl ?_
  refine xx_w (w' := (w.set q0 (h, Sum.inr (3, [.ref b1, .ref b2, .int 0, .int 0, .int 0, .int 0, .int 0, .int 0, .int 0]))) ++ [(b1, Sum.inl (G.2.2.1 0, 12, Sum.inl (fun _ => 0))), (b2, Sum.inl (G.2.2.1 0, 40, Sum.inl (fun _ => 0)))]) (by rw [ap_set (by simpa using hlt)]; first | rfl | (rw [List.set_set]; rfl)) ?_
  refine v_aload_n C dX3_init_25 rfl 0 rfl ?_
  refine v_iconst C (v := 0) dX3_init_26 rfl rfl ?_
  refine v_put C f_X3_22 ⟨q0, (ap_l (List.getElem?_set_self (by simpa using hlt))), rfl⟩ rfl rfl (Nat.le_of_ble_eq_true rfl) dX3_init_27 rfl ?_
  refine xx_w (w' := (w.set q0 (h, Sum.inr (3, [.ref b1, .ref b2, .int 0, .int 0, .int 0, .int 0, .int 0, .int 0, .int 0]))) ++ [(b1, Sum.inl (G.2.2.1 0, 12, Sum.inl (fun _ => 0))), (b2, Sum.inl (G.2.2.1 0, 40, Sum.inl (fun _ => 0)))]) (by rw [ap_set (by simpa using hlt)]; first | rfl | (rw [List.set_set]; rfl)) ?_
  refine v_aload_n C dX3_init_30 rfl 0 rfl ?_
  refine v_bipush C (v := 10) dX3_init_31 rfl rfl ?_
  refine v_put C f_X3_25 ⟨q0, (ap_l (List.getElem?_set_self (by simpa using hlt))), rfl⟩ rfl rfl (Nat.le_of_ble_eq_true rfl) dX3_init_33 rfl ?_
  refine xx_w (w' := (w.set q0 (h, Sum.inr (3, [.ref b1, .ref b2, .int 0, .int 0, .int 0, .int 0, .int 10, .int 0, .int 0]))) ++ [(b1, Sum.inl (G.2.2.1 0, 12, Sum.inl (fun _ => 0))), (b2, Sum.inl (G.2.2.1 0, 40, Sum.inl (fun _ => 0)))]) (by rw [ap_set (by simpa using hlt)]; first | rfl | (rw [List.set_set]; rfl)) ?_
  refine v_aload_n C dX3_init_36 rfl 0 rfl ?_
  refine v_iconst C (v := 0) dX3_init_37 rfl rfl ?_
  refine v_put C f_X3_28 ⟨q0, (ap_l (List.getElem?_set_self (by simpa using hlt))), rfl⟩ rfl rfl (Nat.le_of_ble_eq_true rfl) dX3_init_38 rfl ?_
  refine xx_w (w' := (w.set q0 (h, Sum.inr (3, [.ref b1, .ref b2, .int 0, .int 0, .int 0, .int 0, .int 10, .int 0, .int 0]))) ++ [(b1, Sum.inl (G.2.2.1 0, 12, Sum.inl (fun _ => 0))), (b2, Sum.inl (G.2.2.1 0, 40, Sum.inl (fun _ => 0)))]) (by rw [ap_set (by simpa using hlt)]; first | rfl | (rw [List.set_set]; rfl)) ?_
  refine v_aload_n C dX3_init_41 rfl 0 rfl ?_
  refine v_iconst C (v := (-1)) dX3_init_42 rfl rfl ?_
  refine v_put C f_X3_31 ⟨q0, (ap_l (List.getElem?_set_self (by simpa using hlt))), rfl⟩ rfl rfl (Nat.le_of_ble_eq_true rfl) dX3_init_43 rfl ?_
  refine xx_w (w' := (w.set q0 (h, Sum.inr (3, [.ref b1, .ref b2, .int 0, .int 0, .int 0, .int 0, .int 10, .int 0, .int (-1)]))) ++ [(b1, Sum.inl (G.2.2.1 0, 12, Sum.inl (fun _ => 0))), (b2, Sum.inl (G.2.2.1 0, 40, Sum.inl (fun _ => 0)))]) (by rw [ap_set (by simpa using hlt)]; first | rfl | (rw [List.set_set]; rfl)) ?_
  refine v_aload_n C dX3_init_46 rfl 0 rfl ?_
  refine v_iload_n C dX3_init_47 rfl 1 rfl ?_
  refine v_put C f_X3_34 ⟨q0, (ap_l (List.getElem?_set_self (by simpa using hlt))), rfl⟩ rfl rfl (Nat.le_of_ble_eq_true rfl) dX3_init_48 rfl ?_
  refine xx_w (w' := (w.set q0 (h, Sum.inr (3, [.ref b1, .ref b2, .int 0, .int 0, .int f, .int 0, .int 10, .int 0, .int (-1)]))) ++ [(b1, Sum.inl (G.2.2.1 0, 12, Sum.inl (fun _ => 0))), (b2, Sum.inl (G.2.2.1 0, 40, Sum.inl (fun _ => 0)))]) (by rw [ap_set (by simpa using hlt)]; first | rfl | (rw [List.set_set]; rfl)) ?_
  refine v_aload_n C dX3_init_51 rfl 0 rfl ?_
  refine v_iload_n C dX3_init_52 rfl 2 rfl ?_
  refine v_put C f_X3_37 ⟨q0, (ap_l (List.getElem?_set_self (by simpa using hlt))), rfl⟩ rfl rfl (Nat.le_of_ble_eq_true rfl) dX3_init_53 rfl ?_
  refine xx_w (w' := (w.set q0 (h, Sum.inr (3, [.ref b1, .ref b2, .int 0, .int 0, .int f, .int c, .int 10, .int 0, .int (-1)]))) ++ [(b1, Sum.inl (G.2.2.1 0, 12, Sum.inl (fun _ => 0))), (b2, Sum.inl (G.2.2.1 0, 40, Sum.inl (fun _ => 0)))]) (by rw [ap_set (by simpa using hlt)]; first | rfl | (rw [List.set_set]; rfl)) ?_
  refine v_iconst C (v := 0) dX3_init_56 rfl rfl ?_
  refine v_istore_n C (lv1 := [(3, .int (0)), (0, .ref h), (1, .int f), (2, .int c)]) dX3_init_57 rfl (by decide) rfl ?_
  refine xx_wc (w2 := (w.set q0 (h, Sum.inr (3, [.ref b1, .ref b2, .int 0, .int 0, .int f, .int c, .int 10, .int 0, .int (-1)]))) ++ [(b1, Sum.inl (G.2.2.1 0, 12, Sum.inl (fun _ => 0))), (b2, Sum.inl (G.2.2.1 0, 40, Sum.inl (fillM 0)))]) (lv' := [(3, .int (nI 0)), (0, .ref h), (1, .int f), (2, .int c)]) (by rw [fillM_0]) rfl ?_
  refine xx_loop 40 0 (fun n => (w.set q0 (h, Sum.inr (3, [.ref b1, .ref b2, .int 0, .int 0, .int f, .int c, .int 10, .int 0, .int (-1)]))) ++ [(b1, Sum.inl (G.2.2.1 0, 12, Sum.inl (fun _ => 0))), (b2, Sum.inl (G.2.2.1 0, 40, Sum.inl (fillM n)))]) (fun n => [(3, .int (nI n)), (0, .ref h), (1, .int f), (2, .int c)]) (by omega) ?_
  intro n hn0 hn ih
  have hl2 : q0 < (w.set q0 (h, Sum.inr (3, [.ref b1, .ref b2, .int 0, .int 0, .int f, .int c, .int 10, .int 0, .int (-1)]))).length := by simpa using hlt
  have hob : (h, Sum.inr (3, [.ref b1, .ref b2, .int 0, .int 0, .int f, .int c, .int 10, .int 0, .int (-1)])) ∈ (w.set q0 (h, Sum.inr (3, [.ref b1, .ref b2, .int 0, .int 0, .int f, .int c, .int 10, .int 0, .int (-1)]))) ++ [(b1, Sum.inl (G.2.2.1 0, 12, Sum.inl (fun _ => 0))), (b2, Sum.inl (G.2.2.1 0, 40, Sum.inl (fillM n)))] := List.mem_append_left _ (List.mem_of_getElem? (List.getElem?_set_self hlt))
  have har : (b2, Sum.inl (G.2.2.1 0, 40, Sum.inl (fillM n))) ∈ (w.set q0 (h, Sum.inr (3, [.ref b1, .ref b2, .int 0, .int 0, .int f, .int c, .int 10, .int 0, .int (-1)]))) ++ [(b1, Sum.inl (G.2.2.1 0, 12, Sum.inl (fun _ => 0))), (b2, Sum.inl (G.2.2.1 0, 40, Sum.inl (fillM n)))] := List.mem_append_right _ (List.mem_cons_of_mem _ (List.mem_cons_self))
  refine v_iload_n C dX3_init_58 rfl 0 rfl ?_
  refine v_aload_n C dX3_init_59 rfl 1 rfl ?_
  refine v_get C (v := .ref b2) g_X3_15 hob rfl dX3_init_60 rfl ?_
  refine v_alen C (t := 0) (v := 40) har (by decide) rfl dX3_init_63 rfl ?_
  refine v_icN_ge C (t := 80) n 40 rfl rfl (by omega) (by omega) dX3_init_64 rfl rfl (fun h1 => ?_) (fun h1 => ?_)
  · have e : n = 40 := by omega
    subst e
    exact v_vret C (by decide) (by decide) dX3_init_80 ⟨rfl, b1, b2, rfl⟩
  · refine v_aload_n C dX3_init_67 rfl 1 rfl ?_
    refine v_get C (v := .ref b2) g_X3_15 hob rfl dX3_init_68 rfl ?_
    refine v_iload_n C dX3_init_71 rfl 0 rfl ?_
    refine v_iconst C (v := (-1)) dX3_init_72 rfl rfl ?_
    refine v_iastE C (w2 := (w.set q0 (h, Sum.inr (3, [.ref b1, .ref b2, .int 0, .int 0, .int f, .int c, .int 10, .int 0, .int (-1)]))) ++ [(b1, Sum.inl (G.2.2.1 0, 12, Sum.inl (fun _ => 0))), (b2, Sum.inl (G.2.2.1 0, 40, Sum.inl (fillM (n + 1))))]) n (mi_put (by rw [fillM_s])) (nI_clamp (by omega)) (pk_in n 40 (by omega)) dX3_init_73 rfl ?_
    refine v_iincN C (lv1 := [(3, .int (nI (n + 1))), (0, .ref h), (1, .int f), (2, .int c)]) n rfl dX3_init_74 rfl 0 rfl (by decide) rfl ?_
    refine v_goto C (q := 58) dX3_init_77 rfl ?_
    exact ih (by omega)
