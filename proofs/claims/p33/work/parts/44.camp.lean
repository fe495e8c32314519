theorem fa_s {P : Nat → Prop} {n : Nat} (h : ∀ j, j < n → P j) (h1 : P n) : ∀ j, j < n + 1 → P j := fun j hj => by
  rcases Nat.lt_succ_iff_lt_or_eq.mp hj with h2 | rfl
  · exact h j h2
  · exact h1
theorem df_Jx4a65c : ∀ j, j < 3 → defaultValue (tyJx4a65c j) = vp_V [.int 0, .null, .int 0] j := (fa_s (fa_s (fa_s (fun j h => absurd h (Nat.not_lt_zero j)) rfl) rfl) rfl)
theorem in_Jx4a65c : Cond.instantiable "java/util/ArrayList" 3 ∈ wA := (q1 83 rfl rfl)
theorem iz_Jx4a65c : Cond.initialized "java/util/ArrayList" ∈ wA := (q1 7 rfl rfl)
theorem df_X0 : ∀ j, j < 11 → defaultValue (tyX0 j) = vp_V [.int 0, .int 0, .int 0, .int 0, .int 0, .int 0, .int 0, .int 0, .int 0, .int 0, .int 0] j := (fa_s (fa_s (fa_s (fa_s (fa_s (fa_s (fa_s (fa_s (fa_s (fa_s (fa_s (fun j h => absurd h (Nat.not_lt_zero j)) rfl) rfl) rfl) rfl) rfl) rfl) rfl) rfl) rfl) rfl) rfl)
theorem in_X0 : Cond.instantiable "NuggetCamp$Claim" 11 ∈ wA := (q3 88 rfl rfl)
theorem iz_X0 : Cond.initialized "NuggetCamp$Claim" ∈ wA := (q1 21 rfl rfl)
theorem df_X1 : ∀ j, j < 4 → defaultValue (tyX1 j) = vp_V [.null, .null, .int 0, .int 0] j := (fa_s (fa_s (fa_s (fa_s (fun j h => absurd h (Nat.not_lt_zero j)) rfl) rfl) rfl) rfl)
theorem in_X1 : Cond.instantiable "NuggetCamp$Creek" 4 ∈ wA := (q1 34 rfl rfl)
theorem iz_X1 : Cond.initialized "NuggetCamp$Creek" ∈ wA := (q1 2 rfl rfl)
theorem df_X3 : ∀ j, j < 9 → defaultValue (tyX3 j) = vp_V [.null, .null, .int 0, .int 0, .int 0, .int 0, .int 0, .int 0, .int 0] j := (fa_s (fa_s (fa_s (fa_s (fa_s (fa_s (fa_s (fa_s (fa_s (fun j h => absurd h (Nat.not_lt_zero j)) rfl) rfl) rfl) rfl) rfl) rfl) rfl) rfl) rfl)
theorem in_X3 : Cond.instantiable "NuggetCamp$Miner" 9 ∈ wA := (q2 191 rfl rfl)
theorem iz_X3 : Cond.initialized "NuggetCamp$Miner" ∈ wA := (q1 17 rfl rfl)
theorem df_X4 : ∀ j, j < 2 → defaultValue (tyX4 j) = vp_V [.int 0, .int 0] j := (fa_s (fa_s (fun j h => absurd h (Nat.not_lt_zero j)) rfl) rfl)
theorem in_X4 : Cond.instantiable "NuggetCamp$Right" 2 ∈ wA := (q3 142 rfl rfl)
theorem iz_X4 : Cond.initialized "NuggetCamp$Right" ∈ wA := (q1 22 rfl rfl)
theorem df_X5 : ∀ j, j < 1 → defaultValue (tyX5 j) = vp_V [.null] j := (fa_s (fun j h => absurd h (Nat.not_lt_zero j)) rfl)
theorem in_X5 : Cond.instantiable "NuggetCamp$Rumours" 1 ∈ wA := (q1 73 rfl rfl)
theorem iz_X5 : Cond.initialized "NuggetCamp$Rumours" ∈ wA := (q1 4 rfl rfl)
theorem df_X6 : ∀ j, j < 3 → defaultValue (tyX6 j) = vp_V [.null, .null, .int 0] j := (fa_s (fa_s (fa_s (fun j h => absurd h (Nat.not_lt_zero j)) rfl) rfl) rfl)
theorem in_X6 : Cond.instantiable "NuggetCamp$Store" 3 ∈ wA := (q1 56 rfl rfl)
theorem iz_X6 : Cond.initialized "NuggetCamp$Store" ∈ wA := (q1 3 rfl rfl)
theorem df_X7 : ∀ j, j < 12 → defaultValue (tyX7 j) = vp_V [.null, .null, .null, .null, .null, .null, .int 0, .int 0, .int 0, .int 0, .int 0, .int 0] j := (fa_s (fa_s (fa_s (fa_s (fa_s (fa_s (fa_s (fa_s (fa_s (fa_s (fa_s (fa_s (fun j h => absurd h (Nat.not_lt_zero j)) rfl) rfl) rfl) rfl) rfl) rfl) rfl) rfl) rfl) rfl) rfl) rfl)
theorem in_X7 : Cond.instantiable "NuggetCamp" 12 ∈ wA := (q1 26 rfl rfl)
theorem iz_X7 : Cond.initialized "NuggetCamp" ∈ wA := (q1 1 rfl rfl)
theorem ap_new {w : va_W} {e : Nat × va_E} : (w ++ [e])[w.length]? = some e := by
  rw [List.getElem?_append_right (Nat.le_refl _), Nat.sub_self]; rfl
theorem ap_sn {w w2 : va_W} {e e' : Nat × va_E} : (w ++ [e]).set w.length e' ++ w2 = w ++ (e' :: w2) := by
  rw [List.set_append_right _ _ (Nat.le_refl _), Nat.sub_self, List.append_assoc]; rfl
theorem ap_sn0 {w : va_W} {e e' : Nat × va_E} : (w ++ [e]).set w.length e' = w ++ [e'] := by
  rw [List.set_append_right _ _ (Nat.le_refl _), Nat.sub_self]; rfl
abbrev r_X7_init : Room := { frames := 4, cells := 11, slots := 177, locals := 72 }
set_option maxRecDepth 4000 in
theorem c_X7_init {l : Launch} {G : GG} {w : va_W} {h q0 : Nat} (hst : l.stackTraces = false) (hG : GOK G) (hw : w[q0]? = some (h, Sum.inr (7, [.null, .null, .null, .null, .null, .null, .int 0, .int 0, .int 0, .int 0, .int 0, .int 0]))) : Mth l yX7_init cX7_init 1 none r_X7_init G w [.ref h] (fun v w1 => v = none ∧ ∃ c1 b0_c1 b1_c1 c4 b0_c4 b1_c4 c7 b0_c7 c9 c10 c11 : Nat, w1 = (w.set q0 (h, Sum.inr (7, [.ref c1, .ref c4, .ref c7, .ref c9, .ref c10, .ref c11, .int 0, .int 100, .int 3, .int 7, .int 10, .int 0]))) ++ [(c1, Sum.inr (2, [.ref b0_c1, .ref b1_c1, .int 0, .int 0])), (b0_c1, Sum.inl (G.2.2.1 0, 40, Sum.inl (fun _ => 0))), (b1_c1, Sum.inl (G.2.2.1 0, 40, Sum.inl (fun _ => 0))), (c4, Sum.inr (6, [.ref b0_c4, .ref b1_c4, .int 50])), (b0_c4, Sum.inl (G.2.2.1 0, 20, Sum.inl (fun _ => 0))), (b1_c4, Sum.inl (G.2.2.1 0, 20, Sum.inl (fun _ => 0))), (c7, Sum.inr (5, [.ref b0_c7])), (b0_c7, Sum.inl (G.2.2.1 0, 40, Sum.inl (fun _ => 0))), (c9, Sum.inr (0, [.int 0, .ref (G.2.2.1 10), .int 0])), (c10, Sum.inr (0, [.int 0, .ref (G.2.2.1 10), .int 0])), (c11, Sum.inr (0, [.int 0, .ref (G.2.2.1 10), .int 0]))]) nX := by
  have hlt : q0 < w.length := (List.getElem?_eq_some_iff.mp hw).1
  refine mth_of rfl (Nat.le_of_ble_eq_true rfl) hst hG (fun X hX C0 => ?_)
  subst hX
  have C : Cx X G cX7_init 1 RX7 none r_X7_init "<init>" [] := C0
  clear C0
  show V X G 1 _ 0 0 _ 0 [(0, .ref h)] []
  refine v_aload_n C dX7_init_0 rfl 0 rfl ?_
  refine v_objInit C L_X7_1 obj_i obj_c (by decide) (Nat.le_of_ble_eq_true rfl) dX7_init_1 rfl ?_
  refine v_aload_n C dX7_init_4 rfl 0 rfl ?_
  refine v_new C (ci := 2) (N := 4) (fs := [.null, .null, .int 0, .int 0]) rfl inA_RX1 tyX1_ok K_X7_7 in_X1 iz_X1 df_X1 (by decide) (by decide) dX7_init_5 rfl (fun c1 => ?_)
  refine v_dup C dX7_init_8 rfl rfl ?_
  refine w_invI C [] 3 84 L_X7_9 (c_X1_init hst hG ap_new) rfl rfl rfl dX7_init_9 rfl (fun v w1 hv => ?_)
  obtain ⟨rfl, b0_c1, b1_c1, rfl⟩ := hv
  refine xx_w (w' := (w) ++ [(c1, Sum.inr (2, [.ref b0_c1, .ref b1_c1, .int 0, .int 0])), (b0_c1, Sum.inl (G.2.2.1 0, 40, Sum.inl (fun _ => 0))), (b1_c1, Sum.inl (G.2.2.1 0, 40, Sum.inl (fun _ => 0)))]) (by rw [ap_sn]; try simp only [List.append_assoc, List.cons_append, List.nil_append]) ?_
  refine v_putF C f_X7_10 ⟨q0, (ap_l hw), rfl⟩ rfl rfl (Nat.le_of_ble_eq_true rfl) dX7_init_12 rfl ?_
  refine xx_w (w' := (w.set q0 (h, Sum.inr (7, [.ref c1, .null, .null, .null, .null, .null, .int 0, .int 0, .int 0, .int 0, .int 0, .int 0]))) ++ [(c1, Sum.inr (2, [.ref b0_c1, .ref b1_c1, .int 0, .int 0])), (b0_c1, Sum.inl (G.2.2.1 0, 40, Sum.inl (fun _ => 0))), (b1_c1, Sum.inl (G.2.2.1 0, 40, Sum.inl (fun _ => 0)))]) (by rw [ap_set hlt]; rfl) ?_
  refine v_aload_n C dX7_init_15 rfl 0 rfl ?_
  refine v_new C (ci := 6) (N := 3) (fs := [.null, .null, .int 0]) rfl inA_RX6 tyX6_ok K_X7_16 in_X6 iz_X6 df_X6 (by decide) (by decide) dX7_init_16 rfl (fun c4 => ?_)
  refine v_dup C dX7_init_19 rfl rfl ?_
  refine w_invI C [] 6 127 L_X7_18 (c_X6_init hst hG ap_new) rfl rfl rfl dX7_init_20 rfl (fun v w1 hv => ?_)
  obtain ⟨rfl, b0_c4, b1_c4, rfl⟩ := hv
  refine xx_w (w' := (w.set q0 (h, Sum.inr (7, [.ref c1, .null, .null, .null, .null, .null, .int 0, .int 0, .int 0, .int 0, .int 0, .int 0]))) ++ [(c1, Sum.inr (2, [.ref b0_c1, .ref b1_c1, .int 0, .int 0])), (b0_c1, Sum.inl (G.2.2.1 0, 40, Sum.inl (fun _ => 0))), (b1_c1, Sum.inl (G.2.2.1 0, 40, Sum.inl (fun _ => 0))), (c4, Sum.inr (6, [.ref b0_c4, .ref b1_c4, .int 50])), (b0_c4, Sum.inl (G.2.2.1 0, 20, Sum.inl (fun _ => 0))), (b1_c4, Sum.inl (G.2.2.1 0, 20, Sum.inl (fun _ => 0)))]) (by rw [ap_sn]; try simp only [List.append_assoc, List.cons_append, List.nil_append]) ?_
  refine v_putF C f_X7_19 ⟨q0, (ap_l (List.getElem?_set_self hlt)), rfl⟩ rfl rfl (Nat.le_of_ble_eq_true rfl) dX7_init_23 rfl ?_
  refine xx_w (w' := (w.set q0 (h, Sum.inr (7, [.ref c1, .ref c4, .null, .null, .null, .null, .int 0, .int 0, .int 0, .int 0, .int 0, .int 0]))) ++ [(c1, Sum.inr (2, [.ref b0_c1, .ref b1_c1, .int 0, .int 0])), (b0_c1, Sum.inl (G.2.2.1 0, 40, Sum.inl (fun _ => 0))), (b1_c1, Sum.inl (G.2.2.1 0, 40, Sum.inl (fun _ => 0))), (c4, Sum.inr (6, [.ref b0_c4, .ref b1_c4, .int 50])), (b0_c4, Sum.inl (G.2.2.1 0, 20, Sum.inl (fun _ => 0))), (b1_c4, Sum.inl (G.2.2.1 0, 20, Sum.inl (fun _ => 0)))]) (by rw [ap_set (by simpa using hlt)]; rw [List.set_set]; rfl) ?_
  refine v_aload_n C dX7_init_26 rfl 0 rfl ?_
  refine v_new C (ci := 5) (N := 1) (fs := [.null]) rfl inA_RX5 tyX5_ok K_X7_23 in_X5 iz_X5 df_X5 (by decide) (by decide) dX7_init_27 rfl (fun c7 => ?_)
  refine v_dup C dX7_init_30 rfl rfl ?_
  refine w_invI C [] 8 168 L_X7_25 (c_X5_init hst hG ap_new) rfl rfl rfl dX7_init_31 rfl (fun v w1 hv => ?_)
  obtain ⟨rfl, b0_c7, rfl⟩ := hv
  refine xx_w (w' := (w.set q0 (h, Sum.inr (7, [.ref c1, .ref c4, .null, .null, .null, .null, .int 0, .int 0, .int 0, .int 0, .int 0, .int 0]))) ++ [(c1, Sum.inr (2, [.ref b0_c1, .ref b1_c1, .int 0, .int 0])), (b0_c1, Sum.inl (G.2.2.1 0, 40, Sum.inl (fun _ => 0))), (b1_c1, Sum.inl (G.2.2.1 0, 40, Sum.inl (fun _ => 0))), (c4, Sum.inr (6, [.ref b0_c4, .ref b1_c4, .int 50])), (b0_c4, Sum.inl (G.2.2.1 0, 20, Sum.inl (fun _ => 0))), (b1_c4, Sum.inl (G.2.2.1 0, 20, Sum.inl (fun _ => 0))), (c7, Sum.inr (5, [.ref b0_c7])), (b0_c7, Sum.inl (G.2.2.1 0, 40, Sum.inl (fun _ => 0)))]) (by rw [ap_sn]; try simp only [List.append_assoc, List.cons_append, List.nil_append]) ?_
  refine v_putF C f_X7_26 ⟨q0, (ap_l (List.getElem?_set_self hlt)), rfl⟩ rfl rfl (Nat.le_of_ble_eq_true rfl) dX7_init_34 rfl ?_
  refine xx_w (w' := (w.set q0 (h, Sum.inr (7, [.ref c1, .ref c4, .ref c7, .null, .null, .null, .int 0, .int 0, .int 0, .int 0, .int 0, .int 0]))) ++ [(c1, Sum.inr (2, [.ref b0_c1, .ref b1_c1, .int 0, .int 0])), (b0_c1, Sum.inl (G.2.2.1 0, 40, Sum.inl (fun _ => 0))), (b1_c1, Sum.inl (G.2.2.1 0, 40, Sum.inl (fun _ => 0))), (c4, Sum.inr (6, [.ref b0_c4, .ref b1_c4, .int 50])), (b0_c4, Sum.inl (G.2.2.1 0, 20, Sum.inl (fun _ => 0))), (b1_c4, Sum.inl (G.2.2.1 0, 20, Sum.inl (fun _ => 0))), (c7, Sum.inr (5, [.ref b0_c7])), (b0_c7, Sum.inl (G.2.2.1 0, 40, Sum.inl (fun _ => 0)))]) (by rw [ap_set (by simpa using hlt)]; rw [List.set_set]; rfl) ?_
  refine v_aload_n C dX7_init_37 rfl 0 rfl ?_
  refine v_new C (ci := 0) (N := 3) (fs := [.int 0, .null, .int 0]) rfl inA_RJx4a65c tyJx4a65c_ok K_X7_30 in_Jx4a65c iz_Jx4a65c df_Jx4a65c (by decide) (by decide) dX7_init_38 rfl (fun c9 => ?_)
  refine v_dup C dX7_init_41 rfl rfl ?_
  refine w_invI C [] 9 171 L_X7_32 (c_Jx4a65c_init_da8c8 hst hG ap_new) rfl rfl rfl dX7_init_42 rfl (fun v w1 hv => ?_)
  obtain ⟨rfl, rfl, -⟩ := hv
  refine xx_w (w' := (w.set q0 (h, Sum.inr (7, [.ref c1, .ref c4, .ref c7, .null, .null, .null, .int 0, .int 0, .int 0, .int 0, .int 0, .int 0]))) ++ [(c1, Sum.inr (2, [.ref b0_c1, .ref b1_c1, .int 0, .int 0])), (b0_c1, Sum.inl (G.2.2.1 0, 40, Sum.inl (fun _ => 0))), (b1_c1, Sum.inl (G.2.2.1 0, 40, Sum.inl (fun _ => 0))), (c4, Sum.inr (6, [.ref b0_c4, .ref b1_c4, .int 50])), (b0_c4, Sum.inl (G.2.2.1 0, 20, Sum.inl (fun _ => 0))), (b1_c4, Sum.inl (G.2.2.1 0, 20, Sum.inl (fun _ => 0))), (c7, Sum.inr (5, [.ref b0_c7])), (b0_c7, Sum.inl (G.2.2.1 0, 40, Sum.inl (fun _ => 0))), (c9, Sum.inr (0, [.int 0, .ref (G.2.2.1 10), .int 0]))]) (by rw [ap_sn0]; try simp only [List.append_assoc, List.cons_append, List.nil_append]) ?_
  refine v_putF C f_X7_33 ⟨q0, (ap_l (List.getElem?_set_self hlt)), rfl⟩ rfl rfl (Nat.le_of_ble_eq_true rfl) dX7_init_45 rfl ?_
  refine xx_w (w' := (w.set q0 (h, Sum.inr (7, [.ref c1, .ref c4, .ref c7, .ref c9, .null, .null, .int 0, .int 0, .int 0, .int 0, .int 0, .int 0]))) ++ [(c1, Sum.inr (2, [.ref b0_c1, .ref b1_c1, .int 0, .int 0])), (b0_c1, Sum.inl (G.2.2.1 0, 40, Sum.inl (fun _ => 0))), (b1_c1, Sum.inl (G.2.2.1 0, 40, Sum.inl (fun _ => 0))), (c4, Sum.inr (6, [.ref b0_c4, .ref b1_c4, .int 50])), (b0_c4, Sum.inl (G.2.2.1 0, 20, Sum.inl (fun _ => 0))), (b1_c4, Sum.inl (G.2.2.1 0, 20, Sum.inl (fun _ => 0))), (c7, Sum.inr (5, [.ref b0_c7])), (b0_c7, Sum.inl (G.2.2.1 0, 40, Sum.inl (fun _ => 0))), (c9, Sum.inr (0, [.int 0, .ref (G.2.2.1 10), .int 0]))]) (by rw [ap_set (by simpa using hlt)]; rw [List.set_set]; rfl) ?_
  refine v_aload_n C dX7_init_48 rfl 0 rfl ?_
  refine v_new C (ci := 0) (N := 3) (fs := [.int 0, .null, .int 0]) rfl inA_RJx4a65c tyJx4a65c_ok K_X7_30 in_Jx4a65c iz_Jx4a65c df_Jx4a65c (by decide) (by decide) dX7_init_49 rfl (fun c10 => ?_)
  refine v_dup C dX7_init_52 rfl rfl ?_
  refine w_invI C [] 10 174 L_X7_32 (c_Jx4a65c_init_da8c8 hst hG ap_new) rfl rfl rfl dX7_init_53 rfl (fun v w1 hv => ?_)
  obtain ⟨rfl, rfl, -⟩ := hv
  refine xx_w (w' := (w.set q0 (h, Sum.inr (7, [.ref c1, .ref c4, .ref c7, .ref c9, .null, .null, .int 0, .int 0, .int 0, .int 0, .int 0, .int 0]))) ++ [(c1, Sum.inr (2, [.ref b0_c1, .ref b1_c1, .int 0, .int 0])), (b0_c1, Sum.inl (G.2.2.1 0, 40, Sum.inl (fun _ => 0))), (b1_c1, Sum.inl (G.2.2.1 0, 40, Sum.inl (fun _ => 0))), (c4, Sum.inr (6, [.ref b0_c4, .ref b1_c4, .int 50])), (b0_c4, Sum.inl (G.2.2.1 0, 20, Sum.inl (fun _ => 0))), (b1_c4, Sum.inl (G.2.2.1 0, 20, Sum.inl (fun _ => 0))), (c7, Sum.inr (5, [.ref b0_c7])), (b0_c7, Sum.inl (G.2.2.1 0, 40, Sum.inl (fun _ => 0))), (c9, Sum.inr (0, [.int 0, .ref (G.2.2.1 10), .int 0])), (c10, Sum.inr (0, [.int 0, .ref (G.2.2.1 10), .int 0]))]) (by rw [ap_sn0]; try simp only [List.append_assoc, List.cons_append, List.nil_append]) ?_
  refine v_putF C f_X7_37 ⟨q0, (ap_l (List.getElem?_set_self hlt)), rfl⟩ rfl rfl (Nat.le_of_ble_eq_true rfl) dX7_init_56 rfl ?_
  refine xx_w (w' := (w.set q0 (h, Sum.inr (7, [.ref c1, .ref c4, .ref c7, .ref c9, .ref c10, .null, .int 0, .int 0, .int 0, .int 0, .int 0, .int 0]))) ++ [(c1, Sum.inr (2, [.ref b0_c1, .ref b1_c1, .int 0, .int 0])), (b0_c1, Sum.inl (G.2.2.1 0, 40, Sum.inl (fun _ => 0))), (b1_c1, Sum.inl (G.2.2.1 0, 40, Sum.inl (fun _ => 0))), (c4, Sum.inr (6, [.ref b0_c4, .ref b1_c4, .int 50])), (b0_c4, Sum.inl (G.2.2.1 0, 20, Sum.inl (fun _ => 0))), (b1_c4, Sum.inl (G.2.2.1 0, 20, Sum.inl (fun _ => 0))), (c7, Sum.inr (5, [.ref b0_c7])), (b0_c7, Sum.inl (G.2.2.1 0, 40, Sum.inl (fun _ => 0))), (c9, Sum.inr (0, [.int 0, .ref (G.2.2.1 10), .int 0])), (c10, Sum.inr (0, [.int 0, .ref (G.2.2.1 10), .int 0]))]) (by rw [ap_set (by simpa using hlt)]; rw [List.set_set]; rfl) ?_
  refine v_aload_n C dX7_init_59 rfl 0 rfl ?_
  refine v_new C (ci := 0) (N := 3) (fs := [.int 0, .null, .int 0]) rfl inA_RJx4a65c tyJx4a65c_ok K_X7_30 in_Jx4a65c iz_Jx4a65c df_Jx4a65c (by decide) (by decide) dX7_init_60 rfl (fun c11 => ?_)
  refine v_dup C dX7_init_63 rfl rfl ?_
  refine w_invI C [] 11 177 L_X7_32 (c_Jx4a65c_init_da8c8 hst hG ap_new) rfl rfl rfl dX7_init_64 rfl (fun v w1 hv => ?_)
  obtain ⟨rfl, rfl, -⟩ := hv
  refine xx_w (w' := (w.set q0 (h, Sum.inr (7, [.ref c1, .ref c4, .ref c7, .ref c9, .ref c10, .null, .int 0, .int 0, .int 0, .int 0, .int 0, .int 0]))) ++ [(c1, Sum.inr (2, [.ref b0_c1, .ref b1_c1, .int 0, .int 0])), (b0_c1, Sum.inl (G.2.2.1 0, 40, Sum.inl (fun _ => 0))), (b1_c1, Sum.inl (G.2.2.1 0, 40, Sum.inl (fun _ => 0))), (c4, Sum.inr (6, [.ref b0_c4, .ref b1_c4, .int 50])), (b0_c4, Sum.inl (G.2.2.1 0, 20, Sum.inl (fun _ => 0))), (b1_c4, Sum.inl (G.2.2.1 0, 20, Sum.inl (fun _ => 0))), (c7, Sum.inr (5, [.ref b0_c7])), (b0_c7, Sum.inl (G.2.2.1 0, 40, Sum.inl (fun _ => 0))), (c9, Sum.inr (0, [.int 0, .ref (G.2.2.1 10), .int 0])), (c10, Sum.inr (0, [.int 0, .ref (G.2.2.1 10), .int 0])), (c11, Sum.inr (0, [.int 0, .ref (G.2.2.1 10), .int 0]))]) (by rw [ap_sn0]; try simp only [List.append_assoc, List.cons_append, List.nil_append]) ?_
  refine v_putF C f_X7_40 ⟨q0, (ap_l (List.getElem?_set_self hlt)), rfl⟩ rfl rfl (Nat.le_of_ble_eq_true rfl) dX7_init_67 rfl ?_
  refine xx_w (w' := (w.set q0 (h, Sum.inr (7, [.ref c1, .ref c4, .ref c7, .ref c9, .ref c10, .ref c11, .int 0, .int 0, .int 0, .int 0, .int 0, .int 0]))) ++ [(c1, Sum.inr (2, [.ref b0_c1, .ref b1_c1, .int 0, .int 0])), (b0_c1, Sum.inl (G.2.2.1 0, 40, Sum.inl (fun _ => 0))), (b1_c1, Sum.inl (G.2.2.1 0, 40, Sum.inl (fun _ => 0))), (c4, Sum.inr (6, [.ref b0_c4, .ref b1_c4, .int 50])), (b0_c4, Sum.inl (G.2.2.1 0, 20, Sum.inl (fun _ => 0))), (b1_c4, Sum.inl (G.2.2.1 0, 20, Sum.inl (fun _ => 0))), (c7, Sum.inr (5, [.ref b0_c7])), (b0_c7, Sum.inl (G.2.2.1 0, 40, Sum.inl (fun _ => 0))), (c9, Sum.inr (0, [.int 0, .ref (G.2.2.1 10), .int 0])), (c10, Sum.inr (0, [.int 0, .ref (G.2.2.1 10), .int 0])), (c11, Sum.inr (0, [.int 0, .ref (G.2.2.1 10), .int 0]))]) (by rw [ap_set (by simpa using hlt)]; rw [List.set_set]; rfl) ?_
  refine v_aload_n C dX7_init_70 rfl 0 rfl ?_
  refine v_iconst C (v := 0) dX7_init_71 rfl rfl ?_
  refine v_put C f_X7_43 ⟨q0, (ap_l (List.getElem?_set_self hlt)), rfl⟩ rfl rfl (Nat.le_of_ble_eq_true rfl) dX7_init_72 rfl ?_
  refine xx_w (w' := (w.set q0 (h, Sum.inr (7, [.ref c1, .ref c4, .ref c7, .ref c9, .ref c10, .ref c11, .int 0, .int 0, .int 0, .int 0, .int 0, .int 0]))) ++ [(c1, Sum.inr (2, [.ref b0_c1, .ref b1_c1, .int 0, .int 0])), (b0_c1, Sum.inl (G.2.2.1 0, 40, Sum.inl (fun _ => 0))), (b1_c1, Sum.inl (G.2.2.1 0, 40, Sum.inl (fun _ => 0))), (c4, Sum.inr (6, [.ref b0_c4, .ref b1_c4, .int 50])), (b0_c4, Sum.inl (G.2.2.1 0, 20, Sum.inl (fun _ => 0))), (b1_c4, Sum.inl (G.2.2.1 0, 20, Sum.inl (fun _ => 0))), (c7, Sum.inr (5, [.ref b0_c7])), (b0_c7, Sum.inl (G.2.2.1 0, 40, Sum.inl (fun _ => 0))), (c9, Sum.inr (0, [.int 0, .ref (G.2.2.1 10), .int 0])), (c10, Sum.inr (0, [.int 0, .ref (G.2.2.1 10), .int 0])), (c11, Sum.inr (0, [.int 0, .ref (G.2.2.1 10), .int 0]))]) (by rw [ap_set (by simpa using hlt)]; rw [List.set_set]; rfl) ?_
  refine v_aload_n C dX7_init_75 rfl 0 rfl ?_
  refine v_bipush C (v := 100) dX7_init_76 rfl rfl ?_
  refine v_put C f_X7_47 ⟨q0, (ap_l (List.getElem?_set_self hlt)), rfl⟩ rfl rfl (Nat.le_of_ble_eq_true rfl) dX7_init_78 rfl ?_
  refine xx_w (w' := (w.set q0 (h, Sum.inr (7, [.ref c1, .ref c4, .ref c7, .ref c9, .ref c10, .ref c11, .int 0, .int 100, .int 0, .int 0, .int 0, .int 0]))) ++ [(c1, Sum.inr (2, [.ref b0_c1, .ref b1_c1, .int 0, .int 0])), (b0_c1, Sum.inl (G.2.2.1 0, 40, Sum.inl (fun _ => 0))), (b1_c1, Sum.inl (G.2.2.1 0, 40, Sum.inl (fun _ => 0))), (c4, Sum.inr (6, [.ref b0_c4, .ref b1_c4, .int 50])), (b0_c4, Sum.inl (G.2.2.1 0, 20, Sum.inl (fun _ => 0))), (b1_c4, Sum.inl (G.2.2.1 0, 20, Sum.inl (fun _ => 0))), (c7, Sum.inr (5, [.ref b0_c7])), (b0_c7, Sum.inl (G.2.2.1 0, 40, Sum.inl (fun _ => 0))), (c9, Sum.inr (0, [.int 0, .ref (G.2.2.1 10), .int 0])), (c10, Sum.inr (0, [.int 0, .ref (G.2.2.1 10), .int 0])), (c11, Sum.inr (0, [.int 0, .ref (G.2.2.1 10), .int 0]))]) (by rw [ap_set (by simpa using hlt)]; rw [List.set_set]; rfl) ?_
  refine v_aload_n C dX7_init_81 rfl 0 rfl ?_
  refine v_iconst C (v := 3) dX7_init_82 rfl rfl ?_
  refine v_put C f_X7_50 ⟨q0, (ap_l (List.getElem?_set_self hlt)), rfl⟩ rfl rfl (Nat.le_of_ble_eq_true rfl) dX7_init_83 rfl ?_
  refine xx_w (w' := (w.set q0 (h, Sum.inr (7, [.ref c1, .ref c4, .ref c7, .ref c9, .ref c10, .ref c11, .int 0, .int 100, .int 3, .int 0, .int 0, .int 0]))) ++ [(c1, Sum.inr (2, [.ref b0_c1, .ref b1_c1, .int 0, .int 0])), (b0_c1, Sum.inl (G.2.2.1 0, 40, Sum.inl (fun _ => 0))), (b1_c1, Sum.inl (G.2.2.1 0, 40, Sum.inl (fun _ => 0))), (c4, Sum.inr (6, [.ref b0_c4, .ref b1_c4, .int 50])), (b0_c4, Sum.inl (G.2.2.1 0, 20, Sum.inl (fun _ => 0))), (b1_c4, Sum.inl (G.2.2.1 0, 20, Sum.inl (fun _ => 0))), (c7, Sum.inr (5, [.ref b0_c7])), (b0_c7, Sum.inl (G.2.2.1 0, 40, Sum.inl (fun _ => 0))), (c9, Sum.inr (0, [.int 0, .ref (G.2.2.1 10), .int 0])), (c10, Sum.inr (0, [.int 0, .ref (G.2.2.1 10), .int 0])), (c11, Sum.inr (0, [.int 0, .ref (G.2.2.1 10), .int 0]))]) (by rw [ap_set (by simpa using hlt)]; rw [List.set_set]; rfl) ?_
  refine v_aload_n C dX7_init_86 rfl 0 rfl ?_
  refine v_bipush C (v := 7) dX7_init_87 rfl rfl ?_
  refine v_put C f_X7_53 ⟨q0, (ap_l (List.getElem?_set_self hlt)), rfl⟩ rfl rfl (Nat.le_of_ble_eq_true rfl) dX7_init_89 rfl ?_
  refine xx_w (w' := (w.set q0 (h, Sum.inr (7, [.ref c1, .ref c4, .ref c7, .ref c9, .ref c10, .ref c11, .int 0, .int 100, .int 3, .int 7, .int 0, .int 0]))) ++ [(c1, Sum.inr (2, [.ref b0_c1, .ref b1_c1, .int 0, .int 0])), (b0_c1, Sum.inl (G.2.2.1 0, 40, Sum.inl (fun _ => 0))), (b1_c1, Sum.inl (G.2.2.1 0, 40, Sum.inl (fun _ => 0))), (c4, Sum.inr (6, [.ref b0_c4, .ref b1_c4, .int 50])), (b0_c4, Sum.inl (G.2.2.1 0, 20, Sum.inl (fun _ => 0))), (b1_c4, Sum.inl (G.2.2.1 0, 20, Sum.inl (fun _ => 0))), (c7, Sum.inr (5, [.ref b0_c7])), (b0_c7, Sum.inl (G.2.2.1 0, 40, Sum.inl (fun _ => 0))), (c9, Sum.inr (0, [.int 0, .ref (G.2.2.1 10), .int 0])), (c10, Sum.inr (0, [.int 0, .ref (G.2.2.1 10), .int 0])), (c11, Sum.inr (0, [.int 0, .ref (G.2.2.1 10), .int 0]))]) (by rw [ap_set (by simpa using hlt)]; rw [List.set_set]; rfl) ?_
  refine v_aload_n C dX7_init_92 rfl 0 rfl ?_
  refine v_bipush C (v := 10) dX7_init_93 rfl rfl ?_
  refine v_put C f_X7_56 ⟨q0, (ap_l (List.getElem?_set_self hlt)), rfl⟩ rfl rfl (Nat.le_of_ble_eq_true rfl) dX7_init_95 rfl ?_
  refine xx_w (w' := (w.set q0 (h, Sum.inr (7, [.ref c1, .ref c4, .ref c7, .ref c9, .ref c10, .ref c11, .int 0, .int 100, .int 3, .int 7, .int 10, .int 0]))) ++ [(c1, Sum.inr (2, [.ref b0_c1, .ref b1_c1, .int 0, .int 0])), (b0_c1, Sum.inl (G.2.2.1 0, 40, Sum.inl (fun _ => 0))), (b1_c1, Sum.inl (G.2.2.1 0, 40, Sum.inl (fun _ => 0))), (c4, Sum.inr (6, [.ref b0_c4, .ref b1_c4, .int 50])), (b0_c4, Sum.inl (G.2.2.1 0, 20, Sum.inl (fun _ => 0))), (b1_c4, Sum.inl (G.2.2.1 0, 20, Sum.inl (fun _ => 0))), (c7, Sum.inr (5, [.ref b0_c7])), (b0_c7, Sum.inl (G.2.2.1 0, 40, Sum.inl (fun _ => 0))), (c9, Sum.inr (0, [.int 0, .ref (G.2.2.1 10), .int 0])), (c10, Sum.inr (0, [.int 0, .ref (G.2.2.1 10), .int 0])), (c11, Sum.inr (0, [.int 0, .ref (G.2.2.1 10), .int 0]))]) (by rw [ap_set (by simpa using hlt)]; rw [List.set_set]; rfl) ?_
  refine v_aload_n C dX7_init_98 rfl 0 rfl ?_
  refine v_iconst C (v := 0) dX7_init_99 rfl rfl ?_
  refine v_put C f_X7_59 ⟨q0, (ap_l (List.getElem?_set_self hlt)), rfl⟩ rfl rfl (Nat.le_of_ble_eq_true rfl) dX7_init_100 rfl ?_
  refine xx_w (w' := (w.set q0 (h, Sum.inr (7, [.ref c1, .ref c4, .ref c7, .ref c9, .ref c10, .ref c11, .int 0, .int 100, .int 3, .int 7, .int 10, .int 0]))) ++ [(c1, Sum.inr (2, [.ref b0_c1, .ref b1_c1, .int 0, .int 0])), (b0_c1, Sum.inl (G.2.2.1 0, 40, Sum.inl (fun _ => 0))), (b1_c1, Sum.inl (G.2.2.1 0, 40, Sum.inl (fun _ => 0))), (c4, Sum.inr (6, [.ref b0_c4, .ref b1_c4, .int 50])), (b0_c4, Sum.inl (G.2.2.1 0, 20, Sum.inl (fun _ => 0))), (b1_c4, Sum.inl (G.2.2.1 0, 20, Sum.inl (fun _ => 0))), (c7, Sum.inr (5, [.ref b0_c7])), (b0_c7, Sum.inl (G.2.2.1 0, 40, Sum.inl (fun _ => 0))), (c9, Sum.inr (0, [.int 0, .ref (G.2.2.1 10), .int 0])), (c10, Sum.inr (0, [.int 0, .ref (G.2.2.1 10), .int 0])), (c11, Sum.inr (0, [.int 0, .ref (G.2.2.1 10), .int 0]))]) (by rw [ap_set (by simpa using hlt)]; rw [List.set_set]; rfl) ?_
  exact v_vret C (by decide) (by decide) dX7_init_103 ⟨rfl, c1, b0_c1, b1_c1, c4, b0_c4, b1_c4, c7, b0_c7, c9, c10, c11, rfl⟩
