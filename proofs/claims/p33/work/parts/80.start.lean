/-! the law's start: a camp as it is made, four arrays of zeros -/
def z00 : SS := fun k => match k with
  | 1 => fun _ => 100 | 2 => fun _ => 3 | 3 => fun _ => 7 | 4 => fun _ => 10 | 5 => fun _ => 50 | _ => fun _ => 0
def t00 : SS := fun _ _ => 0
def gB (i : Nat) : Nat := match i with
  | 0 => 2 | 1 => 3 | 2 => 5 | 3 => 6 | _ => 8
def adr (g10 : Nat) (bs : List Nat) : AD := fun κ i => match κ with
  | 1 => bs.getD (12 + i) 0 | 2 => bs.getD 0 0 | 3 => bs.getD 1 0 | 4 => bs.getD 4 0 | 5 => bs.getD 7 0 | 6 => bs.getD (9 + i) 0 | 8 => bs.getD (gB i) 0 | 16 => g10 | _ => 0
def L00 : List (Nat × Nat) := [(2, 0), (3, 0), (8, 0), (8, 1), (4, 0), (8, 2), (8, 3), (5, 0), (8, 4), (6, 0), (6, 1), (6, 2), (1, 0), (1, 1), (1, 2), (1, 3)]
theorem L00_lv : ∀ q ∈ L00, Lv z00 q.1 q.2 := List.forall_mem_cons.mpr ⟨rfl, List.forall_mem_cons.mpr ⟨rfl, List.forall_mem_cons.mpr ⟨(show 0 < 5 by decide), List.forall_mem_cons.mpr ⟨(show 1 < 5 by decide), List.forall_mem_cons.mpr ⟨rfl, List.forall_mem_cons.mpr ⟨(show 2 < 5 by decide), List.forall_mem_cons.mpr ⟨(show 3 < 5 by decide), List.forall_mem_cons.mpr ⟨rfl, List.forall_mem_cons.mpr ⟨(show 4 < 5 by decide), List.forall_mem_cons.mpr ⟨(show 0 < 3 by decide), List.forall_mem_cons.mpr ⟨(show 1 < 3 by decide), List.forall_mem_cons.mpr ⟨(show 2 < 3 by decide), List.forall_mem_cons.mpr ⟨rfl, List.forall_mem_cons.mpr ⟨rfl, List.forall_mem_cons.mpr ⟨rfl, List.forall_mem_cons.mpr ⟨rfl, fun _ h => absurd h List.not_mem_nil⟩⟩⟩⟩⟩⟩⟩⟩⟩⟩⟩⟩⟩⟩⟩⟩
theorem L00_live : Live L00 z00 := by
  refine ⟨by decide, fun κ i => ⟨fun h => L00_lv (κ, i) h, fun h => ?_⟩⟩
  match κ, h with
  | 0, h => exact (show False from h).elim
  | 1, h => exact (by decide : ∀ i, i < 4 → (1, i) ∈ L00) i (Nat.lt_succ_of_le (Nat.le_of_ble_eq_true h))
  | 2, h => have h : i = 0 := h; subst h; decide
  | 3, h => have h : i = 0 := h; subst h; decide
  | 4, h => have h : i = 0 := h; subst h; decide
  | 5, h => have h : i = 0 := h; subst h; decide
  | 6, h => exact (by decide : ∀ i, i < 3 → (6, i) ∈ L00) i h
  | 7, h =>
    have h2 : i < 3 ∧ 0 < tn (z00 (lI i) 0) := h
    exact absurd h2.2 ((by decide : ∀ i, i < 3 → ¬ 0 < tn (z00 (lI i) 0)) i h2.1)
  | 8, h => exact (by decide : ∀ i, i < 5 → (8, i) ∈ L00) i h
  | 9, h => exact absurd (show i < 0 from h) (Nat.not_lt_zero _)
  | 10, h => exact absurd (show i < 0 from h) (Nat.not_lt_zero _)
  | 11, h => exact absurd (show i < 0 from h) (Nat.not_lt_zero _)
  | 12, h => exact absurd (show i < 0 from h) (Nat.not_lt_zero _)
  | 13, h => exact absurd (show i < 0 from h) (Nat.not_lt_zero _)
  | 14, h => exact (show False from h).elim
  | q + 15, h => exact (show False from h).elim
theorem Ls_00 {g : Nat → Nat} {bs : List Nat} : ∀ k, k < 3 → LsT g (adr (g 10) bs) z00 z00 k 0 := fun k hk => by
  have e : z00 (lI k) 0 = 0 := (by decide : ∀ k, k < 3 → z00 (lI k) 0 = 0) k hk
  exact ⟨⟨e, by decide, fun h => absurd h (by decide)⟩, fun _ => rfl, fun h => absurd h (by decide), by rw [e]; rfl⟩
theorem SN_0 : ∀ n, SN (fun _ => 0) n = 0
  | 0 => rfl
  | n + 1 => by
    show SN _ n + tn 0 = 0
    rw [SN_0 n, tn_0]
theorem tot_00 : tot z00 0 = 0 := by
  show SN (fun _ => 0) 40 + tn 0 + 0 + tn 0 = 0
  rw [SN_0, tn_0]
theorem Js_00 : Js z00 0 0 0 0 := by
  refine ⟨⟨by decide, ⟨Nn.z, by decide⟩, ⟨Nn.of (n := 100) (by omega), by decide⟩, ⟨Nn.of (n := 3) (by omega), by decide⟩, ⟨Nn.of (n := 7) (by omega), by decide⟩, ⟨Nn.of (n := 10) (by omega), by decide⟩, rfl, rfl, rfl⟩, ⟨Nn.of (n := 50) (by omega), fun i _ => Nn.z, ?_⟩, ⟨fun c _ => Nn.z, fun c _ => ⟨Nn.z, by rw [show z00 10 c = 0 from rfl, tn_0]; omega⟩, Nn.z, Nn.z, fun i hi => absurd hi (Nat.not_lt_zero i), by rw [tot_00]; omega, Nat.zero_le _⟩, fun c _ => ⟨Nn.z, by rw [show z00 11 c = 0 from rfl, tn_0]; omega⟩, ⟨fun i hi => absurd hi (Nat.not_lt_zero i), Nat.zero_le _⟩, ⟨fun i b hi => absurd hi (Nat.not_lt_zero i), fun i hi => absurd hi (Nat.not_lt_zero i), fun i hi => absurd hi (Nat.not_lt_zero i), fun i b hi => absurd hi (Nat.not_lt_zero i)⟩, ⟨fun i hi => absurd hi (Nat.not_lt_zero i), fun i j c hi => absurd hi (Nat.not_lt_zero i)⟩, fun i hi => absurd hi (Nat.not_lt_zero i), fun i hi => absurd hi (Nat.not_lt_zero i)⟩
  show tn 50 + SN (fun _ => 0) 20 ≤ 50 + 100 * 0
  rw [SN_0, show tn 50 = 50 by decide]
  omega
theorem K9_00 : K9 z00 t00 0 0 0 0 := by
  refine ⟨⟨rfl, rfl, rfl, ?_, ⟨rfl, Or.inl rfl⟩, 0, rfl, Nat.le_refl _⟩, fun i hi => absurd hi (Nat.not_lt_zero i), ⟨fun i hi => absurd hi (Nat.not_lt_zero i), fun i _ _ => rfl⟩, fun i hi => absurd hi (Nat.not_lt_zero i), fun i hi => absurd hi (Nat.not_lt_zero i), fun i _ _ => ⟨rfl, rfl⟩⟩
  rw [tot_00]
  rfl
set_option maxRecDepth 20000 in
theorem W_00 {G : GG} {x c1 b0_c1 b1_c1 c4 b0_c4 b1_c4 c7 b0_c7 c9 c10 c11 m u v y : Nat} : ([(x, Sum.inr (7, [.ref c1, .ref c4, .ref c7, .ref c9, .ref c10, .ref c11, .int 0, .int 100, .int 3, .int 7, .int 10, .int 0])), (c1, Sum.inr (2, [.ref b0_c1, .ref b1_c1, .int 0, .int 0])), (b0_c1, Sum.inl (G.2.2.1 0, 40, Sum.inl (fun _ => 0))), (b1_c1, Sum.inl (G.2.2.1 0, 40, Sum.inl (fun _ => 0))), (c4, Sum.inr (6, [.ref b0_c4, .ref b1_c4, .int 50])), (b0_c4, Sum.inl (G.2.2.1 0, 20, Sum.inl (fun _ => 0))), (b1_c4, Sum.inl (G.2.2.1 0, 20, Sum.inl (fun _ => 0))), (c7, Sum.inr (5, [.ref b0_c7])), (b0_c7, Sum.inl (G.2.2.1 0, 40, Sum.inl (fun _ => 0))), (c9, Sum.inr (0, [.int 0, .ref (G.2.2.1 10), .int 0])), (c10, Sum.inr (0, [.int 0, .ref (G.2.2.1 10), .int 0])), (c11, Sum.inr (0, [.int 0, .ref (G.2.2.1 10), .int 0])), (m, Sum.inl (G.2.2.1 0, 6, Sum.inl (fun _ => 0))), (u, Sum.inl (G.2.2.1 0, 20, Sum.inl (fun _ => 0))), (v, Sum.inl (G.2.2.1 0, 24, Sum.inl (fun _ => 0))), (y, Sum.inl (G.2.2.1 0, 60, Sum.inl (fun _ => 0)))] : va_W) = wl (adr (G.2.2.1 10) [x, c1, b0_c1, b1_c1, c4, b0_c4, b1_c4, c7, b0_c7, c9, c10, c11, m, u, v, y]) (E G.2.2.1 (adr (G.2.2.1 10) [x, c1, b0_c1, b1_c1, c4, b0_c4, b1_c4, c7, b0_c7, c9, c10, c11, m, u, v, y]) z00 t00) L00 := rfl
def rf0 (m u v y x : Nat) : Nat → Nat := fun j => match j with
  | 0 => m | 1 => u | 2 => v | 3 => y | _ => x
abbrev r_L_law : Room := room_1
theorem lw_init {X : XS} {G : GG} {nme : String} {tb : List ExceptionTableEntry} {Q : State → Prop} {b : Nat} (C : Cx X G cL_law 11 RL (some .boolean) r_L_law nme tb) (kk : ∀ (r : Nat → Nat) (w : va_W), Wd G r z00 t00 0 0 0 w → V X G 11 w 20 400 Q 30 [(0, .ref b), (1, .ref (r 4)), (2, .ref (r 0)), (3, .ref (r 1)), (4, .ref (r 2)), (5, .ref (r 3))] []) : V X G 11 [] 0 0 Q 0 [(0, .ref b)] [] := by
  have hst : X.2.1.stackTraces = false := C.2.2.2.2.2.1
  have hG : GOK G := C.2.2.2.2.2.2.2.2.2.1
  refine v_new C (ci := 7) (N := 12) (fs := [.null, .null, .null, .null, .null, .null, .int 0, .int 0, .int 0, .int 0, .int 0, .int 0]) rfl inA_RX7 tyX7_ok K_L_10 in_X7 iz_X7 df_X7 (by decide) (by decide) dL_law_0 rfl (fun x => ?_)
  refine v_dup C dL_law_3 rfl rfl ?_
  refine w_invI C [] 12 189 L_L_154 (c_X7_init hst hG ap_new) rfl rfl rfl dL_law_4 rfl (fun v w1 hv => ?_)
  obtain ⟨rfl, c1, b0_c1, b1_c1, c4, b0_c4, b1_c4, c7, b0_c7, c9, c10, c11, rfl⟩ := hv
  refine xx_w (w' := [(x, Sum.inr (7, [.ref c1, .ref c4, .ref c7, .ref c9, .ref c10, .ref c11, .int 0, .int 100, .int 3, .int 7, .int 10, .int 0])), (c1, Sum.inr (2, [.ref b0_c1, .ref b1_c1, .int 0, .int 0])), (b0_c1, Sum.inl (G.2.2.1 0, 40, Sum.inl (fun _ => 0))), (b1_c1, Sum.inl (G.2.2.1 0, 40, Sum.inl (fun _ => 0))), (c4, Sum.inr (6, [.ref b0_c4, .ref b1_c4, .int 50])), (b0_c4, Sum.inl (G.2.2.1 0, 20, Sum.inl (fun _ => 0))), (b1_c4, Sum.inl (G.2.2.1 0, 20, Sum.inl (fun _ => 0))), (c7, Sum.inr (5, [.ref b0_c7])), (b0_c7, Sum.inl (G.2.2.1 0, 40, Sum.inl (fun _ => 0))), (c9, Sum.inr (0, [.int 0, .ref (G.2.2.1 10), .int 0])), (c10, Sum.inr (0, [.int 0, .ref (G.2.2.1 10), .int 0])), (c11, Sum.inr (0, [.int 0, .ref (G.2.2.1 10), .int 0]))]) (by rw [ap_sn]; rfl) ?_
  refine v_astore_n C (lv1 := [(1, .ref x), (0, .ref b)]) dL_law_7 rfl (by decide) rfl ?_
  refine v_bipush C (v := 6) dL_law_8 rfl rfl ?_
  refine v_newI C (N := 6) arr_i (by decide) rfl (by decide) (by decide) (by decide) dL_law_10 rfl (fun m => ?_)
  refine xx_w (w' := [(x, Sum.inr (7, [.ref c1, .ref c4, .ref c7, .ref c9, .ref c10, .ref c11, .int 0, .int 100, .int 3, .int 7, .int 10, .int 0])), (c1, Sum.inr (2, [.ref b0_c1, .ref b1_c1, .int 0, .int 0])), (b0_c1, Sum.inl (G.2.2.1 0, 40, Sum.inl (fun _ => 0))), (b1_c1, Sum.inl (G.2.2.1 0, 40, Sum.inl (fun _ => 0))), (c4, Sum.inr (6, [.ref b0_c4, .ref b1_c4, .int 50])), (b0_c4, Sum.inl (G.2.2.1 0, 20, Sum.inl (fun _ => 0))), (b1_c4, Sum.inl (G.2.2.1 0, 20, Sum.inl (fun _ => 0))), (c7, Sum.inr (5, [.ref b0_c7])), (b0_c7, Sum.inl (G.2.2.1 0, 40, Sum.inl (fun _ => 0))), (c9, Sum.inr (0, [.int 0, .ref (G.2.2.1 10), .int 0])), (c10, Sum.inr (0, [.int 0, .ref (G.2.2.1 10), .int 0])), (c11, Sum.inr (0, [.int 0, .ref (G.2.2.1 10), .int 0])), (m, Sum.inl (G.2.2.1 0, 6, Sum.inl (fun _ => 0)))]) rfl ?_
  refine v_astore_n C (lv1 := [(2, .ref m), (1, .ref x), (0, .ref b)]) dL_law_12 rfl (by decide) rfl ?_
  refine v_bipush C (v := 20) dL_law_13 rfl rfl ?_
  refine v_newI C (N := 20) arr_i (by decide) rfl (by decide) (by decide) (by decide) dL_law_15 rfl (fun u => ?_)
  refine xx_w (w' := [(x, Sum.inr (7, [.ref c1, .ref c4, .ref c7, .ref c9, .ref c10, .ref c11, .int 0, .int 100, .int 3, .int 7, .int 10, .int 0])), (c1, Sum.inr (2, [.ref b0_c1, .ref b1_c1, .int 0, .int 0])), (b0_c1, Sum.inl (G.2.2.1 0, 40, Sum.inl (fun _ => 0))), (b1_c1, Sum.inl (G.2.2.1 0, 40, Sum.inl (fun _ => 0))), (c4, Sum.inr (6, [.ref b0_c4, .ref b1_c4, .int 50])), (b0_c4, Sum.inl (G.2.2.1 0, 20, Sum.inl (fun _ => 0))), (b1_c4, Sum.inl (G.2.2.1 0, 20, Sum.inl (fun _ => 0))), (c7, Sum.inr (5, [.ref b0_c7])), (b0_c7, Sum.inl (G.2.2.1 0, 40, Sum.inl (fun _ => 0))), (c9, Sum.inr (0, [.int 0, .ref (G.2.2.1 10), .int 0])), (c10, Sum.inr (0, [.int 0, .ref (G.2.2.1 10), .int 0])), (c11, Sum.inr (0, [.int 0, .ref (G.2.2.1 10), .int 0])), (m, Sum.inl (G.2.2.1 0, 6, Sum.inl (fun _ => 0))), (u, Sum.inl (G.2.2.1 0, 20, Sum.inl (fun _ => 0)))]) rfl ?_
  refine v_astore_n C (lv1 := [(3, .ref u), (2, .ref m), (1, .ref x), (0, .ref b)]) dL_law_17 rfl (by decide) rfl ?_
  refine v_bipush C (v := 24) dL_law_18 rfl rfl ?_
  refine v_newI C (N := 24) arr_i (by decide) rfl (by decide) (by decide) (by decide) dL_law_20 rfl (fun v => ?_)
  refine xx_w (w' := [(x, Sum.inr (7, [.ref c1, .ref c4, .ref c7, .ref c9, .ref c10, .ref c11, .int 0, .int 100, .int 3, .int 7, .int 10, .int 0])), (c1, Sum.inr (2, [.ref b0_c1, .ref b1_c1, .int 0, .int 0])), (b0_c1, Sum.inl (G.2.2.1 0, 40, Sum.inl (fun _ => 0))), (b1_c1, Sum.inl (G.2.2.1 0, 40, Sum.inl (fun _ => 0))), (c4, Sum.inr (6, [.ref b0_c4, .ref b1_c4, .int 50])), (b0_c4, Sum.inl (G.2.2.1 0, 20, Sum.inl (fun _ => 0))), (b1_c4, Sum.inl (G.2.2.1 0, 20, Sum.inl (fun _ => 0))), (c7, Sum.inr (5, [.ref b0_c7])), (b0_c7, Sum.inl (G.2.2.1 0, 40, Sum.inl (fun _ => 0))), (c9, Sum.inr (0, [.int 0, .ref (G.2.2.1 10), .int 0])), (c10, Sum.inr (0, [.int 0, .ref (G.2.2.1 10), .int 0])), (c11, Sum.inr (0, [.int 0, .ref (G.2.2.1 10), .int 0])), (m, Sum.inl (G.2.2.1 0, 6, Sum.inl (fun _ => 0))), (u, Sum.inl (G.2.2.1 0, 20, Sum.inl (fun _ => 0))), (v, Sum.inl (G.2.2.1 0, 24, Sum.inl (fun _ => 0)))]) rfl ?_
  refine v_astore C (lv1 := [(4, .ref v), (3, .ref u), (2, .ref m), (1, .ref x), (0, .ref b)]) dL_law_22 rfl (by decide) rfl ?_
  refine v_bipush C (v := 60) dL_law_24 rfl rfl ?_
  refine v_newI C (N := 60) arr_i (by decide) rfl (by decide) (by decide) (by decide) dL_law_26 rfl (fun y => ?_)
  refine xx_w (w' := [(x, Sum.inr (7, [.ref c1, .ref c4, .ref c7, .ref c9, .ref c10, .ref c11, .int 0, .int 100, .int 3, .int 7, .int 10, .int 0])), (c1, Sum.inr (2, [.ref b0_c1, .ref b1_c1, .int 0, .int 0])), (b0_c1, Sum.inl (G.2.2.1 0, 40, Sum.inl (fun _ => 0))), (b1_c1, Sum.inl (G.2.2.1 0, 40, Sum.inl (fun _ => 0))), (c4, Sum.inr (6, [.ref b0_c4, .ref b1_c4, .int 50])), (b0_c4, Sum.inl (G.2.2.1 0, 20, Sum.inl (fun _ => 0))), (b1_c4, Sum.inl (G.2.2.1 0, 20, Sum.inl (fun _ => 0))), (c7, Sum.inr (5, [.ref b0_c7])), (b0_c7, Sum.inl (G.2.2.1 0, 40, Sum.inl (fun _ => 0))), (c9, Sum.inr (0, [.int 0, .ref (G.2.2.1 10), .int 0])), (c10, Sum.inr (0, [.int 0, .ref (G.2.2.1 10), .int 0])), (c11, Sum.inr (0, [.int 0, .ref (G.2.2.1 10), .int 0])), (m, Sum.inl (G.2.2.1 0, 6, Sum.inl (fun _ => 0))), (u, Sum.inl (G.2.2.1 0, 20, Sum.inl (fun _ => 0))), (v, Sum.inl (G.2.2.1 0, 24, Sum.inl (fun _ => 0))), (y, Sum.inl (G.2.2.1 0, 60, Sum.inl (fun _ => 0)))]) rfl ?_
  refine v_astore C (lv1 := [(5, .ref y), (4, .ref v), (3, .ref u), (2, .ref m), (1, .ref x), (0, .ref b)]) dL_law_28 rfl (by decide) rfl ?_
  refine xx_lv [5, 4, 3, 2, 1, 0] (lv' := [(0, .ref b), (1, .ref x), (2, .ref m), (3, .ref u), (4, .ref v), (5, .ref y)]) rfl ?_
  refine xx_mono (k' := 20) (n' := 400) (by decide) (by decide) ?_
  exact kk (rf0 m u v y x) _ ⟨_, L00, z00, W_00, L00_live, ⟨rfl, (by intro j hj; rcases (show j = 0 ∨ j = 1 ∨ j = 2 ∨ j = 3 by omega) with rfl | rfl | rfl | rfl <;> rfl)⟩, Ls_00 0 (by decide), Ls_00 1 (by decide), Ls_00 2 (by decide)⟩
