theorem ul_ok {z : SS} {d : Int32} (h : SlOK z) : ∀ n, SlOK (ulW z d n)
  | 0 => h
  | n + 1 => by
    intro i
    unfold ulW
    split
    · by_cases e : i = n
      · subst e; exact Or.inl su_a
      · rw [su_b e, su_o (by decide)]; exact ul_ok h n i
    · exact ul_ok h n i
theorem ps_ok {z : SS} {nm nc : Nat} (h : SlOK z) : ∀ n, SlOK (psC z nm nc n)
  | 0 => h
  | n + 1 => by
    intro i
    show dayC (psC z nm nc n) nm nc 50 i = 0 ∨ 0 < dayC (psC z nm nc n) nm nc 50 i
    unfold dayC
    rw [lpW_o (by decide), fdV_o (by decide)]
    exact ul_ok (fun i => by rw [laW_o (by decide) (by decide), su_o (by decide)]; exact ps_ok h n i) 20 i
theorem cl_0 {z : SS} {i : Nat} : ∀ n, ¬ clW z n 25 i = 0 → ¬ z 25 i = 0
  | 0 => fun h => h
  | n + 1 => by
    unfold clW
    intro h
    by_cases e : i = n
    · subst e
      rw [su_a] at h
      by_cases q : ¬ clW z i 25 i = 0 ∧ ¬ clW z i 17 (tn (z 22 i)) = 0 ∧ z 0 0 - z 26 i ≤ z 27 i
      · exact cl_0 i q.1
      · rw [if_neg q] at h; exact absurd rfl h
    · rw [su_b e] at h
      exact cl_0 n h
theorem ar_le {z : SS} : ∀ n, (arS z n).2 ≤ n
  | 0 => Nat.le_refl _
  | n + 1 => by
    have := ar_le (z := z) n
    unfold arS
    split
    · show (arS z n).2 ≤ n + 1
      omega
    · show (arS z n).2 + 1 ≤ n + 1
      omega
theorem ps_0 {z : SS} {nm nc nf dd : Nat} (h0 : z 0 0 = nI dd) (h36 : z 36 0 = nI nf) : ∀ n, (psS z nm nc nf n).1 0 0 = nI (dd + n) ∧ (psS z nm nc nf n).1 36 0 = nI (psS z nm nc nf n).2 ∧ (psS z nm nc nf n).2 ≤ nf ∧ ∀ i, ¬ (psS z nm nc nf n).1 25 i = 0 → ¬ z 25 i = 0
  | 0 => ⟨h0, h36, Nat.le_refl _, fun _ h => h⟩
  | n + 1 => by
    obtain ⟨e0, e36, e2, e25⟩ := ps_0 h0 h36 n
    refine ⟨?_, ?_, ?_, fun i hi => ?_⟩
    · show dayF (psS z nm nc nf n).1 nm nc (psS z nm nc nf n).2 0 0 = _
      unfold dayF
      rw [clW_o (by decide), fdW_o (by decide), arF_o (by decide) (by decide) (by decide) (by decide), eaW_o (by decide) (by decide), su_a, e0, ← Nat.add_assoc]
      exact (nI_succ (dd + n)).symm
    · show dayF (psS z nm nc nf n).1 nm nc (psS z nm nc nf n).2 36 0 = nI (dayN (psS z nm nc nf n).1 nm (psS z nm nc nf n).2)
      unfold dayF
      rw [clW_o (by decide), fdW_o (by decide)]
      exact su_a
    · show dayN (psS z nm nc nf n).1 nm (psS z nm nc nf n).2 ≤ nf
      exact Nat.le_trans (ar_le _) e2
    · have h1 : ¬ clW (fdW (arF (eaW (su (psS z nm nc nf n).1 0 0 ((psS z nm nc nf n).1 0 0 + 1)) nm) (psS z nm nc nf n).2) 40) nc 25 i = 0 := hi
      have h2 := cl_0 nc h1
      rw [fdW_o (by decide), arF_o (by decide) (by decide) (by decide) (by decide), eaW_o (by decide) (by decide), su_o (by decide)] at h2
      exact e25 i h2
theorem V6.mono {z : SS} {nm nc d1 d2 : Nat} (h : V6 z nm nc d1) (hd : d1 ≤ d2) : V6 z nm nc d2 := fun i hi => (h i hi).imp id (fun ⟨a, ⟨d, b, c⟩, e⟩ => ⟨a, ⟨d, b, Nat.le_trans c hd⟩, e⟩)
theorem Lat.mono {z : SS} {ns d1 d2 i c : Nat} (h : Lat z ns d1 i c) (hd : d1 ≤ d2) : Lat z ns d2 i c := h.imp id (fun ⟨d, a, b⟩ => ⟨d, Nat.le_trans a hd, b⟩)
theorem V8.mono {z : SS} {nm ns d1 d2 : Nat} (h : V8 z nm ns d1) (hd : d1 ≤ d2) : V8 z nm ns d2 := ⟨fun i c hi hc => (h.1 i c hi hc).mono hd, fun k hk => ⟨(h.2 k hk).1, (h.2 k hk).2.1, (h.2 k hk).2.2.imp fun _ a => ⟨Nat.le_trans a.1 hd, a.2⟩⟩⟩
theorem pass_has {z : SS} {nm nc nf : Nat} {x q : Int32} {i : Nat} (a : hasP (mrg (psC z nm nc (tn x)) (passU (su z 45 0 0) nm nc nf x)) q i) (p25 : ∀ i, ¬ (psS (su z 45 0 0) nm nc nf (tn x)).1 25 i = 0 → ¬ su z 45 0 0 25 i = 0) : hasP z q i := by
  have e23 : mrg (psC z nm nc (tn x)) (passU (su z 45 0 0) nm nc nf x) 23 = z 23 := ((mrg_t (by decide)).trans (psS_o (by decide) (by decide) (by decide) (by decide) (by decide) (by decide) (by decide) (by decide) (by decide) _))
  have e24 : mrg (psC z nm nc (tn x)) (passU (su z 45 0 0) nm nc nf x) 24 = z 24 := ((mrg_t (by decide)).trans (psS_o (by decide) (by decide) (by decide) (by decide) (by decide) (by decide) (by decide) (by decide) (by decide) _))
  obtain ⟨a1, a2⟩ := a
  rw [e23, e24] at a2
  exact ⟨p25 i a1, a2⟩
theorem k_pass {z : SS} {nm nc nr nf ns dd cc : Nat} {x : Int32} (h : Iv z nm nc nr nf ns dd cc) (he : passE z nm nc nf x = 0) : Nx (psC z nm nc (tn x)) (passU (su z 45 0 0) nm nc nf x) nm nc nr (cc + 1) ∧ (passU (su z 45 0 0) nm nc nf x) 45 0 = 0 := by
  obtain ⟨g1, g2⟩ := e02 he
  have hv := vp_rng1 (n := 200) (N := 201) rfl (by decide) g1
  have hx := in_lt hv
  obtain ⟨h1, h2, h3, h4, h5, h6, h7, h8, h9⟩ := h
  have hY : Sim z (su z 45 0 0) := Sim.rfl'.right rfl
  obtain ⟨s1, s2, s3⟩ := days_sim hY (show (slL z 20).Perm (frL (su z 45 0 0) nf) from h3.1) (V2.cg (z := z) (z' := su z 45 0 0) h2 rfl rfl rfl) (tn x)
  obtain ⟨p0, p36, p2, p25⟩ := ps_0 (z := su z 45 0 0) (nm := nm) (nc := nc) (nf := nf) (dd := dd) h1.2.2.2.2.2.1.1 h1.2.2.2.1.1 (tn x)
  have hdd : dd + tn x ≤ 5000 := by
    have h9 := h1.2.2.2.2.2.1
    rw [h9.1, in_nI hv (by decide), nI_add] at g2
    have : ¬ 5000 < dd + tn x := fun q => g2 ((nI_ltI (a := 5000) (by decide) (by omega)).mpr q)
    omega
  refine ⟨⟨s1, (psS (su z 45 0 0) nm nc nf (tn x)).2, ns, dd + tn x, ⟨?_, ?_, ?_, ?_, ?_, ?_, ?_, ?_, ?_⟩⟩, ?_⟩
  · refine ⟨⟨?_, h1.1.2⟩, ⟨?_, h1.2.1.2⟩, ⟨?_, h1.2.2.1.2⟩, ⟨?_, by have := h1.2.2.2.1.2; omega⟩, ⟨?_, by have := h1.2.2.2.2.1.2; omega⟩, ⟨?_, hdd⟩, ?_⟩
    · exact (congrFun ((mrg_t (by decide)).trans (psS_o (by decide) (by decide) (by decide) (by decide) (by decide) (by decide) (by decide) (by decide) (by decide) _)) 0).trans h1.1.1
    · exact (congrFun ((mrg_t (by decide)).trans (psS_o (by decide) (by decide) (by decide) (by decide) (by decide) (by decide) (by decide) (by decide) (by decide) _)) 0).trans h1.2.1.1
    · exact (congrFun ((mrg_t (by decide)).trans (psS_o (by decide) (by decide) (by decide) (by decide) (by decide) (by decide) (by decide) (by decide) (by decide) _)) 0).trans h1.2.2.1.1
    · exact p36
    · exact (congrFun ((mrg_t (by decide)).trans (psS_o (by decide) (by decide) (by decide) (by decide) (by decide) (by decide) (by decide) (by decide) (by decide) _)) 0).trans h1.2.2.2.2.1.1
    · exact p0
    · obtain ⟨r, e, hr⟩ := h1.2.2.2.2.2.2
      exact ⟨r, (congrFun ((mrg_t (by decide)).trans (psS_o (by decide) (by decide) (by decide) (by decide) (by decide) (by decide) (by decide) (by decide) (by decide) _)) 0).trans e, hr⟩
  · exact V2.cg s3 rfl rfl rfl
  · refine ⟨?_, fun i => by rw [mrg_s (k := 50) (by decide)]; exact ps_ok h3.2 _ i⟩
    rw [slL_c (z := psC z nm nc (tn x)) (fun i _ => ⟨by rw [mrg_s (by decide)], fun _ => by rw [mrg_s (by decide)]⟩), frL_c (z := (psS (su z 45 0 0) nm nc nf (tn x)).1) (fun i _ => ⟨by rw [mrg_t (by decide)]; rfl, by rw [mrg_t (by decide)]; rfl⟩)]
    exact s2
  · refine ⟨?_, fun q i j hi hj a b => h4.2 q i j hi hj ?_ ?_⟩
    · have e23 : mrg (psC z nm nc (tn x)) (passU (su z 45 0 0) nm nc nf x) 23 = z 23 := ((mrg_t (by decide)).trans (psS_o (by decide) (by decide) (by decide) (by decide) (by decide) (by decide) (by decide) (by decide) (by decide) _))
      have e24 : mrg (psC z nm nc (tn x)) (passU (su z 45 0 0) nm nc nf x) 24 = z 24 := ((mrg_t (by decide)).trans (psS_o (by decide) (by decide) (by decide) (by decide) (by decide) (by decide) (by decide) (by decide) (by decide) _))
      have := h4.1
      unfold SzOK at this ⊢
      rw [e23, e24]; exact this
    · exact pass_has a p25
    · exact pass_has b p25
  · exact h5.cg ((mrg_t (by decide)).trans (psS_o (by decide) (by decide) (by decide) (by decide) (by decide) (by decide) (by decide) (by decide) (by decide) _)) ((mrg_t (by decide)).trans (psS_o (by decide) (by decide) (by decide) (by decide) (by decide) (by decide) (by decide) (by decide) (by decide) _))
  · exact V6.mono (d1 := dd) (h6.cg ((mrg_t (by decide)).trans (psS_o (by decide) (by decide) (by decide) (by decide) (by decide) (by decide) (by decide) (by decide) (by decide) _)) ((mrg_t (by decide)).trans (psS_o (by decide) (by decide) (by decide) (by decide) (by decide) (by decide) (by decide) (by decide) (by decide) _)) ((mrg_t (by decide)).trans (psS_o (by decide) (by decide) (by decide) (by decide) (by decide) (by decide) (by decide) (by decide) (by decide) _)) ((mrg_t (by decide)).trans (psS_o (by decide) (by decide) (by decide) (by decide) (by decide) (by decide) (by decide) (by decide) (by decide) _)) ((mrg_s (by decide)).trans (psC_o (by decide) (by decide) (by decide) (by decide) (by decide) (by decide) (by decide) _))) (by omega)
  · exact h7.cg (fun i _ => congrFun ((mrg_t (by decide)).trans (psS_o (by decide) (by decide) (by decide) (by decide) (by decide) (by decide) (by decide) (by decide) (by decide) _)) i) (fun i _ => congrFun ((mrg_t (by decide)).trans (psS_o (by decide) (by decide) (by decide) (by decide) (by decide) (by decide) (by decide) (by decide) (by decide) _)) i) (fun i _ => congrFun ((mrg_t (by decide)).trans (psS_o (by decide) (by decide) (by decide) (by decide) (by decide) (by decide) (by decide) (by decide) (by decide) _)) i) ((mrg_t (by decide)).trans (psS_o (by decide) (by decide) (by decide) (by decide) (by decide) (by decide) (by decide) (by decide) (by decide) _)) ((mrg_t (by decide)).trans (psS_o (by decide) (by decide) (by decide) (by decide) (by decide) (by decide) (by decide) (by decide) (by decide) _)) ((mrg_t (by decide)).trans (psS_o (by decide) (by decide) (by decide) (by decide) (by decide) (by decide) (by decide) (by decide) (by decide) _))
  · exact V8.mono (d1 := dd) (h8.cg ((mrg_t (by decide)).trans (psS_o (by decide) (by decide) (by decide) (by decide) (by decide) (by decide) (by decide) (by decide) (by decide) _)) ((mrg_t (by decide)).trans (psS_o (by decide) (by decide) (by decide) (by decide) (by decide) (by decide) (by decide) (by decide) (by decide) _)) ((mrg_t (by decide)).trans (psS_o (by decide) (by decide) (by decide) (by decide) (by decide) (by decide) (by decide) (by decide) (by decide) _)) ((mrg_s (by decide)).trans (psC_o (by decide) (by decide) (by decide) (by decide) (by decide) (by decide) (by decide) _))) (by omega)
  · exact h9.cg ((mrg_t (by decide)).trans (psS_o (by decide) (by decide) (by decide) (by decide) (by decide) (by decide) (by decide) (by decide) (by decide) _)) ((mrg_t (by decide)).trans (psS_o (by decide) (by decide) (by decide) (by decide) (by decide) (by decide) (by decide) (by decide) (by decide) _)) ((mrg_t (by decide)).trans (psS_o (by decide) (by decide) (by decide) (by decide) (by decide) (by decide) (by decide) (by decide) (by decide) _)) ((mrg_t (by decide)).trans (psS_o (by decide) (by decide) (by decide) (by decide) (by decide) (by decide) (by decide) (by decide) (by decide) _)) ((mrg_t (by decide)).trans (psS_o (by decide) (by decide) (by decide) (by decide) (by decide) (by decide) (by decide) (by decide) (by decide) _)) ((mrg_t (by decide)).trans (psS_o (by decide) (by decide) (by decide) (by decide) (by decide) (by decide) (by decide) (by decide) (by decide) _)) ((mrg_t (by decide)).trans (psS_o (by decide) (by decide) (by decide) (by decide) (by decide) (by decide) (by decide) (by decide) (by decide) _)) ((mrg_s (by decide)).trans (psC_o (by decide) (by decide) (by decide) (by decide) (by decide) (by decide) (by decide) _))
  · exact congrFun (psS_o (by decide) (by decide) (by decide) (by decide) (by decide) (by decide) (by decide) (by decide) (by decide) _) 0

theorem k_right {z : SS} {nm nc nr nf ns dd cc : Nat} {x i_ : Int32} (h : Iv z nm nc nr nf ns dd cc) (he : rightE z nr x i_ = 0) : Nx (su (rightU z nr x i_) 55 2 (z 55 2 + 1)) (rightU (su z 45 0 0) nr x i_) nm nc (nr + 1) (cc + 1) ∧ (rightU (su z 45 0 0) nr x i_) 45 0 = 0 := by
  obtain ⟨g1, g2, g3⟩ := e3 he
  have hv : vp_in x nm := vp_cnt (N := nm) g1 h.1.1.1 (Nat.le_refl _) (by have := h.1.1.2; omega)
  obtain ⟨h1, h2, h3, h4, h5, h6, h7, h8, h9⟩ := h
  have h20 := h1.2.2.1.2
  have hn : nr ≠ 20 := fun e => g3 (Or.inr e)
  exact ⟨⟨Sim.left (((((Sim.rfl'.right (k := 45) (i := 0) (v := 0) rfl)).put _ _ _).put _ _ _).put _ _ _) rfl, _, _, _, ⟨⟨h1.1, h1.2.1, ⟨rfl, by omega⟩, h1.2.2.2.1, ⟨h1.2.2.2.2.1.1, by have := h1.2.2.2.2.1.2; omega⟩, h1.2.2.2.2.2.1, h1.2.2.2.2.2.2⟩, V2.cg h2 rfl rfl rfl, h3.cg rfl rfl rfl rfl, h4.cg rfl rfl rfl, ⟨h5.1, fun i hi => (by
    show vp_in (su (su z 45 0 0) 34 nr x 34 i) nm
    by_cases e : i = nr
    · subst e; rw [su_a]; exact hv
    · rw [su_b e]; exact h5.2 i (by omega))⟩, h6.cg rfl rfl rfl rfl rfl, h7.cg (fun _ _ => rfl) (fun _ _ => rfl) (fun _ _ => rfl) rfl rfl rfl, h8.cg rfl rfl rfl rfl, h9.cg rfl rfl rfl rfl rfl rfl rfl rfl⟩⟩, rfl⟩
