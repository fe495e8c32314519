theorem shW_su {z : SS} {k i j : Nat} {v m : Int32} (h13 : k ≠ 13) (h20 : k ≠ 20) : ∀ n, shW (su z k i v) j m n = su (shW z j m n) k i v
  | 0 => rfl
  | n + 1 => by
    unfold shW
    rw [shW_su h13 h20 n, su_o (s := shW z j m n) (k := k) (k' := 13) (Ne.symm h13), su_o (s := z) (k := k) (k' := 20) (Ne.symm h20), su_comm h13]
theorem shL_su {z : SS} {k i j : Nat} {v m : Int32} (h20 : k ≠ 20) : ∀ n, shL (su z k i v) j m n = shL z j m n
  | 0 => rfl
  | n + 1 => by
    unfold shL
    rw [shL_su h20 n, su_o (Ne.symm h20)]
theorem sha_su {z : SS} {k i j n : Nat} {v m : Int32} (h13 : k ≠ 13) (h20 : k ≠ 20) : shaF (su z k i v) j m n = su (shaF z j m n) k i v := by
  unfold shaF
  rw [shW_su h13 h20, shL_su h20, su_o (Ne.symm h13), su_comm h13]
theorem sha_wk {z : SS} {j n : Nat} {h d m : Int32} : shaF (wkE z h d) j m n = wkE (shaF z j m n) h d := by
  unfold wkE
  split
  · rfl
  · exact sha_su (by decide) (by decide)
theorem shW_t {z : SS} {j i : Nat} {m : Int32} : ∀ n, n ≤ i → shW z j m n 13 i = z 13 i
  | 0, _ => rfl
  | n + 1, h => by
    unfold shW
    rw [su_b (by omega)]
    exact shW_t n (by omega)
theorem sha_t {z : SS} {j i n : Nat} {m : Int32} (h : n ≤ i) (hj : j < n) : shaF z j m n 13 i = z 13 i := by
  unfold shaF
  rw [su_b (by omega)]
  exact shW_t n h
theorem Sim.shW {s t : SS} (h : Sim s t) {j : Nat} {m : Int32} : ∀ n, Sim (shW s j m n) (shW t j m n)
  | 0 => h
  | n + 1 => by
    have ih := Sim.shW h (j := j) (m := m) n
    show Sim (su (_root_.Jvm.Pilot.CNuggetCampLaw_law_r6840_b8806f.shW s j m n) 13 n _) (su (_root_.Jvm.Pilot.CNuggetCampLaw_law_r6840_b8806f.shW t j m n) 13 n _)
    rw [ih 13 rfl, h 20 rfl]
    exact ih.put 13 n _
theorem shL_cg {s t : SS} (h : s 20 = t 20) {j : Nat} {m : Int32} : ∀ n, shL s j m n = shL t j m n
  | 0 => rfl
  | n + 1 => by
    unfold shL
    rw [shL_cg h n, h]
theorem Sim.sha {s t : SS} (h : Sim s t) {j n : Nat} {m : Int32} : Sim (shaF s j m n) (shaF t j m n) := by
  have ih := h.shW (j := j) (m := m) n
  unfold shaF
  rw [ih 13 rfl, shL_cg (h 20 rfl)]
  exact ih.put 13 j _
theorem Sim.dig {s t : SS} (h : Sim s t) {c m : Int32} : Sim (digF s c m) (digF t c m) := by
  unfold digF
  rw [show s 9 = t 9 from h 9 rfl, show s 10 = t 10 from h 10 rfl, show s 6 = t 6 from h 6 rfl]
  have p := h.put 9 (tn c) (t 9 (tn c) - takF m (t 9 (tn c)))
  by_cases q : c = 39
  · rw [if_pos q, if_pos q]
    exact p.put 6 0 _
  · rw [if_neg q, if_neg q, p 9 rfl]
    exact p.put 9 _ _
theorem Sim.wk {s t : SS} (h : Sim s t) {a d : Int32} : Sim (wkE s a d) (wkE t a d) := by
  unfold wkE
  by_cases q : a = -1
  · rw [if_pos q, if_pos q]; exact h
  · rw [if_neg q, if_neg q]; exact h.put _ _ _
theorem heldM_cg {s t : SS} (h23 : s 23 = t 23) (h24 : s 24 = t 24) (h25 : s 25 = t 25) {x : Int32} : ∀ n, heldM s x n = heldM t x n
  | 0 => rfl
  | n + 1 => by
    unfold heldM
    rw [heldM_cg h23 h24 h25 n, h23, h24, h25]
theorem wk_o {z : SS} {a d : Int32} {k : Nat} (h : k ≠ 26) : wkE z a d k = z k := by
  unfold wkE
  split
  · rfl
  · exact su_o h
theorem dig_o {z : SS} {c m : Int32} {k : Nat} (h9 : k ≠ 9) (h6 : k ≠ 6) : digF z c m k = z k := by
  unfold digF
  split
  · rw [su_o h6, su_o h9]
  · rw [su_o h9, su_o h9]
theorem workU_o {z : SS} {nm nc nr k : Nat} {x c m : Int32} (h9 : k ≠ 9) (h6 : k ≠ 6) (h13 : k ≠ 13) (h8 : k ≠ 8) (h19 : k ≠ 19) (h26 : k ≠ 26) : workU z nm nc nr x c m k = z k := by
  unfold workU
  rw [wk_o h26, su_o h8, su_o h19, shaF_o h13, dig_o h9 h6]
theorem workU_t {z : SS} {nm nc nr i : Nat} {x c m : Int32} (hi : nm ≤ i) (hx : tn x < nm) : workU z nm nc nr x c m 13 i = z 13 i := by
  unfold workU
  rw [wk_o (by decide), su_o (by decide), su_o (by decide), sha_t hi hx, dig_o (by decide) (by decide)]
theorem e3c {P Q R R' : Prop} [Decidable P] [Decidable Q] [Decidable R] [Decidable R'] (h : P → Q → (R ↔ R')) : (if ¬ P then (1 : Int32) else if ¬ Q then 2 else if R then 3 else 0) = (if ¬ P then 1 else if ¬ Q then 2 else if R' then 3 else 0) := by
  by_cases h1 : P
  · rw [if_neg (not_not_intro h1), if_neg (not_not_intro h1)]
    by_cases h2 : Q
    · rw [if_neg (not_not_intro h2), if_neg (not_not_intro h2)]
      by_cases h3 : R
      · rw [if_pos h3, if_pos ((h h1 h2).mp h3)]
      · rw [if_neg h3, if_neg (fun z => h3 ((h h1 h2).mpr z))]
    · rw [if_pos h2, if_pos h2]
  · rw [if_pos h1, if_pos h1]
theorem k_workE {z : SS} {nm nc nr nf ns dd cc : Nat} {x c m : Int32} (h : Iv z nm nc nr nf ns dd cc) : workEC z nm nc nr x c m = workE z nm nc nr x c m := by
  unfold workEC workE
  exact e3c (fun g1 g2 => by
    have hv := vp_rng (n := 3) (N := 4) rfl (by decide) g2
    rw [may_eq (hd_eq h.2.2.2.1 c) (in_nI hv (by decide)) (in_lt hv), ← in_nI hv (by decide)])
theorem k_workU {z : SS} {nm nc nr nf ns dd cc : Nat} {x c m : Int32} (h : Iv z nm nc nr nf ns dd cc) (he : workE z nm nc nr x c m = 0) : workUC z nm nc x c m = workU z nm nc nr x c m ∧ workRC z c m = workR z nm nc nr x c m := by
  obtain ⟨⟨g1, g2⟩, g3, g4⟩ := e3 he
  obtain ⟨c40, ec⟩ := ce_lt g2
  have hv := vp_rng (n := 3) (N := 4) rfl (by decide) g3
  have em := in_nI hv (by decide)
  obtain ⟨d1, d2⟩ := dig_eq (z := z) (m := m) c40
  rw [← ec] at d1 d2
  have hR : workRC z c m = recF m (z 9 (tn c)) (z 10 (tn c)) := by
    unfold workRC
    rw [← em]
    exact d2
  refine ⟨?_, hR⟩
  unfold workUC workU
  rw [hR, ← em, d1, hd_eq h.2.2.2.1, sha_wk, sha_su (by decide) (by decide), sha_su (by decide) (by decide), su_comm (by decide)]
theorem k_work {z : SS} {nm nc nr nf ns dd cc : Nat} {x c m : Int32} (h : Iv z nm nc nr nf ns dd cc) (he : workE z nm nc nr x c m = 0) : Nx (workUC z nm nc x c m) (workU (su z 45 0 0) nm nc nr x c m) nm nc nr (cc + 1) ∧ (workU (su z 45 0 0) nm nc nr x c m) 45 0 = 0 := by
  rw [(k_workU h he).1]
  obtain ⟨⟨g1, g2⟩, g3, g4⟩ := e3 he
  have hx := mi_lt g1 h.1.1.1 h.1.1.2
  obtain ⟨h1, h2, h3, h4, h5, h6, h7, h8, h9⟩ := h
  refine ⟨⟨?_, nf, ns, dd, ⟨h1.cg (cc + 1) (by omega) ((mrg_t (by decide)).trans (workU_o (by decide) (by decide) (by decide) (by decide) (by decide) (by decide))) ((mrg_t (by decide)).trans (workU_o (by decide) (by decide) (by decide) (by decide) (by decide) (by decide))) ((mrg_t (by decide)).trans (workU_o (by decide) (by decide) (by decide) (by decide) (by decide) (by decide))) ((mrg_t (by decide)).trans (workU_o (by decide) (by decide) (by decide) (by decide) (by decide) (by decide))) ((mrg_t (by decide)).trans (workU_o (by decide) (by decide) (by decide) (by decide) (by decide) (by decide))) ((mrg_t (by decide)).trans (workU_o (by decide) (by decide) (by decide) (by decide) (by decide) (by decide))) ((mrg_t (by decide)).trans (workU_o (by decide) (by decide) (by decide) (by decide) (by decide) (by decide))), V2.cg h2 ((mrg_t (by decide)).trans (workU_o (by decide) (by decide) (by decide) (by decide) (by decide) (by decide))) ((mrg_t (by decide)).trans (workU_o (by decide) (by decide) (by decide) (by decide) (by decide) (by decide))) ((mrg_t (by decide)).trans (workU_o (by decide) (by decide) (by decide) (by decide) (by decide) (by decide))), h3.cg ((mrg_t (by decide)).trans (workU_o (by decide) (by decide) (by decide) (by decide) (by decide) (by decide))) ((mrg_t (by decide)).trans (workU_o (by decide) (by decide) (by decide) (by decide) (by decide) (by decide))) ((mrg_s (by decide)).trans (workU_o (by decide) (by decide) (by decide) (by decide) (by decide) (by decide))) ((mrg_s (by decide)).trans (workU_o (by decide) (by decide) (by decide) (by decide) (by decide) (by decide))), h4.cg ((mrg_t (by decide)).trans (workU_o (by decide) (by decide) (by decide) (by decide) (by decide) (by decide))) ((mrg_t (by decide)).trans (workU_o (by decide) (by decide) (by decide) (by decide) (by decide) (by decide))) ((mrg_t (by decide)).trans (workU_o (by decide) (by decide) (by decide) (by decide) (by decide) (by decide))), h5.cg ((mrg_t (by decide)).trans (workU_o (by decide) (by decide) (by decide) (by decide) (by decide) (by decide))) ((mrg_t (by decide)).trans (workU_o (by decide) (by decide) (by decide) (by decide) (by decide) (by decide))), h6.cg ((mrg_t (by decide)).trans (workU_o (by decide) (by decide) (by decide) (by decide) (by decide) (by decide))) ((mrg_t (by decide)).trans (workU_o (by decide) (by decide) (by decide) (by decide) (by decide) (by decide))) ((mrg_t (by decide)).trans (workU_o (by decide) (by decide) (by decide) (by decide) (by decide) (by decide))) ((mrg_t (by decide)).trans (workU_o (by decide) (by decide) (by decide) (by decide) (by decide) (by decide))) ((mrg_s (by decide)).trans (workU_o (by decide) (by decide) (by decide) (by decide) (by decide) (by decide))), h7.cg (fun i hi => by rw [mrg_t (by decide)]; exact workU_t hi hx) (fun i _ => congrFun ((mrg_t (by decide)).trans (workU_o (by decide) (by decide) (by decide) (by decide) (by decide) (by decide))) i) (fun i _ => congrFun ((mrg_t (by decide)).trans (workU_o (by decide) (by decide) (by decide) (by decide) (by decide) (by decide))) i) ((mrg_t (by decide)).trans (workU_o (by decide) (by decide) (by decide) (by decide) (by decide) (by decide))) ((mrg_t (by decide)).trans (workU_o (by decide) (by decide) (by decide) (by decide) (by decide) (by decide))) ((mrg_t (by decide)).trans (workU_o (by decide) (by decide) (by decide) (by decide) (by decide) (by decide))), h8.cg ((mrg_t (by decide)).trans (workU_o (by decide) (by decide) (by decide) (by decide) (by decide) (by decide))) ((mrg_t (by decide)).trans (workU_o (by decide) (by decide) (by decide) (by decide) (by decide) (by decide))) ((mrg_t (by decide)).trans (workU_o (by decide) (by decide) (by decide) (by decide) (by decide) (by decide))) ((mrg_s (by decide)).trans (workU_o (by decide) (by decide) (by decide) (by decide) (by decide) (by decide))), h9.cg ((mrg_t (by decide)).trans (workU_o (by decide) (by decide) (by decide) (by decide) (by decide) (by decide))) ((mrg_t (by decide)).trans (workU_o (by decide) (by decide) (by decide) (by decide) (by decide) (by decide))) ((mrg_t (by decide)).trans (workU_o (by decide) (by decide) (by decide) (by decide) (by decide) (by decide))) ((mrg_t (by decide)).trans (workU_o (by decide) (by decide) (by decide) (by decide) (by decide) (by decide))) ((mrg_t (by decide)).trans (workU_o (by decide) (by decide) (by decide) (by decide) (by decide) (by decide))) ((mrg_t (by decide)).trans (workU_o (by decide) (by decide) (by decide) (by decide) (by decide) (by decide))) ((mrg_t (by decide)).trans (workU_o (by decide) (by decide) (by decide) (by decide) (by decide) (by decide))) ((mrg_s (by decide)).trans (workU_o (by decide) (by decide) (by decide) (by decide) (by decide) (by decide)))⟩⟩, congrFun (workU_o (by decide) (by decide) (by decide) (by decide) (by decide) (by decide)) 0⟩
  unfold workU
  rw [heldM_cg (s := su z 45 0 0) (t := z) rfl rfl rfl]
  exact (((Sim.dig (Sim.rfl'.right rfl)).sha.put 19 (tn x) (z 0 0)).put 8 0 1).wk
