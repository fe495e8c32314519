theorem sr_id {z : SS} {K w n : Nat} {v : Int32} (h : ∀ j, w * n ≤ j → j < w * n + w → z K j = v) : sr z K w n v = z := funext fun k => funext fun i => by
  unfold sr
  by_cases q : k = K ∧ w * n ≤ i ∧ i < w * n + w
  · rw [if_pos q, q.1]; exact (h i q.2.1 q.2.2).symm
  · rw [if_neg q]
theorem sr_o {z : SS} {K w n k : Nat} {v : Int32} (h : k ≠ K) : sr z K w n v k = z k := funext fun i => if_neg (fun q => h q.1)
theorem Sim.srl {s t : SS} (h : Sim s t) {K w n : Nat} {v : Int32} (hk : shd K = false) : Sim (sr s K w n v) t := fun k q => by
  rw [sr_o (fun e => by rw [e, hk] at q; cases q)]
  exact h k q
theorem minerS_eq {z : SS} {nm nc : Nat} {f c : Int32} (h7 : V7 z nm nc) : minerS z nm f c = su (sr (minerU z nm f c) 52 40 nm (-1)) 55 0 (z 55 0 + 1) := by
  obtain ⟨a, b, -⟩ := h7
  obtain ⟨a1, a2, a3⟩ := a nm (Nat.le_refl _)
  unfold minerS
  rw [su_id (z := minerU z nm f c) (k := 13) (i := nm) (v := 0) a1, su_id (z := minerU z nm f c) (k := 14) (i := nm) (v := 0) a2, su_id (z := minerU z nm f c) (k := 18) (i := nm) (v := 0) a3, sr_id (z := minerU z nm f c) (fun j h1 h2 => ?_)]
  show z 20 j = 0
  have := b nm (j - 12 * nm) (Or.inl (Nat.le_refl _)) (by omega)
  rw [show 12 * nm + (j - 12 * nm) = j by omega] at this
  exact this
theorem upd_at {f : Nat → Int32} {i : Nat} {v : Int32} : upd f i v i = v := if_pos rfl
theorem upd_ne {f : Nat → Int32} {i j : Nat} {v : Int32} (h : j ≠ i) : upd f i v j = f j := if_neg h
theorem k_miner {z : SS} {nm nc nr nf ns dd cc : Nat} {f c : Int32} (h : Iv z nm nc nr nf ns dd cc) (he : minerE z nm f c = 0) : Nx (minerS z nm f c) (minerU (su z 45 0 0) nm f c) (nm + 1) nc nr (cc + 1) ∧ (minerU (su z 45 0 0) nm f c) 45 0 = 0 := by
  obtain ⟨g1, g2⟩ := e02 he
  obtain ⟨h1, h2, h3, h4, h5, h6, h7, h8, h9⟩ := h
  have h12 := h1.1.2
  rw [minerS_eq h7]
  have ms : ∀ k, 46 ≤ k → k ≠ 52 → k ≠ 55 → mrg (su (sr (minerU z nm f c) 52 40 nm (-1)) 55 0 (z 55 0 + 1)) (minerU (su z 45 0 0) nm f c) k = minerU z nm f c k := fun k hk h52 h55 => (mrg_s hk).trans ((su_o h55).trans (sr_o h52))
  have e52 : ∀ j, mrg (su (sr (minerU z nm f c) 52 40 nm (-1)) 55 0 (z 55 0 + 1)) (minerU (su z 45 0 0) nm f c) 52 j = sr (minerU z nm f c) 52 40 nm (-1) 52 j := fun j => by rw [mrg_s (by decide), su_o (by decide)]
  refine ⟨⟨Sim.left (Sim.srl (((((((Sim.rfl'.right (k := 45) (i := 0) (v := 0) rfl)).put _ _ _).put _ _ _).put _ _ _).put _ _ _).put _ _ _) rfl) rfl, nf, ns, dd, ⟨?_, ?_, ?_, h4.cg rfl rfl rfl, ?_, ?_, ?_, ?_, ?_⟩⟩, rfl⟩
  · exact ⟨⟨rfl, by omega⟩, h1.2.1, h1.2.2.1, h1.2.2.2.1, ⟨h1.2.2.2.2.1.1, by have := h1.2.2.2.2.1.2; omega⟩, h1.2.2.2.2.2.1, h1.2.2.2.2.2.2⟩
  · refine ⟨fun i hi => ?_, h2.2.1, h2.2.2⟩
    show ∃ q, upd (z 17) nm 10 i = nI q ∧ q ≤ 10
    by_cases e : i = nm
    · rw [e, upd_at]; exact ⟨10, rfl, Nat.le_refl _⟩
    · rw [upd_ne e]; exact h2.1 i (by omega)
  · exact h3.cg rfl rfl (ms 50 (by decide) (by decide) (by decide)) (ms 51 (by decide) (by decide) (by decide))
  · exact ⟨fun i hi => vp_up (h5.1 i hi) (by omega), fun i hi => vp_up (h5.2 i hi) (by omega)⟩
  · intro i hi
    rw [ms 53 (by decide) (by decide) (by decide)]
    exact (h6 i hi).imp id (fun ⟨a, b, c, d, e⟩ => ⟨a, b, c, vp_up d (by omega), e⟩)
  · exact ⟨fun i hi => h7.1 i (by omega), fun j b hj hb => h7.2.1 j b (by omega) hb, h7.2.2⟩
  · refine ⟨fun i q hi hq => ?_, fun k hk => ⟨(h8.2 k hk).1.imp fun a p => ⟨by omega, p.2⟩, (h8.2 k hk).2.1, (h8.2 k hk).2.2⟩⟩
    by_cases e : i = nm
    · refine Or.inl ⟨?_, fun k hk hh => ?_⟩
      · rw [e52, e]
        exact sr_in ⟨by omega, by omega⟩
      · obtain ⟨i', hi', e'⟩ := (h8.2 k hk).1
        have h9 : z 40 k = nI i := hh.1
        rw [e', nI_eq (by omega) (by omega)] at h9
        omega
    · have e9 : mrg (su (sr (minerU z nm f c) 52 40 nm (-1)) 55 0 (z 55 0 + 1)) (minerU (su z 45 0 0) nm f c) 52 (40 * i + q) = z 52 (40 * i + q) := by
        rw [e52]
        exact sr_b (fun p => by omega)
      exact (h8.1 i q (by omega) hq).imp (fun ⟨a, b⟩ => ⟨e9.trans a, b⟩) (fun ⟨d, a, b, c⟩ => ⟨d, a, e9.trans b, c⟩)
  · exact h9.cg rfl rfl rfl rfl rfl rfl rfl (ms 54 (by decide) (by decide) (by decide))

theorem has_C {z : SS} {x : Int32} {j : Nat} : ∀ n, n < 1000 → j < n → hasP z x j → ¬ heldC z x n = -1
  | 0, _, h, _ => absurd h (Nat.not_lt_zero _)
  | n + 1, h1, h, hp => by
    unfold heldC
    by_cases q : heldC z x n = -1
    · rw [if_pos q]
      have e : j = n := by
        by_cases e : j = n
        · exact e
        · exact absurd q (has_C n (by omega) (by omega) hp)
      subst e
      rw [if_pos (show ¬ z 25 j = 0 ∧ (z 23 j ≤ x ∧ x < z 23 j + z 24 j) from hp)]
      exact nI_m1 (by omega)
    · rw [if_neg q]; exact q
theorem freeM_all {z : SS} {c nc : Nat} : ∀ n, ¬ freeM z c nc n = 0 → ∀ i, i < n → heldM z (nI (c + i)) nc = -1
  | 0, _, _, hi => absurd hi (Nat.not_lt_zero _)
  | n + 1, h, i, hi => by
    unfold freeM at h
    by_cases q : freeM z c nc n = 0
    · rw [if_pos q] at h; exact absurd rfl h
    · rw [if_neg q] at h
      by_cases e : i = n
      · subst e
        by_cases q2 : heldM z (nI (c + i)) nc = -1
        · exact q2
        · rw [if_neg q2] at h; exact absurd rfl h
      · exact freeM_all n q i (by omega)
theorem hd_eq {z : SS} {nc : Nat} (h4 : V4 z nc) (x : Int32) : heldC z x nc = heldM z x nc := held_eq nc h4.1 (h4.2 x)
theorem k_pegE {z : SS} {nm nc nr nf ns dd cc : Nat} {x c m : Int32} (h : Iv z nm nc nr nf ns dd cc) : pegEC z nc x c m = pegE z nc x c m := by
  unfold pegEC pegE
  rw [free_eq (tn m) (fun i _ => hd_eq h.2.2.2.1 _)]
theorem pegS_eq {z : SS} {nm nc : Nat} {x c m : Int32} (h7 : V7 z nm nc) : pegS z nc x c m = su (su (su (pegU z nc x c m) 53 nc (-1)) 54 nc 0) 55 1 (z 55 1 + 1) := by
  obtain ⟨a, b⟩ := h7.2.2 nc (Nat.le_refl _)
  unfold pegS
  rw [su_id (z := su (pegU z nc x c m) 53 nc (-1)) (k := 31) (i := nc) (v := 0) b, su_id (z := su (su (pegU z nc x c m) 53 nc (-1)) 54 nc 0) (k := 28) (i := nc) (v := 0) a]
theorem k_peg {z : SS} {nm nc nr nf ns dd cc : Nat} {x c m : Int32} (h : Iv z nm nc nr nf ns dd cc) (he : pegE z nc x c m = 0) : Nx (pegS z nc x c m) (pegU (su z 45 0 0) nc x c m) nm (nc + 1) nr (cc + 1) ∧ (pegU (su z 45 0 0) nc x c m) 45 0 = 0 := by
  obtain ⟨⟨g1, g2, g2b⟩, g3, g4⟩ := e3 he
  have hv : vp_in x nm := vp_cnt (N := nm) g1 h.1.1.1 (Nat.le_refl _) (by have := h.1.1.2; omega)
  obtain ⟨c40, ec⟩ := ce_lt g2
  have hm1 := vp_rng1 (n := 10) (N := 11) rfl (by decide) g3
  have em := in_nI hm1 (by decide)
  have hm11 := in_lt hm1
  have hm0 : 1 ≤ tn m := by
    have := g3.1
    rw [em] at this
    exact (nI_leI (a := 1) (by decide) (by omega)).mp this
  have hcm : tn c + tn m ≤ 40 := by
    rw [em, ec, show (40 : Int32) = nI 40 from rfl, pk_sub (by omega), nI_leI (by omega) (by omega)] at g2b
    omega
  obtain ⟨h1, h2, h3, h4, h5, h6, h7, h8, h9⟩ := h
  have hn30 : nc ≠ 30 := fun e => g4 (Or.inr (Or.inr (Or.inr e)))
  have hn := h1.2.1.2
  have hfree := freeM_all (tn m) (fun e => g4 (Or.inr (Or.inr (Or.inl e))))
  rw [pegS_eq h7]
  have ms : ∀ k, 46 ≤ k → k ≠ 53 → k ≠ 54 → k ≠ 55 → mrg (su (su (su (pegU z nc x c m) 53 nc (-1)) 54 nc 0) 55 1 (z 55 1 + 1)) (pegU (su z 45 0 0) nc x c m) k = pegU z nc x c m k := fun k hk h53 h54 h55 => (mrg_s hk).trans ((su_o h55).trans ((su_o h54).trans (su_o h53)))
  have hnew : ∀ q, hasP (mrg (su (su (su (pegU z nc x c m) 53 nc (-1)) 54 nc 0) 55 1 (z 55 1 + 1)) (pegU (su z 45 0 0) nc x c m)) q nc → c ≤ q ∧ q < c + m := fun q ⟨_, a, b⟩ => by
    have a : upd (z 23) nc c nc ≤ q := a
    have b : q < upd (z 23) nc c nc + upd (z 24) nc m nc := b
    rw [upd_at] at a
    rw [upd_at, upd_at] at b
    exact ⟨a, b⟩
  have hold : ∀ q j, j < nc → hasP (mrg (su (su (su (pegU z nc x c m) 53 nc (-1)) 54 nc 0) 55 1 (z 55 1 + 1)) (pegU (su z 45 0 0) nc x c m)) q j → hasP z q j := fun q j hj ⟨a0, a, b⟩ => by
    have a0 : ¬ upd (z 25) nc 1 j = 0 := a0
    have a : upd (z 23) nc c j ≤ q := a
    have b : q < upd (z 23) nc c j + upd (z 24) nc m j := b
    rw [upd_ne (by omega)] at a a0
    rw [upd_ne (by omega), upd_ne (by omega)] at b
    exact ⟨a0, a, b⟩
  have hno : ∀ q j, j < nc → c ≤ q ∧ q < c + m → ¬ hasP z q j := fun q j hj hq hp => by
    have hq0 : ¬ q < 0 := Int32.not_lt.mpr (Int32.le_trans g2.1 hq.1)
    obtain ⟨n, hnn, rfl⟩ := nI_of hq0
    have a := hq.1
    have b := hq.2
    rw [ec, nI_leI (by omega) hnn] at a
    rw [ec, em, nI_add, nI_ltI hnn (by omega)] at b
    have h9 := hfree (n - tn c) (by omega)
    rw [show tn c + (n - tn c) = n by omega, ← hd_eq h4] at h9
    exact has_C nc (by omega) hj hp h9
  refine ⟨⟨Sim.left (Sim.left (Sim.left ((((((((((Sim.rfl'.right (k := 45) (i := 0) (v := 0) rfl)).put _ _ _).put _ _ _).put _ _ _).put _ _ _).put _ _ _).put _ _ _).put _ _ _).put _ _ _) rfl) rfl) rfl, nf, ns, dd, ⟨?_, ?_, ?_, ⟨?_, ?_⟩, ?_, ?_, ?_, ?_, ?_⟩⟩, rfl⟩
  · exact ⟨h1.1, ⟨rfl, by omega⟩, h1.2.2.1, h1.2.2.2.1, ⟨h1.2.2.2.2.1.1, by have := h1.2.2.2.2.1.2; omega⟩, h1.2.2.2.2.2.1, h1.2.2.2.2.2.2⟩
  · refine ⟨h2.1, h2.2.1, fun i hi => ?_⟩
    show upd (z 25) nc 1 i = 0 ∨ upd (z 25) nc 1 i = 1
    by_cases e : i = nc
    · rw [e, upd_at]; exact Or.inr rfl
    · rw [upd_ne e]; exact h2.2.2 i (by omega)
  · exact h3.cg rfl rfl (ms 50 (by decide) (by decide) (by decide) (by decide)) (ms 51 (by decide) (by decide) (by decide) (by decide))
  · intro i hi
    show 1 ≤ tn (upd (z 24) nc m i) ∧ tn (upd (z 24) nc m i) ≤ 10 ∧ upd (z 24) nc m i = nI (tn (upd (z 24) nc m i)) ∧ upd (z 23) nc c i = nI (tn (upd (z 23) nc c i)) ∧ tn (upd (z 23) nc c i) + tn (upd (z 24) nc m i) ≤ 40
    by_cases e : i = nc
    · rw [e, upd_at, upd_at]; exact ⟨hm0, by omega, em, ec, hcm⟩
    · rw [upd_ne e, upd_ne e]; exact h4.1 i (by omega)
  · intro q i j hi hj a b
    by_cases ei : i = nc
    · by_cases ej : j = nc
      · omega
      · rw [ei] at a
        exact absurd (hold q j (by omega) b) (hno q j (by omega) (hnew q a))
    · by_cases ej : j = nc
      · rw [ej] at b
        exact absurd (hold q i (by omega) a) (hno q i (by omega) (hnew q b))
      · exact h4.2 q i j (by omega) (by omega) (hold q i (by omega) a) (hold q j (by omega) b)
  · refine ⟨fun i hi => ?_, h5.2⟩
    show vp_in (upd (z 22) nc x i) nm
    by_cases e : i = nc
    · rw [e, upd_at]; exact hv
    · rw [upd_ne e]; exact h5.1 i (by omega)
  · intro i hi
    have e53 : ∀ j, mrg (su (su (su (pegU z nc x c m) 53 nc (-1)) 54 nc 0) 55 1 (z 55 1 + 1)) (pegU (su z 45 0 0) nc x c m) 53 j = upd (z 53) nc (-1) j := fun j => by
      rw [mrg_s (by decide), su_o (by decide), su_o (by decide), su_s]; rfl
    rw [e53]
    show (upd (z 32) nc (-1) i = -1 ∧ _) ∨ (_ ∧ (∃ d, upd (z 32) nc (-1) i = nI d ∧ d ≤ dd) ∧ _ = z 29 i ∧ vp_in (z 29 i) nm ∧ z 30 i = upd (z 22) nc x i)
    by_cases e : i = nc
    · rw [e, upd_at, upd_at]; exact Or.inl ⟨rfl, rfl⟩
    · rw [upd_ne e, upd_ne e, upd_ne e]; exact h6 i (by omega)
  · exact ⟨h7.1, h7.2.1, fun i hi => h7.2.2 i (by omega)⟩
  · exact h8.cg rfl rfl rfl (ms 52 (by decide) (by decide) (by decide) (by decide))
  · intro i hi
    have e54 : ∀ j, mrg (su (su (su (pegU z nc x c m) 53 nc (-1)) 54 nc 0) 55 1 (z 55 1 + 1)) (pegU (su z 45 0 0) nc x c m) 54 j = upd (z 54) nc 0 j := fun j => by
      rw [mrg_s (by decide), su_o (by decide), su_s, su_o (by decide)]; rfl
    rw [e54]
    intro h32
    have h32 : ¬ upd (z 32) nc (-1) i = -1 := h32
    by_cases e : i = nc
    · rw [e, upd_at] at h32; exact absurd rfl h32
    · rw [upd_ne e] at h32
      rw [upd_ne e, sltW_cg (z := z) (z' := mrg (su (su (su (pegU z nc x c m) 53 nc (-1)) 54 nc 0) 55 1 (z 55 1 + 1)) (pegU (su z 45 0 0) nc x c m)) (c := i) ⟨rfl, rfl, rfl, rfl, upd_ne e, upd_ne e, upd_ne e⟩]
      exact h9 i (by omega) h32
