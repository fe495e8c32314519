/-- what lies in the ground, and its clay -/
def Gr (z : SS) (c : Nat) : Prop := ∀ i, i < 40 → (∃ g, z 9 i = nI g ∧ g ≤ 100000 + 12000 * c) ∧ ∃ q, z 10 i = nI q ∧ q ≤ 9
theorem Gr.cg {z z' : SS} {c : Nat} (h : Gr z c) (e9 : z' 9 = z 9) (e10 : z' 10 = z 10) : Gr z' (c + 1) := fun i hi => by
  rw [e9, e10]
  obtain ⟨⟨g, a, b⟩, d⟩ := h i hi
  exact ⟨⟨g, a, by omega⟩, d⟩
def Jx (s t : SS) (nm nc nr c : Nat) : Prop := Nx s t nm nc nr c ∧ Gr (mrg s t) c
theorem j_err {z : SS} {nm nc nr nf ns dd cc : Nat} (h : Iv z nm nc nr nf ns dd cc) (hg : Gr z cc) (e : Int32) : Jx z (su z 45 0 e) nm nc nr (cc + 1) := ⟨k_err h e, hg.cg rfl rfl⟩
theorem j_ground {z : SS} {nm nc nr nf ns dd cc : Nat} {c m g : Int32} (h : Iv z nm nc nr nf ns dd cc) (hg : Gr z cc) (he : groundE z c m g = 0) : Jx (groundU z c m g) (groundU (su z 45 0 0) c m g) nm nc nr (cc + 1) := by
  obtain ⟨g1, ⟨g2, g3⟩, -⟩ := e3 he
  obtain ⟨c40, ec⟩ := ce_lt g1
  have hm := vp_rng (n := 100000) (N := 100001) rfl (by decide) g2
  have hc := vp_rng (n := 9) (N := 10) rfl (by decide) g3
  refine ⟨(k_ground h).1, fun i hi => ?_⟩
  show (∃ q, upd (z 9) (tn c) m i = nI q ∧ q ≤ 100000 + 12000 * (cc + 1)) ∧ ∃ q, upd (z 10) (tn c) g i = nI q ∧ q ≤ 9
  obtain ⟨⟨q, a, b⟩, d⟩ := hg i hi
  by_cases e : i = tn c
  · rw [e, upd_at, upd_at]
    exact ⟨⟨tn m, in_nI hm (by decide), by have := in_lt hm; omega⟩, ⟨tn g, in_nI hc (by decide), by have := in_lt hc; omega⟩⟩
  · rw [upd_ne e, upd_ne e]
    exact ⟨⟨q, a, by omega⟩, d⟩
theorem j_salt {z : SS} {nm nc nr nf ns dd cc : Nat} {x c m : Int32} (h : Iv z nm nc nr nf ns dd cc) (hg : Gr z cc) (he : saltE z ns x c m = 0) : Jx (saltUC z nc x c m) (saltU (su z 45 0 0) ns x c m) nm nc nr (cc + 1) := by
  obtain ⟨⟨-, g1⟩, g2, -⟩ := e3 he
  obtain ⟨c40, ec⟩ := ce_lt g1
  have hm := vp_rng1 (n := 10000) (N := 10001) rfl (by decide) g2
  refine ⟨(k_salt h he).1, fun i hi => ?_⟩
  show (∃ q, upd (z 9) (tn c) (z 9 (tn c) + m) i = nI q ∧ q ≤ 100000 + 12000 * (cc + 1)) ∧ ∃ q, z 10 i = nI q ∧ q ≤ 9
  obtain ⟨⟨q, a, b⟩, d⟩ := hg i hi
  by_cases e : i = tn c
  · subst e
    rw [upd_at]
    refine ⟨⟨q + tn m, ?_, by have := in_lt hm; omega⟩, d⟩
    rw [a, in_nI hm (by decide), nI_add, show tn (nI (tn m)) = tn m from nI_clamp (by have := in_lt hm; omega)]
  · rw [upd_ne e]
    exact ⟨⟨q, a, by omega⟩, d⟩
theorem ms_2000 (k : Nat) : msN k ≤ 2000 := by
  unfold msN
  split <;> omega
theorem j_work {z : SS} {nm nc nr nf ns dd cc : Nat} {x c m : Int32} (h : Iv z nm nc nr nf ns dd cc) (hg : Gr z cc) (h5 : cc < 600) (he : workE z nm nc nr x c m = 0) : Jx (workUC z nm nc x c m) (workU (su z 45 0 0) nm nc nr x c m) nm nc nr (cc + 1) := by
  obtain ⟨⟨-, g1⟩, g2, -⟩ := e3 he
  obtain ⟨c40, ec⟩ := ce_lt g1
  have hm := vp_rng (n := 3) (N := 4) rfl (by decide) g2
  have em := in_nI hm (by decide)
  have hk := in_lt hm
  have e9 : mrg (workUC z nm nc x c m) (workU (su z 45 0 0) nm nc nr x c m) 9 = digF (su z 45 0 0) c m 9 := by
    rw [mrg_t (by decide)]
    unfold workU
    rw [wk_o (by decide), su_o (by decide), su_o (by decide), shaF_o (by decide)]
  have e10 : mrg (workUC z nm nc x c m) (workU (su z 45 0 0) nm nc nr x c m) 10 = z 10 := (mrg_t (by decide)).trans (workU_o (by decide) (by decide) (by decide) (by decide) (by decide) (by decide))
  obtain ⟨⟨gc, ac, bc⟩, ⟨qc, a2, b2⟩⟩ := hg (tn c) c40
  have h2k := ms_2000 (tn m)
  have et : takF m (z 9 (tn c)) = nI (min gc (msN (tn m))) := by
    have := tak_nat (k := tn m) (g := gc) hk (by omega)
    rw [← em, ← ac] at this
    exact this
  have er : recF m (z 9 (tn c)) (z 10 (tn c)) = nI (rcN (tn m) gc qc) := by
    have := rec_nat (k := tn m) (g := gc) (c := qc) hk (by omega) b2
    rw [← em, ← ac, ← a2] at this
    exact this
  have hrc : rcN (tn m) gc qc ≤ min gc (msN (tn m)) := rcN_le
  refine ⟨(k_work h he).1, fun i hi => ?_⟩
  rw [e9, e10]
  obtain ⟨⟨q, a, b⟩, d⟩ := hg i hi
  refine ⟨?_, d⟩
  have first : ∃ q, upd (z 9) (tn c) (z 9 (tn c) - takF m (z 9 (tn c))) i = nI q ∧ q ≤ 100000 + 12000 * cc := by
    by_cases e : i = tn c
    · subst e
      rw [upd_at, et, ac, pk_sub (by omega)]
      exact ⟨_, rfl, by omega⟩
    · rw [upd_ne e]; exact ⟨q, a, b⟩
  unfold digF
  by_cases c9 : c = 39
  · rw [if_pos c9, su_o (by decide)]
    obtain ⟨q', a', b'⟩ := first
    exact ⟨q', a', by omega⟩
  · rw [if_neg c9]
    show ∃ q, upd (upd (z 9) (tn c) (z 9 (tn c) - takF m (z 9 (tn c)))) (tn c + 1) (upd (z 9) (tn c) (z 9 (tn c) - takF m (z 9 (tn c))) (tn c + 1) + (takF m (z 9 (tn c)) - recF m (z 9 (tn c)) (z 10 (tn c)))) i = nI q ∧ q ≤ 100000 + 12000 * (cc + 1)
    by_cases e : i = tn c + 1
    · subst e
      rw [upd_at, upd_ne (by omega), et, er, pk_sub hrc, a, nI_add]
      exact ⟨_, rfl, by omega⟩
    · rw [upd_ne e]
      obtain ⟨q', a', b'⟩ := first
      exact ⟨q', a', by omega⟩

theorem j_flow {z : SS} {nm nc nr nf ns dd cc : Nat} {x : Int32} (h : Iv z nm nc nr nf ns dd cc) (hg : Gr z cc) : Jx (flowU z x) (flowU (su z 45 0 0) x) nm nc nr (cc + 1) := ⟨(k_flow h).1, hg.cg rfl rfl⟩

theorem j_rate {z : SS} {nm nc nr nf ns dd cc : Nat} {x : Int32} (h : Iv z nm nc nr nf ns dd cc) (hg : Gr z cc) (he : rateE z x = 0) : Jx (rateU z x) (rateU (su z 45 0 0) x) nm nc nr (cc + 1) := ⟨(k_rate h he).1, hg.cg rfl rfl⟩

theorem j_rumour {z : SS} {nm nc nr nf ns dd cc : Nat} {c b : Int32} (h : Iv z nm nc nr nf ns dd cc) (hg : Gr z cc) (he : rumourE z c b = 0) : Jx (rumourU z c b) (rumourU (su z 45 0 0) c b) nm nc nr (cc + 1) := ⟨(k_rumour h he).1, hg.cg rfl rfl⟩

theorem j_brass {z : SS} {nm nc nr nf ns dd cc : Nat} {x m : Int32} (h : Iv z nm nc nr nf ns dd cc) (hg : Gr z cc) (he : brassE z x m = 0) : Jx (brassU z x m) (brassU (su z 45 0 0) x m) nm nc nr (cc + 1) := ⟨(k_brass h he).1, hg.cg rfl rfl⟩

theorem j_buy {z : SS} {nm nc nr nf ns dd cc : Nat} {x m : Int32} (h : Iv z nm nc nr nf ns dd cc) (hg : Gr z cc) : Jx (buyU z x m) (buyU (su z 45 0 0) x m) nm nc nr (cc + 1) := ⟨(k_buy h).1, hg.cg rfl rfl⟩

theorem j_end {z : SS} {nm nc nr nf ns dd cc : Nat} {x y : Int32} (h : Iv z nm nc nr nf ns dd cc) (hg : Gr z cc) : Jx (endU z x y) (endU (su z 45 0 0) x y) nm nc nr (cc + 1) := ⟨(k_end h).1, hg.cg rfl rfl⟩

theorem j_meet {z : SS} {nm nc nr nf ns dd cc : Nat} {m d y n_ : Int32} (h : Iv z nm nc nr nf ns dd cc) (hg : Gr z cc) : Jx (meetU z nm m d y n_) (meetU (su z 45 0 0) nm m d y n_) nm nc nr (cc + 1) := ⟨(k_meet h).1, hg.cg ((mrg_t (by decide)).trans (by unfold meetU; split <;> rfl)) ((mrg_t (by decide)).trans (by unfold meetU; split <;> rfl))⟩

theorem j_sell {z : SS} {nm nc nr nf ns dd cc : Nat} {x d : Int32} (h : Iv z nm nc nr nf ns dd cc) (hg : Gr z cc) (he : sellE z x d = 0) : Jx (sellUC z x d) (sellU (su z 45 0 0) x d) nm nc nr (cc + 1) := ⟨(k_sell h he).1, hg.cg ((mrg_t (by decide)).trans (by unfold sellU; split <;> rfl)) ((mrg_t (by decide)).trans (by unfold sellU; split <;> rfl))⟩

theorem j_back {z : SS} {nm nc nr nf ns dd cc : Nat} {x y p m : Int32} (h : Iv z nm nc nr nf ns dd cc) (hg : Gr z cc) (he : backE z nm x y p m = 0) : Jx (backUC z x y p m) (backU (su z 45 0 0) nm x y p m) nm nc nr (cc + 1) := ⟨(k_back h he).1, hg.cg rfl rfl⟩

theorem j_freight {z : SS} {nm nc nr nf ns dd cc : Nat} {m d : Int32} (h : Iv z nm nc nr nf ns dd cc) (hg : Gr z cc) (he : freightE z nf m d = 0) : Jx (sndF z m d) (freightU (su z 45 0 0) nf m d) nm nc nr (cc + 1) := ⟨(k_freight h he).1, hg.cg rfl rfl⟩

theorem j_pass {z : SS} {nm nc nr nf ns dd cc : Nat} {x : Int32} (h : Iv z nm nc nr nf ns dd cc) (hg : Gr z cc) (he : passE z nm nc nf x = 0) : Jx (psC z nm nc (tn x)) (passU (su z 45 0 0) nm nc nf x) nm nc nr (cc + 1) := ⟨(k_pass h he).1, hg.cg ((mrg_t (by decide)).trans (psS_o (by decide) (by decide) (by decide) (by decide) (by decide) (by decide) (by decide) (by decide) (by decide) _)) ((mrg_t (by decide)).trans (psS_o (by decide) (by decide) (by decide) (by decide) (by decide) (by decide) (by decide) (by decide) (by decide) _))⟩

theorem j_right {z : SS} {nm nc nr nf ns dd cc : Nat} {x i_ : Int32} (h : Iv z nm nc nr nf ns dd cc) (hg : Gr z cc) (he : rightE z nr x i_ = 0) : Jx (su (rightU z nr x i_) 55 2 (z 55 2 + 1)) (rightU (su z 45 0 0) nr x i_) nm nc (nr + 1) (cc + 1) := ⟨(k_right h he).1, hg.cg rfl rfl⟩

theorem j_miner {z : SS} {nm nc nr nf ns dd cc : Nat} {f c : Int32} (h : Iv z nm nc nr nf ns dd cc) (hg : Gr z cc) (he : minerE z nm f c = 0) : Jx (minerS z nm f c) (minerU (su z 45 0 0) nm f c) (nm + 1) nc nr (cc + 1) := ⟨(k_miner h he).1, hg.cg rfl rfl⟩

theorem j_peg {z : SS} {nm nc nr nf ns dd cc : Nat} {x c m : Int32} (h : Iv z nm nc nr nf ns dd cc) (hg : Gr z cc) (he : pegE z nc x c m = 0) : Jx (pegS z nc x c m) (pegU (su z 45 0 0) nc x c m) nm (nc + 1) nr (cc + 1) := ⟨(k_peg h he).1, hg.cg rfl rfl⟩

theorem j_trade {z : SS} {nm nc nr nf ns dd cc : Nat} {c b m : Int32} (h : Iv z nm nc nr nf ns dd cc) (hg : Gr z cc) (he : tradeE z c b m = 0) : Jx (tradeUC z c b m) (tradeU (su z 45 0 0) c b m) nm nc nr (cc + 1) := ⟨(k_trade h he).1, hg.cg ((mrg_t (by decide)).trans (trT_o (by decide) (by decide) (by decide) (by decide) (by decide) (by decide) (by decide))) ((mrg_t (by decide)).trans (trT_o (by decide) (by decide) (by decide) (by decide) (by decide) (by decide) (by decide)))⟩

theorem j_suit {z : SS} {nm nc nr nf ns dd cc : Nat} {c : Int32} (h : Iv z nm nc nr nf ns dd cc) (hg : Gr z cc) (he : suitE z ns c = 0) : Jx (suitUC z c) (suitU (su z 45 0 0) ns c) nm nc nr (cc + 1) := ⟨(k_suit h he).1, hg.cg ((mrg_t (by decide)).trans (by unfold suitU; split <;> rfl)) ((mrg_t (by decide)).trans (by unfold suitU; split <;> rfl))⟩

theorem ifP {P P' : Prop} [Decidable P] [Decidable P'] {y : Int32} (h : P ↔ P') : (if ¬ P then (1 : Int32) else y) = (if ¬ P' then 1 else y) := by
  by_cases q : P
  · rw [if_neg (not_not_intro q), if_neg (not_not_intro (h.mp q))]
  · rw [if_pos q, if_pos (fun e => q (h.mpr e))]
theorem ap_1 {z : SS} {c m : Int32} : planEC z c m = apE z c m 1 := ifP ⟨fun g => ⟨g, by decide⟩, fun g => g.1⟩
theorem ap_p {z : SS} {c m p : Int32} : planCellEC z c m p = apE z c m (prF p) := by
  have hp : ¬ prF p = 0 ↔ 0 ≤ p := by
    unfold prF
    by_cases q : p < 0
    · rw [if_pos q]; exact ⟨fun e => absurd rfl e, fun e => absurd e (Int32.not_le.mpr q)⟩
    · rw [if_neg q]; exact ⟨fun _ => Int32.not_lt.mp q, fun _ => by decide⟩
  exact ifP ⟨fun g => ⟨g.1, hp.mpr g.2⟩, fun g => ⟨g.1, hp.mp g.2⟩⟩
theorem bo_o {z : SS} {f M : Nat} {m : Int32} {k : Nat} (h43 : k ≠ 43) (h44 : k ≠ 44) : plnL z f M m k = z k := by
  unfold plnL
  rw [lyW_o h43, boW_o h43 h44]
theorem pw_o {z : SS} {f M : Nat} {m : Int32} {k : Nat} (h43 : k ≠ 43) (h44 : k ≠ 44) : (plnW z f M m).1 k = z k := by
  unfold plnW
  rw [dgW_o h44, dgI_o h44, bo_o h43 h44]
theorem j_pl {z : SS} {nm nc nr nf ns dd cc : Nat} (h : Iv z nm nc nr nf ns dd cc) (hg : Gr z cc) {t : SS} (ht : ∀ k, k ≠ 43 → k ≠ 44 → k ≠ 45 → t k = z k) : Jx z t nm nc nr (cc + 1) := by
  have e : ∀ k, k ≠ 43 → k ≠ 44 → k ≠ 45 → mrg z t k = z k := fun k a b c => by
    by_cases q : 46 ≤ k
    · exact mrg_s q
    · exact (mrg_t (by omega)).trans (ht k a b c)
  refine ⟨⟨fun k hk => (ht k (fun e => by subst e; cases hk) (fun e => by subst e; cases hk) (fun e => by subst e; cases hk)).symm, nf, ns, dd, h.fr (cc + 1) (by omega) (fun i _ => congrFun (e 13 (by decide) (by decide) (by decide)) i) (fun i _ => congrFun (e 14 (by decide) (by decide) (by decide)) i) (fun i _ => congrFun (e 18 (by decide) (by decide) (by decide)) i) (e 0 (by decide) (by decide) (by decide)) (e 4 (by decide) (by decide) (by decide)) (e 11 (by decide) (by decide) (by decide)) (e 12 (by decide) (by decide) (by decide)) (e 17 (by decide) (by decide) (by decide)) (e 20 (by decide) (by decide) (by decide)) (e 21 (by decide) (by decide) (by decide)) (e 22 (by decide) (by decide) (by decide)) (e 23 (by decide) (by decide) (by decide)) (e 24 (by decide) (by decide) (by decide)) (e 25 (by decide) (by decide) (by decide)) (e 28 (by decide) (by decide) (by decide)) (e 29 (by decide) (by decide) (by decide)) (e 30 (by decide) (by decide) (by decide)) (e 31 (by decide) (by decide) (by decide)) (e 32 (by decide) (by decide) (by decide)) (e 33 (by decide) (by decide) (by decide)) (e 34 (by decide) (by decide) (by decide)) (e 36 (by decide) (by decide) (by decide)) (e 37 (by decide) (by decide) (by decide)) (e 38 (by decide) (by decide) (by decide)) (e 39 (by decide) (by decide) (by decide)) (e 40 (by decide) (by decide) (by decide)) (e 41 (by decide) (by decide) (by decide)) (e 42 (by decide) (by decide) (by decide)) (e 50 (by decide) (by decide) (by decide)) (e 51 (by decide) (by decide) (by decide)) (e 52 (by decide) (by decide) (by decide)) (e 53 (by decide) (by decide) (by decide)) (e 54 (by decide) (by decide) (by decide))⟩, hg.cg (e 9 (by decide) (by decide) (by decide)) (e 10 (by decide) (by decide) (by decide))⟩
theorem cl_gr {z : SS} {nm nc nr nf ns dd cc : Nat} {c : Int32} (h : Iv z nm nc nr nf ns dd cc) (hg : Gr z cc) (h5 : cc < 600) (hc : tn c < nc) (h24 : ¬ 5 < z 24 (tn c)) : tn (z 24 (tn c)) < 6 ∧ GrOK z (tn (z 23 (tn c))) (tn (z 24 (tn c))) 10000000 (fun j => tn (z 9 (tn (z 23 (tn c)) + j))) (fun j => tn (z 10 (tn (z 23 (tn c)) + j))) ∧ tn (z 23 (tn c)) + tn (z 24 (tn c)) ≤ 40 := by
  obtain ⟨s1, s2, s3, s4, s5⟩ := h.2.2.2.1.1 (tn c) hc
  refine ⟨?_, ⟨fun j hj => ?_, fun j hj => ?_⟩, s5⟩
  · rw [s3] at h24
    have : ¬ 5 < tn (z 24 (tn c)) := fun q => h24 ((nI_ltI (a := 5) (by decide) (by omega)).mpr q)
    omega
  · obtain ⟨⟨g, a, b⟩, -⟩ := hg (tn (z 23 (tn c)) + j) (by omega)
    have e : tn (nI g) = g := nI_clamp (by omega)
    show z 9 (tn (z 23 (tn c)) + j) = nI (tn (z 9 (tn (z 23 (tn c)) + j))) ∧ tn (z 9 (tn (z 23 (tn c)) + j)) ≤ 10000000
    rw [a, e]; exact ⟨rfl, by omega⟩
  · obtain ⟨-, ⟨g, a, b⟩⟩ := hg (tn (z 23 (tn c)) + j) (by omega)
    have e : tn (nI g) = g := nI_clamp (by omega)
    show z 10 (tn (z 23 (tn c)) + j) = nI (tn (z 10 (tn (z 23 (tn c)) + j))) ∧ tn (z 10 (tn (z 23 (tn c)) + j)) ≤ 9
    rw [a, e]; exact ⟨rfl, b⟩
theorem j_plan {z : SS} {nm nc nr nf ns dd cc : Nat} {c m : Int32} (h : Iv z nm nc nr nf ns dd cc) (hg : Gr z cc) (h5 : cc < 600) (he : apE z c m 1 = 0) : ydS z (tn (z 23 (tn c))) (tn m) (tn (z 24 (tn c))) = (plnW (su z 45 0 0) (tn (z 23 (tn c))) (tn (z 24 (tn c))) m).2 ∧ Jx z (plnW (su z 45 0 0) (tn (z 23 (tn c))) (tn (z 24 (tn c))) m).1 nm nc nr (cc + 1) ∧ (plnW (su z 45 0 0) (tn (z 23 (tn c))) (tn (z 24 (tn c))) m).1 45 0 = 0 := by
  obtain ⟨⟨g1, -⟩, g2, g3⟩ := apE_0 he
  have hm := vp_rng (n := 3) (N := 4) rfl (by decide) g2
  have em := in_nI hm (by decide)
  have hk := in_lt hm
  obtain ⟨q1, q2, q3⟩ := cl_gr h hg h5 (cl_lt g1 h.1.2.1.1 h.1.2.1.2) g3
  refine ⟨?_, j_pl h hg (fun k a b c' => by rw [pw_o a b, su_o c']), by rw [pw_o (by decide) (by decide)]; rfl⟩
  have a1 := (yd_nat hk q3 (Nat.le_refl _) q2 _ (Nat.le_refl _)).2
  have a2 := pl_sum (z := su z 45 0 0) hk q1 (Nat.le_refl _) (show GrOK (su z 45 0 0) _ _ _ _ _ from q2)
  rw [← em] at a2
  rw [a1, a2]
  rfl
theorem j_planCell {z : SS} {nm nc nr nf ns dd cc : Nat} {c m p : Int32} (h : Iv z nm nc nr nf ns dd cc) (hg : Gr z cc) (h5 : cc < 600) (he : apE z c m (prF p) = 0) : planCellRC z c p = (if p < z 24 (tn c) then z 23 (tn c) + plnL (su z 45 0 0) (tn (z 23 (tn c))) (tn (z 24 (tn c))) m 43 (tn p) else -1) ∧ Jx z (plnL (su z 45 0 0) (tn (z 23 (tn c))) (tn (z 24 (tn c))) m) nm nc nr (cc + 1) ∧ plnL (su z 45 0 0) (tn (z 23 (tn c))) (tn (z 24 (tn c))) m 45 0 = 0 := by
  obtain ⟨⟨g1, g0⟩, g2, g3⟩ := apE_0 he
  have hm := vp_rng (n := 3) (N := 4) rfl (by decide) g2
  have em := in_nI hm (by decide)
  have hk := in_lt hm
  have hc := cl_lt g1 h.1.2.1.1 h.1.2.1.2
  obtain ⟨q1, q2, q3⟩ := cl_gr h hg h5 hc g3
  refine ⟨?_, j_pl h hg (fun k a b c' => by rw [bo_o a b, su_o c']), by rw [bo_o (by decide) (by decide)]; rfl⟩
  unfold planCellRC
  by_cases hp : p < z 24 (tn c)
  · rw [if_pos hp, if_pos hp]
    have h0 : ¬ p < 0 := fun q => g0 (by unfold prF; rw [if_pos q])
    obtain ⟨n, hn, rfl⟩ := nI_of h0
    obtain ⟨s1, s2, s3, s4, s5⟩ := h.2.2.2.1.1 (tn c) hc
    rw [s3, nI_ltI hn (by omega)] at hp
    have a2 := pl_cell (z := su z 45 0 0) (p := n) hk q1 (Nat.le_refl _) (show GrOK (su z 45 0 0) _ _ _ _ _ from q2) hp
    rw [← em] at a2
    rw [show tn (nI n) = n from nI_clamp hn, a2]
  · rw [if_neg hp, if_neg hp]
theorem j_camp {z : SS} {nm nc nr nf ns dd cc : Nat} {w_ : Int32} (h : Iv z nm nc nr nf ns dd cc) : campRC z nm w_ = campR z nm w_ := by
  unfold campRC campR
  rw [fr_nf h.2.2.1, h.1.2.2.2.1.1]
theorem j_ofM {z : SS} {nm nc nr nf ns dd cc : Nat} {x w_ : Int32} (h : Iv z nm nc nr nf ns dd cc) : ofMinerRC z nm nr x w_ = ofMinerR z nm nr x w_ := by
  unfold ofMinerRC ofMinerR
  rw [pct_k h.2.2.2.2.2.2.1 h.1.1.2]
