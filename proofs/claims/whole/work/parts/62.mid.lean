/-! the law: what lies between its steps -/
/-- the world, with the class's state s and the reference's t; x, m, o: where the class's object lies, the reference's, the law's out array -/
def Mid (G : GG) (x m o : Nat) (s t : SS) (nm nc nr : Nat) (w : va_W) : Prop := ∃ (a : AD) (L : List (Nat × Nat)) (s0 : SS), w = wl a (E G.2.2.1 a s t) L ∧ Live L s0 ∧ (a 2 0 = x ∧ a 0 0 = m ∧ a 14 0 = o) ∧ LsT G.2.2.1 a s s0 0 nm ∧ LsT G.2.2.1 a s s0 1 nc ∧ LsT G.2.2.1 a s s0 2 nr
def WI (G : GG) (x m o c : Nat) (w : va_W) : Prop := ∃ (z : SS) (nm nc nr nf ns dd : Nat), Mid G x m o z z nm nc nr w ∧ Iv z nm nc nr nf ns dd c ∧ Gr z c
theorem mA_lt {i : Nat} (h : mA i = true) : i < 46 := by
  by_cases c : i < 46
  · exact c
  · have h1 : Nat.ble 45 i = true := Nat.ble_eq_true_of_le (by omega)
    unfold mA at h
    rw [h1] at h
    simp at h
theorem Mid.mrg {G : GG} {x m o nm nc nr : Nat} {s t : SS} {w : va_W} (h : Mid G x m o s t nm nc nr w) (hS : Sim s t) : Mid G x m o (mrg s t) (mrg s t) nm nc nr w := by
  obtain ⟨a, L, s0, rfl, hL, ha, h0, h1, h2⟩ := h
  refine ⟨a, L, s0, wl_congr (fun κ i hm => ⟨rfl, E_mrg hS (ofL hL hm).lt (fun e => ?_)⟩), hL, ha, h0.frame rfl rfl rfl ?_ rfl, h1.frame rfl rfl rfl ?_ rfl, h2.frame rfl rfl rfl ?_ rfl⟩
  · subst e
    exact mA_lt (ofL hL hm)
  · exact congrFun ((mrg_t (by decide)).trans (hS 12 rfl).symm) 0
  · exact congrFun ((mrg_t (by decide)).trans (hS 21 rfl).symm) 0
  · exact congrFun ((mrg_t (by decide)).trans (hS 33 rfl).symm) 0
theorem wi_of {G : GG} {x m o nm nc nr c : Nat} {s t : SS} {w : va_W} (h : Mid G x m o s t nm nc nr w) (hJ : Jx s t nm nc nr c) : WI G x m o c w := by
  obtain ⟨⟨hS, nf, ns, dd, hI⟩, hG⟩ := hJ
  exact ⟨_, nm, nc, nr, nf, ns, dd, h.mrg hS, hI, hG⟩
theorem Jx.out {s t : SS} {nm nc nr c : Nat} (h : Jx s t nm nc nr c) (R : Int32) : Jx (su s 60 0 R) t nm nc nr c := by
  obtain ⟨⟨hS, nf, ns, dd, hI⟩, hG⟩ := h
  have e : ∀ k, k ≠ 60 → mrg (su s 60 0 R) t k = mrg s t k := fun k hk => by
    unfold mrg
    by_cases q : 46 ≤ k
    · rw [if_pos q, if_pos q, su_o hk]
    · rw [if_neg q, if_neg q]
  refine ⟨⟨hS.left rfl, nf, ns, dd, hI.fr c (Nat.le_refl _) (fun i _ => by rw [e 13 (by decide)]) (fun i _ => by rw [e 14 (by decide)]) (fun i _ => by rw [e 18 (by decide)]) (e 0 (by decide)) (e 4 (by decide)) (e 11 (by decide)) (e 12 (by decide)) (e 17 (by decide)) (e 20 (by decide)) (e 21 (by decide)) (e 22 (by decide)) (e 23 (by decide)) (e 24 (by decide)) (e 25 (by decide)) (e 28 (by decide)) (e 29 (by decide)) (e 30 (by decide)) (e 31 (by decide)) (e 32 (by decide)) (e 33 (by decide)) (e 34 (by decide)) (e 36 (by decide)) (e 37 (by decide)) (e 38 (by decide)) (e 39 (by decide)) (e 40 (by decide)) (e 41 (by decide)) (e 42 (by decide)) (e 50 (by decide)) (e 51 (by decide)) (e 52 (by decide)) (e 53 (by decide)) (e 54 (by decide))⟩, fun i hi => by rw [e 9 (by decide), e 10 (by decide)]; exact hG i hi⟩
theorem put_out {g : GG} {a : AD} {s t s0 : SS} {L : List (Nat × Nat)} (hL : Live L s0) (R : Int32) {zz : Int64} (hz : zz = R.toInt64) : OutS g (a 14 0) zz (wl a (E g.2.2.1 a s t) L) (wl a (E g.2.2.1 a (su s 60 0 R) t) L) := by
  subst hz
  obtain ⟨q0, h1, h2⟩ := put_s (g := g.2.2.1) (a := a) (s := s) (t := t) hL (K := 14) (i0 := 0) 60 0 R rfl rfl rfl (by decide) (fun i' h1 h2 => absurd h1 h2)
  refine ⟨q0, _, h1, ?_⟩
  rw [← h2]
  refine congrArg (fun f => (wl a (E g.2.2.1 a s t) L).set q0 (a 14 0, Sum.inl (g.2.2.1 3, 1, Sum.inr (Sum.inl f)))) (funext fun j => ?_)
  unfold vp_updL
  rw [su_a]
  by_cases q : j = 0
  · rw [if_pos q, if_pos q]
  · rw [if_neg q, if_neg q]
    exact if_neg q
theorem lv0 {g : Nat → Nat} {a : AD} {s s0 : SS} {n : Nat} (h : LsT g a s s0 0 n) : ∀ i, i < n → i < tn (s0 12 0) := fun i hi => by
  have h9 : tn (s0 12 0) = n := h.2.2.2
  omega
theorem lv1 {g : Nat → Nat} {a : AD} {s s0 : SS} {n : Nat} (h : LsT g a s s0 1 n) : ∀ i, i < n → i < tn (s0 21 0) := fun i hi => by
  have h9 : tn (s0 21 0) = n := h.2.2.2
  omega
theorem lv2 {g : Nat → Nat} {a : AD} {s s0 : SS} {n : Nat} (h : LsT g a s s0 2 n) : ∀ i, i < n → i < tn (s0 33 0) := fun i hi => by
  have h9 : tn (s0 33 0) = n := h.2.2.2
  omega
theorem hcf_of {z : SS} {nc : Nat} (h : SzOK z nc) : ∀ i, i < nc → vp_in (z 23 i) 40 ∧ vp_in (z 24 i) 11 ∧ tn (z 23 i) + tn (z 24 i) ≤ 40 := fun i hi => by
  obtain ⟨s1, s2, s3, s4, s5⟩ := h i hi
  exact ⟨pk_in (tn (z 23 i)) 40 (by omega) s4, pk_in (tn (z 24 i)) 11 (by omega) s3, s5⟩
theorem hsl_of {z : SS} {nm nc dd : Nat} (h : V6 z nm nc dd) : ∀ i, i < nc → ¬ z 53 i = -1 → vp_in (z 53 i) nm := fun i hi hn => by
  rcases h i hi with ⟨-, b⟩ | ⟨-, -, b, c, -⟩
  · exact absurd b hn
  · rw [b]; exact c
theorem hsm_of {z : SS} {nm nc nr dd : Nat} (h : V6 z nm nc dd) (h5 : V5 z nm nc nr) (h12 : nm ≤ 12) : ∀ i, i < nc → ¬ z 32 i = -1 → vp_in (z 29 i) 12 ∧ vp_in (z 30 i) 12 := fun i hi hn => by
  rcases h i hi with ⟨a, -⟩ | ⟨-, -, -, c, d⟩
  · exact absurd a hn
  · rw [d]; exact ⟨vp_up c h12, vp_up (h5.1 i hi) h12⟩
theorem pU_45 {e : Int32} {u t : SS} (h : e = 0 → u 45 0 = 0) : pU e u t 45 0 = e := by
  unfold pU
  by_cases q : e = 0
  · rw [if_pos q, q]; exact h q
  · rw [if_neg q, su_a]
theorem pM_0 {e r : Int32} (h : e = 0) : pM e r = r := if_pos h
/-- the script, as the law reads it -/
def Scr (X : XS) (G : GG) (b L : Nat) (xs : Nat → Int32) : Prop := va_X b L xs X.2.2.2.2.1 X.2.2.2.2.1.heap ∧ b < X.2.2.2.2.1.heap.size ∧ ¬ gA G b ∧ L ≤ 2560
section SL
variable {X : XS} {G : GG} {cc : ByteArray} {nL : Nat} {own : String} {ret : Option FieldType} {rm : Room} {nm : String} {tb : List ExceptionTableEntry} {w : va_W} {k n : Nat} {Q : State → Prop} {pc q : Nat} {lv : List (Nat × Value)} {st : List Value}
theorem v_sld (C : Cx X G cc nL own ret rm nm tb) {b L : Nat} {xs : Nat → Int32} (S : Scr X G b L xs) (j : Nat) (hj : j < L) (d : decode cc pc = .ok (.iaload, 1)) (hq : pc + 1 = q)
    (kk : V X G nL w k n Q q lv (.int (xs j) :: st)) : V X G nL w k n Q pc lv (.int (nI j) :: .ref b :: st) := by
  subst hq
  obtain ⟨s1, s2, s3, s4⟩ := S
  obtain ⟨p, l, e, R, s, m, args, below, meth, c⟩ := X
  obtain ⟨hx, hb, hml, hown, hts, hst, hlk, hr, hR, hG, hF, hz, hK, hnm, htb⟩ := C
  intro H locs ls hP hD hS hl
  refine va_sld hx hb s1 s2 s3 hS (pk_in j L hj rfl (by omega)) d ?_
  rw [show (nI j).toNatClampNeg = j from nI_clamp (by omega)]
  exact kk H locs ls hP hD hS hl
theorem v_slen (C : Cx X G cc nL own ret rm nm tb) {b L : Nat} {xs : Nat → Int32} (S : Scr X G b L xs) (d : decode cc pc = .ok (.arraylength, 1)) (hq : pc + 1 = q)
    (kk : V X G nL w k n Q q lv (.int (nI L) :: st)) : V X G nL w k n Q pc lv (.ref b :: st) := by
  subst hq
  obtain ⟨s1, s2, s3, s4⟩ := S
  obtain ⟨p, l, e, R, s, m, args, below, meth, c⟩ := X
  obtain ⟨hx, hb, hml, hown, hts, hst, hlk, hr, hR, hG, hF, hz, hK, hnm, htb⟩ := C
  intro H locs ls hP hD hS hl
  exact va_slen hx hb s1 s2 s3 hS d (kk H locs ls hP hD hS hl)
end SL
