theorem WI.mono {G : GG} {x m o c : Nat} {w : va_W} (h : WI G x m o c w) : WI G x m o (c + 1) w := by
  obtain ⟨z, nm, nc, nr, nf, ns, dd, hM, hI, hg⟩ := h
  exact ⟨z, nm, nc, nr, nf, ns, dd, hM, hI.fr (c + 1) (by omega) (fun _ _ => rfl) (fun _ _ => rfl) (fun _ _ => rfl) rfl rfl rfl rfl rfl rfl rfl rfl rfl rfl rfl rfl rfl rfl rfl rfl rfl rfl rfl rfl rfl rfl rfl rfl rfl rfl rfl rfl rfl rfl, hg.cg rfl rfl⟩
theorem lp_le {i L : Nat} (hi : i < 2 ^ 30) (hL : L < 2 ^ 30) (h : ¬ nI L - 5 < nI i) : i + 5 ≤ L := by
  have h2 : nI i ≤ nI L - nI 5 := Int32.not_lt.mp h
  rw [Int32.le_iff_toInt_le, pk_sub_toInt hL (by decide), nI_toInt (by omega)] at h2
  omega

theorem lw_loop {X : XS} {G : GG} {nme : String} {tb : List ExceptionTableEntry} {Q : State → Prop} {b L x m o : Nat} {xs : Nat → Int32} (C : Cx X G cL_law 7 RL (some .boolean) room_1 nme tb) (S : Scr X G b L xs) (hMi : MiOK G) (hret : ∀ (w : va_W) (k n : Nat) (lv : List (Nat × Value)), k ≤ 601024 → n ≤ 7293034 → V X G 7 w k n Q 2131 lv [.int 1]) : ∀ r c, c + r = 513 → 5 * c ≤ L → ∀ w, WI G x m o c w → V X G 7 w (100 + 10 * c) (5000 + 200 * c) Q 23 [(4, .int (nI (5 * c))), (3, .ref o), (2, .ref m), (1, .ref x), (0, .ref b)] []
  | 0, c, hc, hL, w, hW => by
    have := S.2.2.2
    omega
  | r + 1, c, hc, hL, w, hW => by
    have hL2 := S.2.2.2
    refine v_iload C dL_law_23 rfl 0 rfl ?_
    refine v_aload_n C dL_law_25 rfl 4 rfl ?_
    refine v_slen C S dL_law_26 rfl ?_
    refine v_iconst C (v := 5) dL_law_27 rfl rfl ?_
    refine v_isub C dL_law_28 rfl ?_
    refine v_icmp_gt C (t := 2130) dL_law_29 rfl rfl (fun _ => ?_) (fun hle => ?_)
    · refine v_iconst C (v := 1) dL_law_2130 rfl rfl ?_
      exact hret _ _ _ _ (by omega) (by omega)
    have h5 : 5 * c + 5 ≤ L := lp_le (by omega) (by omega) hle
    refine v_aload_n C dL_law_32 rfl 4 rfl ?_
    refine v_iload C dL_law_33 rfl 0 rfl ?_
    refine v_sld C S (5 * c) (by omega) dL_law_35 rfl ?_
    refine v_bipush C (v := 31) dL_law_36 rfl rfl ?_
    refine v_iand C dL_law_38 rfl ?_
    have kk : ∀ w', WI G x m o (c + 1) w' → V X G 7 w' (100 + 10 * c + 10) (5000 + 200 * c + 200) Q 2124 [(4, .int (nI (5 * c))), (3, .ref o), (2, .ref m), (1, .ref x), (0, .ref b)] [] := fun w' hw' => by
      refine v_iinc C (v := nI (5 * (c + 1))) (lv1 := [(4, .int (nI (5 * (c + 1)))), (3, .ref o), (2, .ref m), (1, .ref x), (0, .ref b)]) dL_law_2124 rfl 0 rfl ?_ (by decide) rfl ?_
      · show nI (5 * c) + nI 5 = _
        rw [nI_add]
        rfl
      refine v_goto C (q := 23) dL_law_2127 rfl ?_
      exact xx_mono (by omega) (by omega) (lw_loop C S hMi hret r (c + 1) (by omega) (by omega) w' hw')
    have hk : 100 + 10 * c + 10 ≤ 601024 ∧ 5000 + 200 * c + 200 ≤ 7293034 := by omega
    by_cases g0 : xs (5 * c) &&& 31 = 0
    · exact v_tabIn C (off := 133) (q := 172) dL_law_39 (by rw [g0]; decide) (by rw [g0]; decide) (by rw [g0]; rfl) rfl (lwc_ground C S h5 hMi hW (by omega) hk kk)
    by_cases g1 : xs (5 * c) &&& 31 = 1
    · exact v_tabIn C (off := 213) (q := 252) dL_law_39 (by rw [g1]; decide) (by rw [g1]; decide) (by rw [g1]; rfl) rfl (lwc_flow C S h5 hMi hW (by omega) hk kk)
    by_cases g2 : xs (5 * c) &&& 31 = 2
    · exact v_tabIn C (off := 269) (q := 308) dL_law_39 (by rw [g2]; decide) (by rw [g2]; decide) (by rw [g2]; rfl) rfl (lwc_miner C S h5 hMi hW (by omega) hk kk)
    by_cases g3 : xs (5 * c) &&& 31 = 3
    · exact v_tabIn C (off := 337) (q := 376) dL_law_39 (by rw [g3]; decide) (by rw [g3]; decide) (by rw [g3]; rfl) rfl (lwc_pass C S h5 hMi hW (by omega) hk kk)
    by_cases g4 : xs (5 * c) &&& 31 = 4
    · exact v_tabIn C (off := 393) (q := 432) dL_law_39 (by rw [g4]; decide) (by rw [g4]; decide) (by rw [g4]; rfl) rfl (lwc_meet C S h5 hMi hW (by omega) hk kk)
    by_cases g5 : xs (5 * c) &&& 31 = 5
    · exact v_tabIn C (off := 492) (q := 531) dL_law_39 (by rw [g5]; decide) (by rw [g5]; decide) (by rw [g5]; rfl) rfl (lwc_peg C S h5 hMi hW (by omega) hk kk)
    by_cases g6 : xs (5 * c) &&& 31 = 6
    · exact v_tabIn C (off := 572) (q := 611) dL_law_39 (by rw [g6]; decide) (by rw [g6]; decide) (by rw [g6]; rfl) rfl (lwc_right C S h5 hMi hW (by omega) hk kk)
    by_cases g7 : xs (5 * c) &&& 31 = 7
    · exact v_tabIn C (off := 640) (q := 679) dL_law_39 (by rw [g7]; decide) (by rw [g7]; decide) (by rw [g7]; rfl) rfl (lwc_work C S h5 hMi hW (by omega) hk kk)
    by_cases g8 : xs (5 * c) &&& 31 = 8
    · exact v_tabIn C (off := 720) (q := 759) dL_law_39 (by rw [g8]; decide) (by rw [g8]; decide) (by rw [g8]; rfl) rfl (lwc_sample C S h5 hMi hW (by omega) hk kk)
    by_cases g9 : xs (5 * c) &&& 31 = 9
    · exact v_tabIn C (off := 776) (q := 815) dL_law_39 (by rw [g9]; decide) (by rw [g9]; decide) (by rw [g9]; rfl) rfl (lwc_salt C S h5 hMi hW (by omega) hk kk)
    by_cases g10 : xs (5 * c) &&& 31 = 10
    · exact v_tabIn C (off := 856) (q := 895) dL_law_39 (by rw [g10]; decide) (by rw [g10]; decide) (by rw [g10]; rfl) rfl (lwc_brass C S h5 hMi hW (by omega) hk kk)
    by_cases g11 : xs (5 * c) &&& 31 = 11
    · exact v_tabIn C (off := 924) (q := 963) dL_law_39 (by rw [g11]; decide) (by rw [g11]; decide) (by rw [g11]; rfl) rfl (lwc_sell C S h5 hMi hW (by omega) hk kk)
    by_cases g12 : xs (5 * c) &&& 31 = 12
    · exact v_tabIn C (off := 992) (q := 1031) dL_law_39 (by rw [g12]; decide) (by rw [g12]; decide) (by rw [g12]; rfl) rfl (lwc_rate C S h5 hMi hW (by omega) hk kk)
    by_cases g13 : xs (5 * c) &&& 31 = 13
    · exact v_tabIn C (off := 1048) (q := 1087) dL_law_39 (by rw [g13]; decide) (by rw [g13]; decide) (by rw [g13]; rfl) rfl (lwc_freight C S h5 hMi hW (by omega) hk kk)
    by_cases g14 : xs (5 * c) &&& 31 = 14
    · exact v_tabIn C (off := 1096) (q := 1135) dL_law_39 (by rw [g14]; decide) (by rw [g14]; decide) (by rw [g14]; rfl) rfl (lwc_buy C S h5 hMi hW (by omega) hk kk)
    by_cases g15 : xs (5 * c) &&& 31 = 15
    · exact v_tabIn C (off := 1164) (q := 1203) dL_law_39 (by rw [g15]; decide) (by rw [g15]; decide) (by rw [g15]; rfl) rfl (lwc_back C S h5 hMi hW (by omega) hk kk)
    by_cases g16 : xs (5 * c) &&& 31 = 16
    · exact v_tabIn C (off := 1236) (q := 1275) dL_law_39 (by rw [g16]; decide) (by rw [g16]; decide) (by rw [g16]; rfl) rfl (lwc_end C S h5 hMi hW (by omega) hk kk)
    by_cases g17 : xs (5 * c) &&& 31 = 17
    · exact v_tabIn C (off := 1304) (q := 1343) dL_law_39 (by rw [g17]; decide) (by rw [g17]; decide) (by rw [g17]; rfl) rfl (lwc_trade C S h5 hMi hW (by omega) hk kk)
    by_cases g18 : xs (5 * c) &&& 31 = 18
    · exact v_tabIn C (off := 1384) (q := 1423) dL_law_39 (by rw [g18]; decide) (by rw [g18]; decide) (by rw [g18]; rfl) rfl (lwc_suit C S h5 hMi hW (by omega) hk kk)
    by_cases g19 : xs (5 * c) &&& 31 = 19
    · exact v_tabIn C (off := 1440) (q := 1479) dL_law_39 (by rw [g19]; decide) (by rw [g19]; decide) (by rw [g19]; rfl) rfl (lwc_rumour C S h5 hMi hW (by omega) hk kk)
    by_cases g20 : xs (5 * c) &&& 31 = 20
    · exact v_tabIn C (off := 1508) (q := 1547) dL_law_39 (by rw [g20]; decide) (by rw [g20]; decide) (by rw [g20]; rfl) rfl (lwc_day C S h5 hMi hW (by omega) hk kk)
    by_cases g21 : xs (5 * c) &&& 31 = 21
    · exact v_tabIn C (off := 1521) (q := 1560) dL_law_39 (by rw [g21]; decide) (by rw [g21]; decide) (by rw [g21]; rfl) rfl (lwc_holds C S h5 hMi hW (by omega) hk kk)
    by_cases g22 : xs (5 * c) &&& 31 = 22
    · exact v_tabIn C (off := 1577) (q := 1616) dL_law_39 (by rw [g22]; decide) (by rw [g22]; decide) (by rw [g22]; rfl) rfl (lwc_ofClaim C S h5 hMi hW (by omega) hk kk)
    by_cases g23 : xs (5 * c) &&& 31 = 23
    · exact v_tabIn C (off := 1645) (q := 1684) dL_law_39 (by rw [g23]; decide) (by rw [g23]; decide) (by rw [g23]; rfl) rfl (lwc_ofMiner C S h5 hMi hW (by omega) hk kk)
    by_cases g24 : xs (5 * c) &&& 31 = 24
    · exact v_tabIn C (off := 1713) (q := 1752) dL_law_39 (by rw [g24]; decide) (by rw [g24]; decide) (by rw [g24]; rfl) rfl (lwc_gets C S h5 hMi hW (by omega) hk kk)
    by_cases g25 : xs (5 * c) &&& 31 = 25
    · exact v_tabIn C (off := 1769) (q := 1808) dL_law_39 (by rw [g25]; decide) (by rw [g25]; decide) (by rw [g25]; rfl) rfl (lwc_gold C S h5 hMi hW (by omega) hk kk)
    by_cases g26 : xs (5 * c) &&& 31 = 26
    · exact v_tabIn C (off := 1825) (q := 1864) dL_law_39 (by rw [g26]; decide) (by rw [g26]; decide) (by rw [g26]; rfl) rfl (lwc_camp C S h5 hMi hW (by omega) hk kk)
    by_cases g27 : xs (5 * c) &&& 31 = 27
    · exact v_tabIn C (off := 1881) (q := 1920) dL_law_39 (by rw [g27]; decide) (by rw [g27]; decide) (by rw [g27]; rfl) rfl (lwc_belief C S h5 hMi hW (by omega) hk kk)
    by_cases g28 : xs (5 * c) &&& 31 = 28
    · exact v_tabIn C (off := 1937) (q := 1976) dL_law_39 (by rw [g28]; decide) (by rw [g28]; decide) (by rw [g28]; rfl) rfl (lwc_plan C S h5 hMi hW (by omega) hk kk)
    by_cases g29 : xs (5 * c) &&& 31 = 29
    · exact v_tabIn C (off := 2005) (q := 2044) dL_law_39 (by rw [g29]; decide) (by rw [g29]; decide) (by rw [g29]; rfl) rfl (lwc_planCell C S h5 hMi hW (by omega) hk kk)
    have f0 : (xs (5 * c) &&& 31).toInt ≠ 0 := fun h => g0 (Int32.toInt_inj.mp (h.trans (by decide)))
    have f1 : (xs (5 * c) &&& 31).toInt ≠ 1 := fun h => g1 (Int32.toInt_inj.mp (h.trans (by decide)))
    have f2 : (xs (5 * c) &&& 31).toInt ≠ 2 := fun h => g2 (Int32.toInt_inj.mp (h.trans (by decide)))
    have f3 : (xs (5 * c) &&& 31).toInt ≠ 3 := fun h => g3 (Int32.toInt_inj.mp (h.trans (by decide)))
    have f4 : (xs (5 * c) &&& 31).toInt ≠ 4 := fun h => g4 (Int32.toInt_inj.mp (h.trans (by decide)))
    have f5 : (xs (5 * c) &&& 31).toInt ≠ 5 := fun h => g5 (Int32.toInt_inj.mp (h.trans (by decide)))
    have f6 : (xs (5 * c) &&& 31).toInt ≠ 6 := fun h => g6 (Int32.toInt_inj.mp (h.trans (by decide)))
    have f7 : (xs (5 * c) &&& 31).toInt ≠ 7 := fun h => g7 (Int32.toInt_inj.mp (h.trans (by decide)))
    have f8 : (xs (5 * c) &&& 31).toInt ≠ 8 := fun h => g8 (Int32.toInt_inj.mp (h.trans (by decide)))
    have f9 : (xs (5 * c) &&& 31).toInt ≠ 9 := fun h => g9 (Int32.toInt_inj.mp (h.trans (by decide)))
    have f10 : (xs (5 * c) &&& 31).toInt ≠ 10 := fun h => g10 (Int32.toInt_inj.mp (h.trans (by decide)))
    have f11 : (xs (5 * c) &&& 31).toInt ≠ 11 := fun h => g11 (Int32.toInt_inj.mp (h.trans (by decide)))
    have f12 : (xs (5 * c) &&& 31).toInt ≠ 12 := fun h => g12 (Int32.toInt_inj.mp (h.trans (by decide)))
    have f13 : (xs (5 * c) &&& 31).toInt ≠ 13 := fun h => g13 (Int32.toInt_inj.mp (h.trans (by decide)))
    have f14 : (xs (5 * c) &&& 31).toInt ≠ 14 := fun h => g14 (Int32.toInt_inj.mp (h.trans (by decide)))
    have f15 : (xs (5 * c) &&& 31).toInt ≠ 15 := fun h => g15 (Int32.toInt_inj.mp (h.trans (by decide)))
    have f16 : (xs (5 * c) &&& 31).toInt ≠ 16 := fun h => g16 (Int32.toInt_inj.mp (h.trans (by decide)))
    have f17 : (xs (5 * c) &&& 31).toInt ≠ 17 := fun h => g17 (Int32.toInt_inj.mp (h.trans (by decide)))
    have f18 : (xs (5 * c) &&& 31).toInt ≠ 18 := fun h => g18 (Int32.toInt_inj.mp (h.trans (by decide)))
    have f19 : (xs (5 * c) &&& 31).toInt ≠ 19 := fun h => g19 (Int32.toInt_inj.mp (h.trans (by decide)))
    have f20 : (xs (5 * c) &&& 31).toInt ≠ 20 := fun h => g20 (Int32.toInt_inj.mp (h.trans (by decide)))
    have f21 : (xs (5 * c) &&& 31).toInt ≠ 21 := fun h => g21 (Int32.toInt_inj.mp (h.trans (by decide)))
    have f22 : (xs (5 * c) &&& 31).toInt ≠ 22 := fun h => g22 (Int32.toInt_inj.mp (h.trans (by decide)))
    have f23 : (xs (5 * c) &&& 31).toInt ≠ 23 := fun h => g23 (Int32.toInt_inj.mp (h.trans (by decide)))
    have f24 : (xs (5 * c) &&& 31).toInt ≠ 24 := fun h => g24 (Int32.toInt_inj.mp (h.trans (by decide)))
    have f25 : (xs (5 * c) &&& 31).toInt ≠ 25 := fun h => g25 (Int32.toInt_inj.mp (h.trans (by decide)))
    have f26 : (xs (5 * c) &&& 31).toInt ≠ 26 := fun h => g26 (Int32.toInt_inj.mp (h.trans (by decide)))
    have f27 : (xs (5 * c) &&& 31).toInt ≠ 27 := fun h => g27 (Int32.toInt_inj.mp (h.trans (by decide)))
    have f28 : (xs (5 * c) &&& 31).toInt ≠ 28 := fun h => g28 (Int32.toInt_inj.mp (h.trans (by decide)))
    have f29 : (xs (5 * c) &&& 31).toInt ≠ 29 := fun h => g29 (Int32.toInt_inj.mp (h.trans (by decide)))
    exact v_tabOut C (q := 2124) dL_law_39 (by omega) rfl (xx_mono (by omega) (by omega) (kk w hW.mono))

def z00 : SS := fun k => match k with
  | 1 => fun _ => 100 | 2 => fun _ => 3 | 3 => fun _ => 7 | 4 => fun _ => 10 | 5 => fun _ => 50 | _ => fun _ => 0
def mI (i : Nat) : Nat := bif Nat.ble i 11 then i - 9 else bif Nat.ble i 20 then i - 10 else bif Nat.ble i 32 then i - 11 else bif Nat.ble i 35 then i - 12 else bif Nat.ble i 38 then i - 13 else i - 14
def gB (i : Nat) : Nat := match i with
  | 0 => 2 | 1 => 3 | 2 => 5 | 3 => 6 | _ => 8
def adr (g10 : Nat) (bs : List Nat) : AD := fun κ i => match κ with
  | 0 => bs.getD 12 0 | 1 => bs.getD (13 + mI i) 0 | 2 => bs.getD 0 0 | 3 => bs.getD 1 0 | 4 => bs.getD 4 0 | 5 => bs.getD 7 0 | 6 => bs.getD (9 + i) 0 | 8 => bs.getD (gB i) 0 | 14 => bs.getD 44 0 | 16 => g10 | _ => 0
def L00 : List (Nat × Nat) := [(2, 0), (3, 0), (8, 0), (8, 1), (4, 0), (8, 2), (8, 3), (5, 0), (8, 4), (6, 0), (6, 1), (6, 2), (0, 0), (1, 9), (1, 10), (1, 11), (1, 13), (1, 14), (1, 15), (1, 16), (1, 17), (1, 18), (1, 19), (1, 20), (1, 22), (1, 23), (1, 24), (1, 25), (1, 26), (1, 27), (1, 28), (1, 29), (1, 30), (1, 31), (1, 32), (1, 34), (1, 35), (1, 37), (1, 38), (1, 40), (1, 41), (1, 42), (1, 43), (1, 44), (14, 0)]
theorem L00_lv : ∀ q ∈ L00, Lv z00 q.1 q.2 := List.forall_mem_cons.mpr ⟨rfl, List.forall_mem_cons.mpr ⟨rfl, List.forall_mem_cons.mpr ⟨(show 0 < 5 by decide), List.forall_mem_cons.mpr ⟨(show 1 < 5 by decide), List.forall_mem_cons.mpr ⟨rfl, List.forall_mem_cons.mpr ⟨(show 2 < 5 by decide), List.forall_mem_cons.mpr ⟨(show 3 < 5 by decide), List.forall_mem_cons.mpr ⟨rfl, List.forall_mem_cons.mpr ⟨(show 4 < 5 by decide), List.forall_mem_cons.mpr ⟨(show 0 < 3 by decide), List.forall_mem_cons.mpr ⟨(show 1 < 3 by decide), List.forall_mem_cons.mpr ⟨(show 2 < 3 by decide), List.forall_mem_cons.mpr ⟨rfl, List.forall_mem_cons.mpr ⟨rfl, List.forall_mem_cons.mpr ⟨rfl, List.forall_mem_cons.mpr ⟨rfl, List.forall_mem_cons.mpr ⟨rfl, List.forall_mem_cons.mpr ⟨rfl, List.forall_mem_cons.mpr ⟨rfl, List.forall_mem_cons.mpr ⟨rfl, List.forall_mem_cons.mpr ⟨rfl, List.forall_mem_cons.mpr ⟨rfl, List.forall_mem_cons.mpr ⟨rfl, List.forall_mem_cons.mpr ⟨rfl, List.forall_mem_cons.mpr ⟨rfl, List.forall_mem_cons.mpr ⟨rfl, List.forall_mem_cons.mpr ⟨rfl, List.forall_mem_cons.mpr ⟨rfl, List.forall_mem_cons.mpr ⟨rfl, List.forall_mem_cons.mpr ⟨rfl, List.forall_mem_cons.mpr ⟨rfl, List.forall_mem_cons.mpr ⟨rfl, List.forall_mem_cons.mpr ⟨rfl, List.forall_mem_cons.mpr ⟨rfl, List.forall_mem_cons.mpr ⟨rfl, List.forall_mem_cons.mpr ⟨rfl, List.forall_mem_cons.mpr ⟨rfl, List.forall_mem_cons.mpr ⟨rfl, List.forall_mem_cons.mpr ⟨rfl, List.forall_mem_cons.mpr ⟨rfl, List.forall_mem_cons.mpr ⟨rfl, List.forall_mem_cons.mpr ⟨rfl, List.forall_mem_cons.mpr ⟨rfl, List.forall_mem_cons.mpr ⟨rfl, List.forall_mem_cons.mpr ⟨rfl, fun _ h => absurd h List.not_mem_nil⟩⟩⟩⟩⟩⟩⟩⟩⟩⟩⟩⟩⟩⟩⟩⟩⟩⟩⟩⟩⟩⟩⟩⟩⟩⟩⟩⟩⟩⟩⟩⟩⟩⟩⟩⟩⟩⟩⟩⟩⟩⟩⟩⟩⟩
theorem L00_live : Live L00 z00 := by
  refine ⟨by decide, fun κ i => ⟨fun h => L00_lv (κ, i) h, fun h => ?_⟩⟩
  match κ, h with
  | 0, h => have h : i = 0 := h; subst h; decide
  | 1, h => exact (by decide : ∀ i, i < 46 → mA i = true → (1, i) ∈ L00) i (mA_lt h) h
  | 2, h => have h : i = 0 := h; subst h; decide
  | 3, h => have h : i = 0 := h; subst h; decide
  | 4, h => have h : i = 0 := h; subst h; decide
  | 5, h => have h : i = 0 := h; subst h; decide
  | 6, h => exact (by decide : ∀ i, i < 3 → (6, i) ∈ L00) i h
  | 7, h => exact absurd h.2 (by have := lI_m i; rcases this with e | e | e <;> rw [e] <;> decide)
  | 8, h => exact (by decide : ∀ i, i < 5 → (8, i) ∈ L00) i h
  | 9, h => exact absurd (show i < 0 from h) (Nat.not_lt_zero _)
  | 10, h => exact absurd (show i < 0 from h) (Nat.not_lt_zero _)
  | 11, h => exact absurd (show i < 0 from h) (Nat.not_lt_zero _)
  | 12, h => exact absurd (show i < 0 from h) (Nat.not_lt_zero _)
  | 13, h => exact absurd (show i < 0 from h) (Nat.not_lt_zero _)
  | 14, h => have h : i = 0 := h; subst h; decide
  | q + 15, h => exact absurd h.lt (by omega)
theorem slL_00 : ∀ n, slL z00 n = []
  | 0 => rfl
  | n + 1 => by
    have ih := slL_00 n
    unfold slL
    rw [if_neg (show ¬ (0 : Int32) < z00 50 n from fun h => absurd (show (0 : Int32) < 0 from h) (by decide))]
    exact ih
theorem Iv_00 : Iv z00 0 0 0 0 0 0 0 := by
  refine ⟨⟨⟨rfl, by decide⟩, ⟨rfl, by decide⟩, ⟨rfl, by decide⟩, ⟨rfl, by decide⟩, ⟨rfl, by decide⟩, ⟨rfl, by decide⟩, ⟨10, rfl, by decide⟩⟩, ⟨fun i hi => absurd hi (Nat.not_lt_zero _), fun i hi => ⟨0, rfl, by decide⟩, fun i hi => absurd hi (Nat.not_lt_zero _)⟩, ⟨?_, fun i => Or.inl rfl⟩, ⟨fun i hi => absurd hi (Nat.not_lt_zero _), fun x i j hi => absurd hi (Nat.not_lt_zero _)⟩, ⟨fun i hi => absurd hi (Nat.not_lt_zero _), fun i hi => absurd hi (Nat.not_lt_zero _)⟩, fun i hi => absurd hi (Nat.not_lt_zero _), ⟨fun i hi => ⟨rfl, rfl, rfl⟩, fun j b hj hb => rfl, fun i hi => ⟨rfl, rfl⟩⟩, ⟨fun i c hi => absurd hi (Nat.not_lt_zero _), fun k hk => absurd hk (Nat.not_lt_zero _)⟩, fun i hi => absurd hi (Nat.not_lt_zero _)⟩
  rw [slL_00]
  exact List.Perm.refl _
theorem Gr_00 : Gr z00 0 := fun i hi => ⟨⟨0, rfl, by decide⟩, ⟨0, rfl, by decide⟩⟩
theorem Ls_00 {g : Nat → Nat} {bs : List Nat} {k : Nat} (hk : k < 3) : LsT g (adr (g 10) bs) z00 z00 k 0 := by
  have e : z00 (lI k) 0 = 0 := by rcases lI_m k with e | e | e <;> rw [e] <;> rfl
  exact ⟨⟨e, by decide, fun h => absurd h (by decide)⟩, fun _ => rfl, fun h => absurd h (by decide), by rw [e]; rfl⟩
theorem e14_00 : (fun _ => 0 : Nat → Int64) = fun j => if j = 0 then (z00 60 0).toInt64 else 0 := funext fun j => by
  by_cases q : j = 0
  · rw [if_pos q]; rfl
  · rw [if_neg q]
set_option maxRecDepth 20000 in
theorem W_00 {g : Nat → Nat} {x c1 b0_c1 b1_c1 c4 b0_c4 b1_c4 c7 b0_c7 c9 c10 c11 m b1 b2 b3 b4 b5 b6 b7 b8 b9 b10 b11 b12 b13 b14 b15 b16 b17 b18 b19 b20 b21 b22 b23 b24 b25 b26 b27 b28 b29 b30 b31 o : Nat} : ([(x, Sum.inr (7, [.ref c1, .ref c4, .ref c7, .ref c9, .ref c10, .ref c11, .int 0, .int 100, .int 3, .int 7, .int 10, .int 0])), (c1, Sum.inr (2, [.ref b0_c1, .ref b1_c1, .int 0, .int 0])), (b0_c1, Sum.inl (g 0, 40, Sum.inl (fun _ => 0))), (b1_c1, Sum.inl (g 0, 40, Sum.inl (fun _ => 0))), (c4, Sum.inr (6, [.ref b0_c4, .ref b1_c4, .int 50])), (b0_c4, Sum.inl (g 0, 20, Sum.inl (fun _ => 0))), (b1_c4, Sum.inl (g 0, 20, Sum.inl (fun _ => 0))), (c7, Sum.inr (5, [.ref b0_c7])), (b0_c7, Sum.inl (g 0, 40, Sum.inl (fun _ => 0))), (c9, Sum.inr (0, [.int 0, .ref (g 10), .int 0])), (c10, Sum.inr (0, [.int 0, .ref (g 10), .int 0])), (c11, Sum.inr (0, [.int 0, .ref (g 10), .int 0])), (m, Sum.inr (8, [.int 0, .int 100, .int 3, .int 7, .int 10, .int 50, .int 0, .int 0, .int 0, .ref b1, .ref b2, .ref b3, .int 0, .ref b4, .ref b5, .ref b6, .ref b7, .ref b8, .ref b9, .ref b10, .ref b11, .int 0, .ref b12, .ref b13, .ref b14, .ref b15, .ref b16, .ref b17, .ref b18, .ref b19, .ref b20, .ref b21, .ref b22, .int 0, .ref b23, .ref b24, .int 0, .ref b25, .ref b26, .int 0, .ref b27, .ref b28, .ref b29, .ref b30, .ref b31, .int 0])), (b1, Sum.inl (g 0, 40, Sum.inl (fun _ => 0))), (b2, Sum.inl (g 0, 40, Sum.inl (fun _ => 0))), (b3, Sum.inl (g 0, 40, Sum.inl (fun _ => 0))), (b4, Sum.inl (g 0, 12, Sum.inl (fun _ => 0))), (b5, Sum.inl (g 0, 12, Sum.inl (fun _ => 0))), (b6, Sum.inl (g 0, 12, Sum.inl (fun _ => 0))), (b7, Sum.inl (g 0, 12, Sum.inl (fun _ => 0))), (b8, Sum.inl (g 0, 12, Sum.inl (fun _ => 0))), (b9, Sum.inl (g 0, 12, Sum.inl (fun _ => 0))), (b10, Sum.inl (g 0, 12, Sum.inl (fun _ => 0))), (b11, Sum.inl (g 0, 144, Sum.inl (fun _ => 0))), (b12, Sum.inl (g 0, 30, Sum.inl (fun _ => 0))), (b13, Sum.inl (g 0, 30, Sum.inl (fun _ => 0))), (b14, Sum.inl (g 0, 30, Sum.inl (fun _ => 0))), (b15, Sum.inl (g 1, 30, Sum.inl (fun _ => 0))), (b16, Sum.inl (g 0, 30, Sum.inl (fun _ => 0))), (b17, Sum.inl (g 0, 30, Sum.inl (fun _ => 0))), (b18, Sum.inl (g 1, 30, Sum.inl (fun _ => 0))), (b19, Sum.inl (g 0, 30, Sum.inl (fun _ => 0))), (b20, Sum.inl (g 0, 30, Sum.inl (fun _ => 0))), (b21, Sum.inl (g 0, 30, Sum.inl (fun _ => 0))), (b22, Sum.inl (g 0, 30, Sum.inl (fun _ => 0))), (b23, Sum.inl (g 0, 20, Sum.inl (fun _ => 0))), (b24, Sum.inl (g 0, 20, Sum.inl (fun _ => 0))), (b25, Sum.inl (g 0, 20, Sum.inl (fun _ => 0))), (b26, Sum.inl (g 0, 20, Sum.inl (fun _ => 0))), (b27, Sum.inl (g 0, 600, Sum.inl (fun _ => 0))), (b28, Sum.inl (g 0, 600, Sum.inl (fun _ => 0))), (b29, Sum.inl (g 0, 600, Sum.inl (fun _ => 0))), (b30, Sum.inl (g 0, 5, Sum.inl (fun _ => 0))), (b31, Sum.inl (g 0, 5, Sum.inl (fun _ => 0)))] ++ [(o, Sum.inl (g 3, 1, Sum.inr (Sum.inl (fun _ => 0))))] : va_W) = wl (adr (g 10) [x, c1, b0_c1, b1_c1, c4, b0_c4, b1_c4, c7, b0_c7, c9, c10, c11, m, b1, b2, b3, b4, b5, b6, b7, b8, b9, b10, b11, b12, b13, b14, b15, b16, b17, b18, b19, b20, b21, b22, b23, b24, b25, b26, b27, b28, b29, b30, b31, o]) (E g (adr (g 10) [x, c1, b0_c1, b1_c1, c4, b0_c4, b1_c4, c7, b0_c7, c9, c10, c11, m, b1, b2, b3, b4, b5, b6, b7, b8, b9, b10, b11, b12, b13, b14, b15, b16, b17, b18, b19, b20, b21, b22, b23, b24, b25, b26, b27, b28, b29, b30, b31, o]) z00 z00) L00 := by
  rw [e14_00]
  rfl
theorem lw_init {X : XS} {G : GG} {nme : String} {tb : List ExceptionTableEntry} {Q : State → Prop} {b : Nat} (C : Cx X G cL_law 7 RL (some .boolean) room_1 nme tb) (kk : ∀ (x m o : Nat) (w : va_W), WI G x m o 0 w → V X G 7 w (100 + 10 * 0) (5000 + 200 * 0) Q 23 [(4, .int (nI (5 * 0))), (3, .ref o), (2, .ref m), (1, .ref x), (0, .ref b)] []) : V X G 7 [] 0 0 Q 0 [(0, .ref b)] [] := by
  have hst : X.2.1.stackTraces = false := C.2.2.2.2.2.1
  have hG : GOK G := C.2.2.2.2.2.2.2.2.2.1
  refine v_new C (ci := 7) (N := 12) (fs := [.null, .null, .null, .null, .null, .null, .int 0, .int 0, .int 0, .int 0, .int 0, .int 0]) rfl inA_RX7 tyX7_ok K_L_8 in_X7 iz_X7 df_X7 (by decide) (by decide) dL_law_0 rfl (fun x => ?_)
  refine v_dup C dL_law_3 rfl rfl ?_
  refine w_invI C [] 12 189 L_L_108 (c_X7_init hst hG ap_new) rfl rfl rfl dL_law_4 rfl (fun v w1 hv => ?_)
  obtain ⟨rfl, c1, b0_c1, b1_c1, c4, b0_c4, b1_c4, c7, b0_c7, c9, c10, c11, rfl⟩ := hv
  refine xx_w (w' := [(x, Sum.inr (7, [.ref c1, .ref c4, .ref c7, .ref c9, .ref c10, .ref c11, .int 0, .int 100, .int 3, .int 7, .int 10, .int 0])), (c1, Sum.inr (2, [.ref b0_c1, .ref b1_c1, .int 0, .int 0])), (b0_c1, Sum.inl (G.2.2.1 0, 40, Sum.inl (fun _ => 0))), (b1_c1, Sum.inl (G.2.2.1 0, 40, Sum.inl (fun _ => 0))), (c4, Sum.inr (6, [.ref b0_c4, .ref b1_c4, .int 50])), (b0_c4, Sum.inl (G.2.2.1 0, 20, Sum.inl (fun _ => 0))), (b1_c4, Sum.inl (G.2.2.1 0, 20, Sum.inl (fun _ => 0))), (c7, Sum.inr (5, [.ref b0_c7])), (b0_c7, Sum.inl (G.2.2.1 0, 40, Sum.inl (fun _ => 0))), (c9, Sum.inr (0, [.int 0, .ref (G.2.2.1 10), .int 0])), (c10, Sum.inr (0, [.int 0, .ref (G.2.2.1 10), .int 0])), (c11, Sum.inr (0, [.int 0, .ref (G.2.2.1 10), .int 0]))]) (by rw [ap_sn]; rfl) ?_
  refine v_astore_n C (lv1 := [(1, .ref x), (0, .ref b)]) dL_law_7 rfl (by decide) rfl ?_
  refine v_new C (ci := 8) (N := 46) (fs := [.int 0, .int 0, .int 0, .int 0, .int 0, .int 0, .int 0, .int 0, .int 0, .null, .null, .null, .int 0, .null, .null, .null, .null, .null, .null, .null, .null, .int 0, .null, .null, .null, .null, .null, .null, .null, .null, .null, .null, .null, .int 0, .null, .null, .int 0, .null, .null, .int 0, .null, .null, .null, .null, .null, .int 0]) rfl inA_RX8 tyX8_ok K_L_109 in_X8 iz_X8 df_X8 (by decide) (by decide) dL_law_8 rfl (fun m => ?_)
  refine v_dup C dL_law_11 rfl rfl ?_
  refine w_invI C [] 44 2803 L_L_111 (c_X8_init hst hG ap_new) rfl rfl rfl dL_law_12 rfl (fun v w1 hv => ?_)
  obtain ⟨rfl, b1, b2, b3, b4, b5, b6, b7, b8, b9, b10, b11, b12, b13, b14, b15, b16, b17, b18, b19, b20, b21, b22, b23, b24, b25, b26, b27, b28, b29, b30, b31, rfl⟩ := hv
  refine xx_w (w' := [(x, Sum.inr (7, [.ref c1, .ref c4, .ref c7, .ref c9, .ref c10, .ref c11, .int 0, .int 100, .int 3, .int 7, .int 10, .int 0])), (c1, Sum.inr (2, [.ref b0_c1, .ref b1_c1, .int 0, .int 0])), (b0_c1, Sum.inl (G.2.2.1 0, 40, Sum.inl (fun _ => 0))), (b1_c1, Sum.inl (G.2.2.1 0, 40, Sum.inl (fun _ => 0))), (c4, Sum.inr (6, [.ref b0_c4, .ref b1_c4, .int 50])), (b0_c4, Sum.inl (G.2.2.1 0, 20, Sum.inl (fun _ => 0))), (b1_c4, Sum.inl (G.2.2.1 0, 20, Sum.inl (fun _ => 0))), (c7, Sum.inr (5, [.ref b0_c7])), (b0_c7, Sum.inl (G.2.2.1 0, 40, Sum.inl (fun _ => 0))), (c9, Sum.inr (0, [.int 0, .ref (G.2.2.1 10), .int 0])), (c10, Sum.inr (0, [.int 0, .ref (G.2.2.1 10), .int 0])), (c11, Sum.inr (0, [.int 0, .ref (G.2.2.1 10), .int 0])), (m, Sum.inr (8, [.int 0, .int 100, .int 3, .int 7, .int 10, .int 50, .int 0, .int 0, .int 0, .ref b1, .ref b2, .ref b3, .int 0, .ref b4, .ref b5, .ref b6, .ref b7, .ref b8, .ref b9, .ref b10, .ref b11, .int 0, .ref b12, .ref b13, .ref b14, .ref b15, .ref b16, .ref b17, .ref b18, .ref b19, .ref b20, .ref b21, .ref b22, .int 0, .ref b23, .ref b24, .int 0, .ref b25, .ref b26, .int 0, .ref b27, .ref b28, .ref b29, .ref b30, .ref b31, .int 0])), (b1, Sum.inl (G.2.2.1 0, 40, Sum.inl (fun _ => 0))), (b2, Sum.inl (G.2.2.1 0, 40, Sum.inl (fun _ => 0))), (b3, Sum.inl (G.2.2.1 0, 40, Sum.inl (fun _ => 0))), (b4, Sum.inl (G.2.2.1 0, 12, Sum.inl (fun _ => 0))), (b5, Sum.inl (G.2.2.1 0, 12, Sum.inl (fun _ => 0))), (b6, Sum.inl (G.2.2.1 0, 12, Sum.inl (fun _ => 0))), (b7, Sum.inl (G.2.2.1 0, 12, Sum.inl (fun _ => 0))), (b8, Sum.inl (G.2.2.1 0, 12, Sum.inl (fun _ => 0))), (b9, Sum.inl (G.2.2.1 0, 12, Sum.inl (fun _ => 0))), (b10, Sum.inl (G.2.2.1 0, 12, Sum.inl (fun _ => 0))), (b11, Sum.inl (G.2.2.1 0, 144, Sum.inl (fun _ => 0))), (b12, Sum.inl (G.2.2.1 0, 30, Sum.inl (fun _ => 0))), (b13, Sum.inl (G.2.2.1 0, 30, Sum.inl (fun _ => 0))), (b14, Sum.inl (G.2.2.1 0, 30, Sum.inl (fun _ => 0))), (b15, Sum.inl (G.2.2.1 1, 30, Sum.inl (fun _ => 0))), (b16, Sum.inl (G.2.2.1 0, 30, Sum.inl (fun _ => 0))), (b17, Sum.inl (G.2.2.1 0, 30, Sum.inl (fun _ => 0))), (b18, Sum.inl (G.2.2.1 1, 30, Sum.inl (fun _ => 0))), (b19, Sum.inl (G.2.2.1 0, 30, Sum.inl (fun _ => 0))), (b20, Sum.inl (G.2.2.1 0, 30, Sum.inl (fun _ => 0))), (b21, Sum.inl (G.2.2.1 0, 30, Sum.inl (fun _ => 0))), (b22, Sum.inl (G.2.2.1 0, 30, Sum.inl (fun _ => 0))), (b23, Sum.inl (G.2.2.1 0, 20, Sum.inl (fun _ => 0))), (b24, Sum.inl (G.2.2.1 0, 20, Sum.inl (fun _ => 0))), (b25, Sum.inl (G.2.2.1 0, 20, Sum.inl (fun _ => 0))), (b26, Sum.inl (G.2.2.1 0, 20, Sum.inl (fun _ => 0))), (b27, Sum.inl (G.2.2.1 0, 600, Sum.inl (fun _ => 0))), (b28, Sum.inl (G.2.2.1 0, 600, Sum.inl (fun _ => 0))), (b29, Sum.inl (G.2.2.1 0, 600, Sum.inl (fun _ => 0))), (b30, Sum.inl (G.2.2.1 0, 5, Sum.inl (fun _ => 0))), (b31, Sum.inl (G.2.2.1 0, 5, Sum.inl (fun _ => 0)))]) (by rw [ap_sn]; rfl) ?_
  refine v_astore_n C (lv1 := [(2, .ref m), (1, .ref x), (0, .ref b)]) dL_law_15 rfl (by decide) rfl ?_
  refine v_iconst C (v := 1) dL_law_16 rfl rfl ?_
  refine v_newJ C (N := 1) arr_j (by decide) rfl (by decide) (by decide) (by decide) dL_law_17 rfl (fun o => ?_)
  refine xx_w W_00 ?_
  refine v_astore_n C (lv1 := [(3, .ref o), (2, .ref m), (1, .ref x), (0, .ref b)]) dL_law_19 rfl (by decide) rfl ?_
  refine v_iconst C (v := 0) dL_law_20 rfl rfl ?_
  refine v_istore C (lv1 := [(4, .int 0), (3, .ref o), (2, .ref m), (1, .ref x), (0, .ref b)]) dL_law_21 rfl (by decide) rfl ?_
  refine xx_mono (k' := 100 + 10 * 0) (n' := 5000 + 200 * 0) (by decide) (by decide) ?_
  exact kk x m o _ ⟨z00, 0, 0, 0, 0, 0, 0, ⟨_, L00, z00, rfl, L00_live, ⟨rfl, rfl, rfl⟩, Ls_00 (by decide), Ls_00 (by decide), Ls_00 (by decide)⟩, Iv_00, Gr_00⟩
