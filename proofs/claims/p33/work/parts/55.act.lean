/-! act: a switch over the class's calls, with three handlers -/
def xc (E : String) : Int32 := if E = xI then -1791000000 else if E = xA then -1792000000 else -1793000000
theorem xc_I : xc xI = -1791000000 := if_pos rfl
theorem xc_A : xc xA = -1792000000 := by unfold xc; rw [if_neg (by decide), if_pos rfl]
theorem xc_S : xc xS = -1793000000 := by unfold xc; rw [if_neg (by decide), if_neg (by decide)]
section NC
variable {X : XS} {G : GG} {cc : ByteArray} {nL : Nat} {own : String} {ret : Option FieldType} {rm : Room} {nm : String} {tb : List ExceptionTableEntry}
theorem nc_xAxI (C : Cx X G cc nL own ret rm nm tb) : va_Nc xA "java/lang/IndexOutOfBoundsException" X.2.2.2.2.1 := by
  obtain ⟨-, -, -, -, -, -, -, -, -, -, h, -⟩ := cx_sf C
  exact h.1
theorem nc_xSxI (C : Cx X G cc nL own ret rm nm tb) : va_Nc xS "java/lang/IndexOutOfBoundsException" X.2.2.2.2.1 := by
  obtain ⟨-, -, -, -, -, -, -, -, -, -, h, -⟩ := cx_sf C
  exact h.2.1
theorem nc_xSxA (C : Cx X G cc nL own ret rm nm tb) : va_Nc xS "java/lang/IllegalArgumentException" X.2.2.2.2.1 := by
  obtain ⟨-, -, -, -, -, -, -, -, -, -, h, -⟩ := cx_sf C
  exact h.2.2
end NC
theorem vx_wk {l : Launch} {y : MethodName} {ws : List Cond} {rm : Room} {Pc : Array Value → State → Prop} {G : GG} {R R1 : Option Value → va_W → Prop} {XC : String → State → State → Prop} {mc ms : Nat} {free : Addr → Prop} (h : vx_Met l y ws rm Pc (cQ G R) XC mc ms free) (hR : ∀ v w1, R v w1 → R1 v w1) : vx_Met l y ws rm Pc (cQ G R1) XC mc ms free := by
  intro p e h1 h2 h3 s m args below hf ha hp hk
  obtain ⟨n, o, g1, g2, g3, g4⟩ := h p e h1 h2 h3 s m args below hf ha hp hk
  refine ⟨n, o, g1, g2, g3, ?_⟩
  rcases g4 with ⟨⟨⟨v, w1, e1, e2, e3⟩, e4⟩, e5⟩ | g4
  · exact Or.inl ⟨⟨⟨v, w1, e1, hR _ _ e2, e3⟩, e4⟩, e5⟩
  · exact Or.inr g4
theorem pE_cls {L : List (String × Int32)} {e : Int32} {E : String} (h : pE L e E) (hL : ∀ q ∈ L, q.1 = xI ∨ q.1 = xA ∨ q.1 = xS) : E = xI ∨ E = xA ∨ E = xS := by
  obtain ⟨v, hv, -⟩ := h
  exact hL _ hv

theorem act_catch {X : XS} {G : GG} {ret : Option FieldType} {rm : Room} {nm : String} {w : va_W} {k n pc : Nat} {lv : List (Nat × Value)} (C : Cx X G cL_act 7 RL (some .int) rm nm [⟨0, 437, 438, 106⟩, ⟨0, 437, 443, 109⟩, ⟨0, 437, 448, 112⟩]) {R : Option Value → va_W → Prop} {XP : String → va_W → Prop} {E : String} (hE : E = xI ∨ E = xA ∨ E = xS) (h1 : covers ⟨0, 437, 438, 106⟩ pc = true) (h2 : covers ⟨0, 437, 443, 109⟩ pc = true) (h3 : covers ⟨0, 437, 448, 112⟩ pc = true) (hk : k ≤ rm.cells) (hn : n ≤ rm.slots) (h : R (some (.int (xc E))) w) : VX X G 7 w k n (Tg X G rm R XP) pc lv E := by
  rcases hE with rfl | rfl | rfl
  · refine v_catch C (E := xI) [] ⟨0, 437, 438, 106⟩ [⟨0, 437, 443, 109⟩, ⟨0, 437, 448, 112⟩] rfl (fun _ h => absurd h List.not_mem_nil) h1 (by decide) (q2 152 rfl rfl) (qn1 176 rfl rfl) (fun q9 => ?_)
    refine v_astore C (lv1 := (6, .ref q9) :: lv.filter (fun q => !(q.1 == 6) && !(q.1 + 1 == 6 && q.2.category == 2))) dL_act_438 rfl (by decide) rfl ?_
    refine v_ldc C (v := -1791000000) dL_act_440 rfl N_L_108 ?_
    exact v_iret C hk hn dL_act_442 (xc_I ▸ h)
  · refine v_catch C (E := xA) [⟨0, 437, 438, 106⟩] ⟨0, 437, 443, 109⟩ [⟨0, 437, 448, 112⟩] rfl (List.forall_mem_cons.mpr ⟨⟨by decide, _, (q2 152 rfl rfl), nc_xAxI C⟩, (fun _ h => absurd h List.not_mem_nil)⟩) h2 (by decide) (q2 153 rfl rfl) (qn2 61 rfl rfl) (fun q9 => ?_)
    refine v_astore C (lv1 := (6, .ref q9) :: lv.filter (fun q => !(q.1 == 6) && !(q.1 + 1 == 6 && q.2.category == 2))) dL_act_443 rfl (by decide) rfl ?_
    refine v_ldc C (v := -1792000000) dL_act_445 rfl N_L_111 ?_
    exact v_iret C hk hn dL_act_447 (xc_A ▸ h)
  · refine v_catch C (E := xS) [⟨0, 437, 438, 106⟩, ⟨0, 437, 443, 109⟩] ⟨0, 437, 448, 112⟩ [] rfl (List.forall_mem_cons.mpr ⟨⟨by decide, _, (q2 152 rfl rfl), nc_xSxI C⟩, (List.forall_mem_cons.mpr ⟨⟨by decide, _, (q2 153 rfl rfl), nc_xSxA C⟩, (fun _ h => absurd h List.not_mem_nil)⟩)⟩) h3 (by decide) (q2 154 rfl rfl) (qn2 165 rfl rfl) (fun q9 => ?_)
    refine v_astore C (lv1 := (6, .ref q9) :: lv.filter (fun q => !(q.1 == 6) && !(q.1 + 1 == 6 && q.2.category == 2))) dL_act_448 rfl (by decide) rfl ?_
    refine v_ldc C (v := -1793000000) dL_act_450 rfl N_L_114 ?_
    exact v_iret C hk hn dL_act_452 (xc_S ▸ h)

theorem act_s0 {X : XS} {G : GG} {ret : Option FieldType} {rm : Room} {nm : String} {tb : List ExceptionTableEntry} {w : va_W} {k n o : Nat} {Q : State → Prop} {x p0 p1 p2 p3 : Int32} (C : Cx X G cL_act 7 RL ret rm nm tb) (hx : ¬ x = 0) (kk : V X G 7 w k n Q 15 [(0, .ref o), (1, .int x), (2, .int p0), (3, .int p1), (4, .int p2), (5, .int p3)] []) : V X G 7 w k n Q 0 [(0, .ref o), (1, .int x), (2, .int p0), (3, .int p1), (4, .int p2), (5, .int p3)] [] := by
  refine v_iload_n C dL_act_0 rfl 1 rfl ?_
  exact v_if_ne C (t := 15) dL_act_1 rfl rfl (fun _ => kk) (fun h => absurd h hx)

theorem act_s1 {X : XS} {G : GG} {ret : Option FieldType} {rm : Room} {nm : String} {tb : List ExceptionTableEntry} {w : va_W} {k n o : Nat} {Q : State → Prop} {x p0 p1 p2 p3 : Int32} (C : Cx X G cL_act 7 RL ret rm nm tb) (hx : ¬ x = 1) (kk : V X G 7 w k n Q 28 [(0, .ref o), (1, .int x), (2, .int p0), (3, .int p1), (4, .int p2), (5, .int p3)] []) : V X G 7 w k n Q 15 [(0, .ref o), (1, .int x), (2, .int p0), (3, .int p1), (4, .int p2), (5, .int p3)] [] := by
  refine v_iload_n C dL_act_15 rfl 1 rfl ?_
  refine v_iconst C (v := 1) dL_act_16 rfl rfl ?_
  exact v_icmp_ne C (t := 28) dL_act_17 rfl rfl (fun _ => kk) (fun h => absurd h hx)

theorem act_s2 {X : XS} {G : GG} {ret : Option FieldType} {rm : Room} {nm : String} {tb : List ExceptionTableEntry} {w : va_W} {k n o : Nat} {Q : State → Prop} {x p0 p1 p2 p3 : Int32} (C : Cx X G cL_act 7 RL ret rm nm tb) (hx : ¬ x = 2) (kk : V X G 7 w k n Q 42 [(0, .ref o), (1, .int x), (2, .int p0), (3, .int p1), (4, .int p2), (5, .int p3)] []) : V X G 7 w k n Q 28 [(0, .ref o), (1, .int x), (2, .int p0), (3, .int p1), (4, .int p2), (5, .int p3)] [] := by
  refine v_iload_n C dL_act_28 rfl 1 rfl ?_
  refine v_iconst C (v := 2) dL_act_29 rfl rfl ?_
  exact v_icmp_ne C (t := 42) dL_act_30 rfl rfl (fun _ => kk) (fun h => absurd h hx)

theorem act_s3 {X : XS} {G : GG} {ret : Option FieldType} {rm : Room} {nm : String} {tb : List ExceptionTableEntry} {w : va_W} {k n o : Nat} {Q : State → Prop} {x p0 p1 p2 p3 : Int32} (C : Cx X G cL_act 7 RL ret rm nm tb) (hx : ¬ x = 3) (kk : V X G 7 w k n Q 55 [(0, .ref o), (1, .int x), (2, .int p0), (3, .int p1), (4, .int p2), (5, .int p3)] []) : V X G 7 w k n Q 42 [(0, .ref o), (1, .int x), (2, .int p0), (3, .int p1), (4, .int p2), (5, .int p3)] [] := by
  refine v_iload_n C dL_act_42 rfl 1 rfl ?_
  refine v_iconst C (v := 3) dL_act_43 rfl rfl ?_
  exact v_icmp_ne C (t := 55) dL_act_44 rfl rfl (fun _ => kk) (fun h => absurd h hx)

theorem act_s4 {X : XS} {G : GG} {ret : Option FieldType} {rm : Room} {nm : String} {tb : List ExceptionTableEntry} {w : va_W} {k n o : Nat} {Q : State → Prop} {x p0 p1 p2 p3 : Int32} (C : Cx X G cL_act 7 RL ret rm nm tb) (hx : ¬ x = 4) (kk : V X G 7 w k n Q 81 [(0, .ref o), (1, .int x), (2, .int p0), (3, .int p1), (4, .int p2), (5, .int p3)] []) : V X G 7 w k n Q 55 [(0, .ref o), (1, .int x), (2, .int p0), (3, .int p1), (4, .int p2), (5, .int p3)] [] := by
  refine v_iload_n C dL_act_55 rfl 1 rfl ?_
  refine v_iconst C (v := 4) dL_act_56 rfl rfl ?_
  exact v_icmp_ne C (t := 81) dL_act_57 rfl rfl (fun _ => kk) (fun h => absurd h hx)

theorem act_s5 {X : XS} {G : GG} {ret : Option FieldType} {rm : Room} {nm : String} {tb : List ExceptionTableEntry} {w : va_W} {k n o : Nat} {Q : State → Prop} {x p0 p1 p2 p3 : Int32} (C : Cx X G cL_act 7 RL ret rm nm tb) (hx : ¬ x = 5) (kk : V X G 7 w k n Q 97 [(0, .ref o), (1, .int x), (2, .int p0), (3, .int p1), (4, .int p2), (5, .int p3)] []) : V X G 7 w k n Q 81 [(0, .ref o), (1, .int x), (2, .int p0), (3, .int p1), (4, .int p2), (5, .int p3)] [] := by
  refine v_iload_n C dL_act_81 rfl 1 rfl ?_
  refine v_iconst C (v := 5) dL_act_82 rfl rfl ?_
  exact v_icmp_ne C (t := 97) dL_act_83 rfl rfl (fun _ => kk) (fun h => absurd h hx)

theorem act_s6 {X : XS} {G : GG} {ret : Option FieldType} {rm : Room} {nm : String} {tb : List ExceptionTableEntry} {w : va_W} {k n o : Nat} {Q : State → Prop} {x p0 p1 p2 p3 : Int32} (C : Cx X G cL_act 7 RL ret rm nm tb) (hx : ¬ x = 6) (kk : V X G 7 w k n Q 112 [(0, .ref o), (1, .int x), (2, .int p0), (3, .int p1), (4, .int p2), (5, .int p3)] []) : V X G 7 w k n Q 97 [(0, .ref o), (1, .int x), (2, .int p0), (3, .int p1), (4, .int p2), (5, .int p3)] [] := by
  refine v_iload_n C dL_act_97 rfl 1 rfl ?_
  refine v_bipush C (v := 6) dL_act_98 rfl rfl ?_
  exact v_icmp_ne C (t := 112) dL_act_100 rfl rfl (fun _ => kk) (fun h => absurd h hx)

theorem act_s7 {X : XS} {G : GG} {ret : Option FieldType} {rm : Room} {nm : String} {tb : List ExceptionTableEntry} {w : va_W} {k n o : Nat} {Q : State → Prop} {x p0 p1 p2 p3 : Int32} (C : Cx X G cL_act 7 RL ret rm nm tb) (hx : ¬ x = 7) (kk : V X G 7 w k n Q 129 [(0, .ref o), (1, .int x), (2, .int p0), (3, .int p1), (4, .int p2), (5, .int p3)] []) : V X G 7 w k n Q 112 [(0, .ref o), (1, .int x), (2, .int p0), (3, .int p1), (4, .int p2), (5, .int p3)] [] := by
  refine v_iload_n C dL_act_112 rfl 1 rfl ?_
  refine v_bipush C (v := 7) dL_act_113 rfl rfl ?_
  exact v_icmp_ne C (t := 129) dL_act_115 rfl rfl (fun _ => kk) (fun h => absurd h hx)

theorem act_s8 {X : XS} {G : GG} {ret : Option FieldType} {rm : Room} {nm : String} {tb : List ExceptionTableEntry} {w : va_W} {k n o : Nat} {Q : State → Prop} {x p0 p1 p2 p3 : Int32} (C : Cx X G cL_act 7 RL ret rm nm tb) (hx : ¬ x = 8) (kk : V X G 7 w k n Q 143 [(0, .ref o), (1, .int x), (2, .int p0), (3, .int p1), (4, .int p2), (5, .int p3)] []) : V X G 7 w k n Q 129 [(0, .ref o), (1, .int x), (2, .int p0), (3, .int p1), (4, .int p2), (5, .int p3)] [] := by
  refine v_iload_n C dL_act_129 rfl 1 rfl ?_
  refine v_bipush C (v := 8) dL_act_130 rfl rfl ?_
  exact v_icmp_ne C (t := 143) dL_act_132 rfl rfl (fun _ => kk) (fun h => absurd h hx)

theorem act_s9 {X : XS} {G : GG} {ret : Option FieldType} {rm : Room} {nm : String} {tb : List ExceptionTableEntry} {w : va_W} {k n o : Nat} {Q : State → Prop} {x p0 p1 p2 p3 : Int32} (C : Cx X G cL_act 7 RL ret rm nm tb) (hx : ¬ x = 9) (kk : V X G 7 w k n Q 160 [(0, .ref o), (1, .int x), (2, .int p0), (3, .int p1), (4, .int p2), (5, .int p3)] []) : V X G 7 w k n Q 143 [(0, .ref o), (1, .int x), (2, .int p0), (3, .int p1), (4, .int p2), (5, .int p3)] [] := by
  refine v_iload_n C dL_act_143 rfl 1 rfl ?_
  refine v_bipush C (v := 9) dL_act_144 rfl rfl ?_
  exact v_icmp_ne C (t := 160) dL_act_146 rfl rfl (fun _ => kk) (fun h => absurd h hx)

theorem act_s10 {X : XS} {G : GG} {ret : Option FieldType} {rm : Room} {nm : String} {tb : List ExceptionTableEntry} {w : va_W} {k n o : Nat} {Q : State → Prop} {x p0 p1 p2 p3 : Int32} (C : Cx X G cL_act 7 RL ret rm nm tb) (hx : ¬ x = 10) (kk : V X G 7 w k n Q 175 [(0, .ref o), (1, .int x), (2, .int p0), (3, .int p1), (4, .int p2), (5, .int p3)] []) : V X G 7 w k n Q 160 [(0, .ref o), (1, .int x), (2, .int p0), (3, .int p1), (4, .int p2), (5, .int p3)] [] := by
  refine v_iload_n C dL_act_160 rfl 1 rfl ?_
  refine v_bipush C (v := 10) dL_act_161 rfl rfl ?_
  exact v_icmp_ne C (t := 175) dL_act_163 rfl rfl (fun _ => kk) (fun h => absurd h hx)

theorem act_s11 {X : XS} {G : GG} {ret : Option FieldType} {rm : Room} {nm : String} {tb : List ExceptionTableEntry} {w : va_W} {k n o : Nat} {Q : State → Prop} {x p0 p1 p2 p3 : Int32} (C : Cx X G cL_act 7 RL ret rm nm tb) (hx : ¬ x = 11) (kk : V X G 7 w k n Q 190 [(0, .ref o), (1, .int x), (2, .int p0), (3, .int p1), (4, .int p2), (5, .int p3)] []) : V X G 7 w k n Q 175 [(0, .ref o), (1, .int x), (2, .int p0), (3, .int p1), (4, .int p2), (5, .int p3)] [] := by
  refine v_iload_n C dL_act_175 rfl 1 rfl ?_
  refine v_bipush C (v := 11) dL_act_176 rfl rfl ?_
  exact v_icmp_ne C (t := 190) dL_act_178 rfl rfl (fun _ => kk) (fun h => absurd h hx)

theorem act_s12 {X : XS} {G : GG} {ret : Option FieldType} {rm : Room} {nm : String} {tb : List ExceptionTableEntry} {w : va_W} {k n o : Nat} {Q : State → Prop} {x p0 p1 p2 p3 : Int32} (C : Cx X G cL_act 7 RL ret rm nm tb) (hx : ¬ x = 12) (kk : V X G 7 w k n Q 204 [(0, .ref o), (1, .int x), (2, .int p0), (3, .int p1), (4, .int p2), (5, .int p3)] []) : V X G 7 w k n Q 190 [(0, .ref o), (1, .int x), (2, .int p0), (3, .int p1), (4, .int p2), (5, .int p3)] [] := by
  refine v_iload_n C dL_act_190 rfl 1 rfl ?_
  refine v_bipush C (v := 12) dL_act_191 rfl rfl ?_
  exact v_icmp_ne C (t := 204) dL_act_193 rfl rfl (fun _ => kk) (fun h => absurd h hx)

theorem act_s13 {X : XS} {G : GG} {ret : Option FieldType} {rm : Room} {nm : String} {tb : List ExceptionTableEntry} {w : va_W} {k n o : Nat} {Q : State → Prop} {x p0 p1 p2 p3 : Int32} (C : Cx X G cL_act 7 RL ret rm nm tb) (hx : ¬ x = 13) (kk : V X G 7 w k n Q 219 [(0, .ref o), (1, .int x), (2, .int p0), (3, .int p1), (4, .int p2), (5, .int p3)] []) : V X G 7 w k n Q 204 [(0, .ref o), (1, .int x), (2, .int p0), (3, .int p1), (4, .int p2), (5, .int p3)] [] := by
  refine v_iload_n C dL_act_204 rfl 1 rfl ?_
  refine v_bipush C (v := 13) dL_act_205 rfl rfl ?_
  exact v_icmp_ne C (t := 219) dL_act_207 rfl rfl (fun _ => kk) (fun h => absurd h hx)

theorem act_s14 {X : XS} {G : GG} {ret : Option FieldType} {rm : Room} {nm : String} {tb : List ExceptionTableEntry} {w : va_W} {k n o : Nat} {Q : State → Prop} {x p0 p1 p2 p3 : Int32} (C : Cx X G cL_act 7 RL ret rm nm tb) (hx : ¬ x = 14) (kk : V X G 7 w k n Q 234 [(0, .ref o), (1, .int x), (2, .int p0), (3, .int p1), (4, .int p2), (5, .int p3)] []) : V X G 7 w k n Q 219 [(0, .ref o), (1, .int x), (2, .int p0), (3, .int p1), (4, .int p2), (5, .int p3)] [] := by
  refine v_iload_n C dL_act_219 rfl 1 rfl ?_
  refine v_bipush C (v := 14) dL_act_220 rfl rfl ?_
  exact v_icmp_ne C (t := 234) dL_act_222 rfl rfl (fun _ => kk) (fun h => absurd h hx)

theorem act_s15 {X : XS} {G : GG} {ret : Option FieldType} {rm : Room} {nm : String} {tb : List ExceptionTableEntry} {w : va_W} {k n o : Nat} {Q : State → Prop} {x p0 p1 p2 p3 : Int32} (C : Cx X G cL_act 7 RL ret rm nm tb) (hx : ¬ x = 15) (kk : V X G 7 w k n Q 253 [(0, .ref o), (1, .int x), (2, .int p0), (3, .int p1), (4, .int p2), (5, .int p3)] []) : V X G 7 w k n Q 234 [(0, .ref o), (1, .int x), (2, .int p0), (3, .int p1), (4, .int p2), (5, .int p3)] [] := by
  refine v_iload_n C dL_act_234 rfl 1 rfl ?_
  refine v_bipush C (v := 15) dL_act_235 rfl rfl ?_
  exact v_icmp_ne C (t := 253) dL_act_237 rfl rfl (fun _ => kk) (fun h => absurd h hx)

theorem act_s16 {X : XS} {G : GG} {ret : Option FieldType} {rm : Room} {nm : String} {tb : List ExceptionTableEntry} {w : va_W} {k n o : Nat} {Q : State → Prop} {x p0 p1 p2 p3 : Int32} (C : Cx X G cL_act 7 RL ret rm nm tb) (hx : ¬ x = 16) (kk : V X G 7 w k n Q 268 [(0, .ref o), (1, .int x), (2, .int p0), (3, .int p1), (4, .int p2), (5, .int p3)] []) : V X G 7 w k n Q 253 [(0, .ref o), (1, .int x), (2, .int p0), (3, .int p1), (4, .int p2), (5, .int p3)] [] := by
  refine v_iload_n C dL_act_253 rfl 1 rfl ?_
  refine v_bipush C (v := 16) dL_act_254 rfl rfl ?_
  exact v_icmp_ne C (t := 268) dL_act_256 rfl rfl (fun _ => kk) (fun h => absurd h hx)

theorem act_s17 {X : XS} {G : GG} {ret : Option FieldType} {rm : Room} {nm : String} {tb : List ExceptionTableEntry} {w : va_W} {k n o : Nat} {Q : State → Prop} {x p0 p1 p2 p3 : Int32} (C : Cx X G cL_act 7 RL ret rm nm tb) (hx : ¬ x = 17) (kk : V X G 7 w k n Q 285 [(0, .ref o), (1, .int x), (2, .int p0), (3, .int p1), (4, .int p2), (5, .int p3)] []) : V X G 7 w k n Q 268 [(0, .ref o), (1, .int x), (2, .int p0), (3, .int p1), (4, .int p2), (5, .int p3)] [] := by
  refine v_iload_n C dL_act_268 rfl 1 rfl ?_
  refine v_bipush C (v := 17) dL_act_269 rfl rfl ?_
  exact v_icmp_ne C (t := 285) dL_act_271 rfl rfl (fun _ => kk) (fun h => absurd h hx)

theorem act_s18 {X : XS} {G : GG} {ret : Option FieldType} {rm : Room} {nm : String} {tb : List ExceptionTableEntry} {w : va_W} {k n o : Nat} {Q : State → Prop} {x p0 p1 p2 p3 : Int32} (C : Cx X G cL_act 7 RL ret rm nm tb) (hx : ¬ x = 18) (kk : V X G 7 w k n Q 299 [(0, .ref o), (1, .int x), (2, .int p0), (3, .int p1), (4, .int p2), (5, .int p3)] []) : V X G 7 w k n Q 285 [(0, .ref o), (1, .int x), (2, .int p0), (3, .int p1), (4, .int p2), (5, .int p3)] [] := by
  refine v_iload_n C dL_act_285 rfl 1 rfl ?_
  refine v_bipush C (v := 18) dL_act_286 rfl rfl ?_
  exact v_icmp_ne C (t := 299) dL_act_288 rfl rfl (fun _ => kk) (fun h => absurd h hx)

theorem act_s19 {X : XS} {G : GG} {ret : Option FieldType} {rm : Room} {nm : String} {tb : List ExceptionTableEntry} {w : va_W} {k n o : Nat} {Q : State → Prop} {x p0 p1 p2 p3 : Int32} (C : Cx X G cL_act 7 RL ret rm nm tb) (hx : ¬ x = 19) (kk : V X G 7 w k n Q 314 [(0, .ref o), (1, .int x), (2, .int p0), (3, .int p1), (4, .int p2), (5, .int p3)] []) : V X G 7 w k n Q 299 [(0, .ref o), (1, .int x), (2, .int p0), (3, .int p1), (4, .int p2), (5, .int p3)] [] := by
  refine v_iload_n C dL_act_299 rfl 1 rfl ?_
  refine v_bipush C (v := 19) dL_act_300 rfl rfl ?_
  exact v_icmp_ne C (t := 314) dL_act_302 rfl rfl (fun _ => kk) (fun h => absurd h hx)

theorem act_s20 {X : XS} {G : GG} {ret : Option FieldType} {rm : Room} {nm : String} {tb : List ExceptionTableEntry} {w : va_W} {k n o : Nat} {Q : State → Prop} {x p0 p1 p2 p3 : Int32} (C : Cx X G cL_act 7 RL ret rm nm tb) (hx : ¬ x = 20) (kk : V X G 7 w k n Q 328 [(0, .ref o), (1, .int x), (2, .int p0), (3, .int p1), (4, .int p2), (5, .int p3)] []) : V X G 7 w k n Q 314 [(0, .ref o), (1, .int x), (2, .int p0), (3, .int p1), (4, .int p2), (5, .int p3)] [] := by
  refine v_iload_n C dL_act_314 rfl 1 rfl ?_
  refine v_bipush C (v := 20) dL_act_315 rfl rfl ?_
  exact v_icmp_ne C (t := 328) dL_act_317 rfl rfl (fun _ => kk) (fun h => absurd h hx)

theorem act_s21 {X : XS} {G : GG} {ret : Option FieldType} {rm : Room} {nm : String} {tb : List ExceptionTableEntry} {w : va_W} {k n o : Nat} {Q : State → Prop} {x p0 p1 p2 p3 : Int32} (C : Cx X G cL_act 7 RL ret rm nm tb) (hx : ¬ x = 21) (kk : V X G 7 w k n Q 343 [(0, .ref o), (1, .int x), (2, .int p0), (3, .int p1), (4, .int p2), (5, .int p3)] []) : V X G 7 w k n Q 328 [(0, .ref o), (1, .int x), (2, .int p0), (3, .int p1), (4, .int p2), (5, .int p3)] [] := by
  refine v_iload_n C dL_act_328 rfl 1 rfl ?_
  refine v_bipush C (v := 21) dL_act_329 rfl rfl ?_
  exact v_icmp_ne C (t := 343) dL_act_331 rfl rfl (fun _ => kk) (fun h => absurd h hx)

theorem act_s22 {X : XS} {G : GG} {ret : Option FieldType} {rm : Room} {nm : String} {tb : List ExceptionTableEntry} {w : va_W} {k n o : Nat} {Q : State → Prop} {x p0 p1 p2 p3 : Int32} (C : Cx X G cL_act 7 RL ret rm nm tb) (hx : ¬ x = 22) (kk : V X G 7 w k n Q 358 [(0, .ref o), (1, .int x), (2, .int p0), (3, .int p1), (4, .int p2), (5, .int p3)] []) : V X G 7 w k n Q 343 [(0, .ref o), (1, .int x), (2, .int p0), (3, .int p1), (4, .int p2), (5, .int p3)] [] := by
  refine v_iload_n C dL_act_343 rfl 1 rfl ?_
  refine v_bipush C (v := 22) dL_act_344 rfl rfl ?_
  exact v_icmp_ne C (t := 358) dL_act_346 rfl rfl (fun _ => kk) (fun h => absurd h hx)

theorem act_s23 {X : XS} {G : GG} {ret : Option FieldType} {rm : Room} {nm : String} {tb : List ExceptionTableEntry} {w : va_W} {k n o : Nat} {Q : State → Prop} {x p0 p1 p2 p3 : Int32} (C : Cx X G cL_act 7 RL ret rm nm tb) (hx : ¬ x = 23) (kk : V X G 7 w k n Q 372 [(0, .ref o), (1, .int x), (2, .int p0), (3, .int p1), (4, .int p2), (5, .int p3)] []) : V X G 7 w k n Q 358 [(0, .ref o), (1, .int x), (2, .int p0), (3, .int p1), (4, .int p2), (5, .int p3)] [] := by
  refine v_iload_n C dL_act_358 rfl 1 rfl ?_
  refine v_bipush C (v := 23) dL_act_359 rfl rfl ?_
  exact v_icmp_ne C (t := 372) dL_act_361 rfl rfl (fun _ => kk) (fun h => absurd h hx)

theorem act_s24 {X : XS} {G : GG} {ret : Option FieldType} {rm : Room} {nm : String} {tb : List ExceptionTableEntry} {w : va_W} {k n o : Nat} {Q : State → Prop} {x p0 p1 p2 p3 : Int32} (C : Cx X G cL_act 7 RL ret rm nm tb) (hx : ¬ x = 24) (kk : V X G 7 w k n Q 386 [(0, .ref o), (1, .int x), (2, .int p0), (3, .int p1), (4, .int p2), (5, .int p3)] []) : V X G 7 w k n Q 372 [(0, .ref o), (1, .int x), (2, .int p0), (3, .int p1), (4, .int p2), (5, .int p3)] [] := by
  refine v_iload_n C dL_act_372 rfl 1 rfl ?_
  refine v_bipush C (v := 24) dL_act_373 rfl rfl ?_
  exact v_icmp_ne C (t := 386) dL_act_375 rfl rfl (fun _ => kk) (fun h => absurd h hx)

theorem act_s25 {X : XS} {G : GG} {ret : Option FieldType} {rm : Room} {nm : String} {tb : List ExceptionTableEntry} {w : va_W} {k n o : Nat} {Q : State → Prop} {x p0 p1 p2 p3 : Int32} (C : Cx X G cL_act 7 RL ret rm nm tb) (hx : ¬ x = 25) (kk : V X G 7 w k n Q 400 [(0, .ref o), (1, .int x), (2, .int p0), (3, .int p1), (4, .int p2), (5, .int p3)] []) : V X G 7 w k n Q 386 [(0, .ref o), (1, .int x), (2, .int p0), (3, .int p1), (4, .int p2), (5, .int p3)] [] := by
  refine v_iload_n C dL_act_386 rfl 1 rfl ?_
  refine v_bipush C (v := 25) dL_act_387 rfl rfl ?_
  exact v_icmp_ne C (t := 400) dL_act_389 rfl rfl (fun _ => kk) (fun h => absurd h hx)

theorem act_s26 {X : XS} {G : GG} {ret : Option FieldType} {rm : Room} {nm : String} {tb : List ExceptionTableEntry} {w : va_W} {k n o : Nat} {Q : State → Prop} {x p0 p1 p2 p3 : Int32} (C : Cx X G cL_act 7 RL ret rm nm tb) (hx : ¬ x = 26) (kk : V X G 7 w k n Q 414 [(0, .ref o), (1, .int x), (2, .int p0), (3, .int p1), (4, .int p2), (5, .int p3)] []) : V X G 7 w k n Q 400 [(0, .ref o), (1, .int x), (2, .int p0), (3, .int p1), (4, .int p2), (5, .int p3)] [] := by
  refine v_iload_n C dL_act_400 rfl 1 rfl ?_
  refine v_bipush C (v := 26) dL_act_401 rfl rfl ?_
  exact v_icmp_ne C (t := 414) dL_act_403 rfl rfl (fun _ => kk) (fun h => absurd h hx)

theorem act_s27 {X : XS} {G : GG} {ret : Option FieldType} {rm : Room} {nm : String} {tb : List ExceptionTableEntry} {w : va_W} {k n o : Nat} {Q : State → Prop} {x p0 p1 p2 p3 : Int32} (C : Cx X G cL_act 7 RL ret rm nm tb) (hx : ¬ x = 27) (kk : V X G 7 w k n Q 429 [(0, .ref o), (1, .int x), (2, .int p0), (3, .int p1), (4, .int p2), (5, .int p3)] []) : V X G 7 w k n Q 414 [(0, .ref o), (1, .int x), (2, .int p0), (3, .int p1), (4, .int p2), (5, .int p3)] [] := by
  refine v_iload_n C dL_act_414 rfl 1 rfl ?_
  refine v_bipush C (v := 27) dL_act_415 rfl rfl ?_
  exact v_icmp_ne C (t := 429) dL_act_417 rfl rfl (fun _ => kk) (fun h => absurd h hx)

abbrev r_L_sends : Room := { frames := 9, cells := 3, slots := 18, locals := 146 }
theorem c_L_sends {l : Launch} {G : GG} {w : va_W} {x : Nat} {p0 p1 : Int32} {fs : List Value} {R0 : Option Value → va_W → Prop} {XP : String → va_W → Prop} (hst : l.stackTraces = false) (hG : GOK G) (hm : (x, Sum.inr (7, fs)) ∈ w) (hM : Mth l yX7_freight cX7_freight 3 (Option.none : Option Jvm.ClassFile.FieldType) r_X7_freight G w (.ref x :: [.int p0, .int p1]) R0 XP) (hR : ∀ v w1, R0 v w1 → v = none) : Mth l yL_sends cL_sends 3 (Option.some Jvm.ClassFile.FieldType.int) r_L_sends G w (.ref x :: [.int p0, .int p1]) (fun v w1 => v = some (.int 0) ∧ R0 none w1) XP := by
  refine mth_of rfl (Nat.le_of_ble_eq_true rfl) hst hG (fun X hX C0 => ?_)
  subst hX
  have C : Cx X G cL_sends 3 RL (Option.some Jvm.ClassFile.FieldType.int) r_L_sends "sends" [] := C0
  clear C0
  show V X G 3 w 0 0 _ 0 [(0, .ref x), (1, .int p0), (2, .int p1)] []
  refine v_aload_n C dL_sends_0 rfl 0 rfl ?_
  refine v_iload_n C dL_sends_1 rfl 1 rfl ?_
  refine v_iload_n C dL_sends_2 rfl 2 rfl ?_
  refine w_invV C [.int p0, .int p1] 3 18 L_L_115 hM hm rfl rfl rfl rfl dL_sends_3 rfl (kx_out C (by decide) (fun _ _ h => h)) (fun v w0 hv => ?_)
  obtain rfl := hR _ _ hv
  show V X G 3 _ _ _ _ _ _ []
  refine v_iconst C (v := 0) dL_sends_6 rfl rfl ?_
  exact v_iret C (by decide) (by decide) dL_sends_7 ⟨rfl, hv⟩

abbrev r_L_backs : Room := { frames := 9, cells := 6, slots := 36, locals := 150 }
theorem c_L_backs {l : Launch} {G : GG} {w : va_W} {x : Nat} {p0 p1 p2 p3 : Int32} {fs : List Value} {R0 : Option Value → va_W → Prop} {XP : String → va_W → Prop} (hst : l.stackTraces = false) (hG : GOK G) (hm : (x, Sum.inr (7, fs)) ∈ w) (hM : Mth l yX7_back cX7_back 7 (Option.none : Option Jvm.ClassFile.FieldType) r_X7_back G w (.ref x :: [.int p0, .int p1, .int p2, .int p3]) R0 XP) (hR : ∀ v w1, R0 v w1 → v = none) : Mth l yL_backs cL_backs 5 (Option.some Jvm.ClassFile.FieldType.int) r_L_backs G w (.ref x :: [.int p0, .int p1, .int p2, .int p3]) (fun v w1 => v = some (.int 0) ∧ R0 none w1) XP := by
  refine mth_of rfl (Nat.le_of_ble_eq_true rfl) hst hG (fun X hX C0 => ?_)
  subst hX
  have C : Cx X G cL_backs 5 RL (Option.some Jvm.ClassFile.FieldType.int) r_L_backs "backs" [] := C0
  clear C0
  show V X G 5 w 0 0 _ 0 [(0, .ref x), (1, .int p0), (2, .int p1), (3, .int p2), (4, .int p3)] []
  refine v_aload_n C dL_backs_0 rfl 0 rfl ?_
  refine v_iload_n C dL_backs_1 rfl 1 rfl ?_
  refine v_iload_n C dL_backs_2 rfl 2 rfl ?_
  refine v_iload_n C dL_backs_3 rfl 3 rfl ?_
  refine v_iload C dL_backs_4 rfl 4 rfl ?_
  refine w_invV C [.int p0, .int p1, .int p2, .int p3] 6 36 L_L_119 hM hm rfl rfl rfl rfl dL_backs_6 rfl (kx_out C (by decide) (fun _ _ h => h)) (fun v w0 hv => ?_)
  obtain rfl := hR _ _ hv
  show V X G 5 _ _ _ _ _ _ []
  refine v_iconst C (v := 0) dL_backs_9 rfl rfl ?_
  exact v_iret C (by decide) (by decide) dL_backs_10 ⟨rfl, hv⟩

abbrev r_L_act : Room := { frames := 10, cells := 7, slots := 119, locals := 174 }
def ActM (l : Launch) (G : GG) (w : va_W) (av : List Value) (R : Option Value → va_W → Prop) : Prop := vx_Met l yL_act (Cond.codeWith yL_act cL_act 7 (some .int) [((0 : Nat), (437 : Nat), (438 : Nat), (106 : Nat)), ((0 : Nat), (437 : Nat), (443 : Nat), (109 : Nat)), ((0 : Nat), (437 : Nat), (448 : Nat), (112 : Nat))] :: wA) r_L_act (cP G w av) (cQ G R) (cX G nX) r_L_act.cells r_L_act.slots (gA G)
theorem ac_ground {l : Launch} {G : GG} {w : va_W} {o : Nat} {p0 p1 p2 p3 : Int32} {fs : List Value} {R0 : Option Value → va_W → Prop} {XP : String → va_W → Prop} (hst : l.stackTraces = false) (hG : GOK G) (hm : (o, Sum.inr (7, fs)) ∈ w) (hM : Mth l yX7_ground cX7_ground 5 (Option.some Jvm.ClassFile.FieldType.int) r_X7_ground G w (.ref o :: [.int p0, .int p1, .int p2]) R0 XP) (hX : ∀ E w1, XP E w1 → E = xI ∨ E = xA ∨ E = xS) (hR : ∀ v w1, R0 v w1 → ∃ b : Int32, v = some (.int b)) : ActM l G w [.ref o, .int 0, .int p0, .int p1, .int p2, .int p3] (fun v w1 => R0 v w1 ∨ ∃ E, XP E w1 ∧ v = some (.int (xc E))) := by
  refine mth_ofH rfl (Nat.le_of_ble_eq_true rfl) hst hG (fun X hX0 C0 => ?_)
  subst hX0
  have C : Cx X G cL_act 7 RL (some .int) r_L_act "act" [⟨0, 437, 438, 106⟩, ⟨0, 437, 443, 109⟩, ⟨0, 437, 448, 112⟩] := C0
  clear C0
  show V X G 7 w 0 0 _ 0 [(0, .ref o), (1, .int 0), (2, .int p0), (3, .int p1), (4, .int p2), (5, .int p3)] []
  refine v_iload_n C dL_act_0 rfl 1 rfl ?_
  refine v_if_ne C (t := 15) dL_act_1 rfl rfl (fun h => absurd rfl h) (fun _ => ?_)
  refine v_aload_n C dL_act_4 rfl 0 rfl ?_
  refine v_iload_n C dL_act_5 rfl 2 rfl ?_
  refine v_iload_n C dL_act_6 rfl 3 rfl ?_
  refine v_iload C dL_act_7 rfl 4 rfl ?_
  refine w_invV C [.int p0, .int p1, .int p2] 4 24 L_L_9 hM hm rfl rfl rfl rfl dL_act_9 rfl (fun E w9 hx => act_catch (ret := none) C (hX _ _ hx) rfl rfl rfl (by decide) (by decide) (Or.inr ⟨E, hx, rfl⟩)) (fun v w0 hv => ?_)
  obtain ⟨b, rfl⟩ := hR _ _ hv
  show V X G 7 _ _ _ _ _ _ [.int b]
  refine v_goto C (q := 437) dL_act_12 rfl ?_
  exact v_iret C (by decide) (by decide) dL_act_437 (Or.inl hv)

theorem ac_flow {l : Launch} {G : GG} {w : va_W} {o : Nat} {p0 p1 p2 p3 : Int32} {fs : List Value} {R0 : Option Value → va_W → Prop} {XP : String → va_W → Prop} (hst : l.stackTraces = false) (hG : GOK G) (hm : (o, Sum.inr (7, fs)) ∈ w) (hM : Mth l yX7_flow cX7_flow 3 (Option.some Jvm.ClassFile.FieldType.int) r_X7_flow G w (.ref o :: [.int p0]) R0 XP) (hX : ∀ E w1, XP E w1 → E = xI ∨ E = xA ∨ E = xS) (hR : ∀ v w1, R0 v w1 → ∃ b : Int32, v = some (.int b)) : ActM l G w [.ref o, .int 1, .int p0, .int p1, .int p2, .int p3] (fun v w1 => R0 v w1 ∨ ∃ E, XP E w1 ∧ v = some (.int (xc E))) := by
  refine mth_ofH rfl (Nat.le_of_ble_eq_true rfl) hst hG (fun X hX0 C0 => ?_)
  subst hX0
  have C : Cx X G cL_act 7 RL (some .int) r_L_act "act" [⟨0, 437, 438, 106⟩, ⟨0, 437, 443, 109⟩, ⟨0, 437, 448, 112⟩] := C0
  clear C0
  show V X G 7 w 0 0 _ 0 [(0, .ref o), (1, .int 1), (2, .int p0), (3, .int p1), (4, .int p2), (5, .int p3)] []
  refine act_s0 C (by decide) ?_
  refine v_iload_n C dL_act_15 rfl 1 rfl ?_
  refine v_iconst C (v := 1) dL_act_16 rfl rfl ?_
  refine v_icmp_ne C (t := 28) dL_act_17 rfl rfl (fun h => absurd rfl h) (fun _ => ?_)
  refine v_aload_n C dL_act_20 rfl 0 rfl ?_
  refine v_iload_n C dL_act_21 rfl 2 rfl ?_
  refine w_invV C [.int p0] 1 6 L_L_15 hM hm rfl rfl rfl rfl dL_act_22 rfl (fun E w9 hx => act_catch (ret := none) C (hX _ _ hx) rfl rfl rfl (by decide) (by decide) (Or.inr ⟨E, hx, rfl⟩)) (fun v w0 hv => ?_)
  obtain ⟨b, rfl⟩ := hR _ _ hv
  show V X G 7 _ _ _ _ _ _ [.int b]
  refine v_goto C (q := 437) dL_act_25 rfl ?_
  exact v_iret C (by decide) (by decide) dL_act_437 (Or.inl hv)

theorem ac_miner {l : Launch} {G : GG} {w : va_W} {o : Nat} {p0 p1 p2 p3 : Int32} {fs : List Value} {R0 : Option Value → va_W → Prop} {XP : String → va_W → Prop} (hst : l.stackTraces = false) (hG : GOK G) (hm : (o, Sum.inr (7, fs)) ∈ w) (hM : Mth l yX7_miner cX7_miner 3 (Option.some Jvm.ClassFile.FieldType.int) r_X7_miner G w (.ref o :: [.int p0, .int p1]) R0 XP) (hX : ∀ E w1, XP E w1 → E = xI ∨ E = xA ∨ E = xS) (hR : ∀ v w1, R0 v w1 → ∃ b : Int32, v = some (.int b)) : ActM l G w [.ref o, .int 2, .int p0, .int p1, .int p2, .int p3] (fun v w1 => R0 v w1 ∨ ∃ E, XP E w1 ∧ v = some (.int (xc E))) := by
  refine mth_ofH rfl (Nat.le_of_ble_eq_true rfl) hst hG (fun X hX0 C0 => ?_)
  subst hX0
  have C : Cx X G cL_act 7 RL (some .int) r_L_act "act" [⟨0, 437, 438, 106⟩, ⟨0, 437, 443, 109⟩, ⟨0, 437, 448, 112⟩] := C0
  clear C0
  show V X G 7 w 0 0 _ 0 [(0, .ref o), (1, .int 2), (2, .int p0), (3, .int p1), (4, .int p2), (5, .int p3)] []
  refine act_s0 C (by decide) ?_
  refine act_s1 C (by decide) ?_
  refine v_iload_n C dL_act_28 rfl 1 rfl ?_
  refine v_iconst C (v := 2) dL_act_29 rfl rfl ?_
  refine v_icmp_ne C (t := 42) dL_act_30 rfl rfl (fun h => absurd rfl h) (fun _ => ?_)
  refine v_aload_n C dL_act_33 rfl 0 rfl ?_
  refine v_iload_n C dL_act_34 rfl 2 rfl ?_
  refine v_iload_n C dL_act_35 rfl 3 rfl ?_
  refine w_invV C [.int p0, .int p1] 7 119 L_L_19 hM hm rfl rfl rfl rfl dL_act_36 rfl (fun E w9 hx => act_catch (ret := none) C (hX _ _ hx) rfl rfl rfl (by decide) (by decide) (Or.inr ⟨E, hx, rfl⟩)) (fun v w0 hv => ?_)
  obtain ⟨b, rfl⟩ := hR _ _ hv
  show V X G 7 _ _ _ _ _ _ [.int b]
  refine v_goto C (q := 437) dL_act_39 rfl ?_
  exact v_iret C (by decide) (by decide) dL_act_437 (Or.inl hv)

theorem ac_pass {l : Launch} {G : GG} {w : va_W} {o : Nat} {p0 p1 p2 p3 : Int32} {fs : List Value} {R0 : Option Value → va_W → Prop} {XP : String → va_W → Prop} (hst : l.stackTraces = false) (hG : GOK G) (hm : (o, Sum.inr (7, fs)) ∈ w) (hM : Mth l yX7_pass cX7_pass 3 (Option.some Jvm.ClassFile.FieldType.int) r_X7_pass G w (.ref o :: [.int p0]) R0 XP) (hX : ∀ E w1, XP E w1 → E = xI ∨ E = xA ∨ E = xS) (hR : ∀ v w1, R0 v w1 → ∃ b : Int32, v = some (.int b)) : ActM l G w [.ref o, .int 3, .int p0, .int p1, .int p2, .int p3] (fun v w1 => R0 v w1 ∨ ∃ E, XP E w1 ∧ v = some (.int (xc E))) := by
  refine mth_ofH rfl (Nat.le_of_ble_eq_true rfl) hst hG (fun X hX0 C0 => ?_)
  subst hX0
  have C : Cx X G cL_act 7 RL (some .int) r_L_act "act" [⟨0, 437, 438, 106⟩, ⟨0, 437, 443, 109⟩, ⟨0, 437, 448, 112⟩] := C0
  clear C0
  show V X G 7 w 0 0 _ 0 [(0, .ref o), (1, .int 3), (2, .int p0), (3, .int p1), (4, .int p2), (5, .int p3)] []
  refine act_s0 C (by decide) ?_
  refine act_s1 C (by decide) ?_
  refine act_s2 C (by decide) ?_
  refine v_iload_n C dL_act_42 rfl 1 rfl ?_
  refine v_iconst C (v := 3) dL_act_43 rfl rfl ?_
  refine v_icmp_ne C (t := 55) dL_act_44 rfl rfl (fun h => absurd rfl h) (fun _ => ?_)
  refine v_aload_n C dL_act_47 rfl 0 rfl ?_
  refine v_iload_n C dL_act_48 rfl 2 rfl ?_
  refine w_invV C [.int p0] 2 12 L_L_23 hM hm rfl rfl rfl rfl dL_act_49 rfl (fun E w9 hx => act_catch (ret := none) C (hX _ _ hx) rfl rfl rfl (by decide) (by decide) (Or.inr ⟨E, hx, rfl⟩)) (fun v w0 hv => ?_)
  obtain ⟨b, rfl⟩ := hR _ _ hv
  show V X G 7 _ _ _ _ _ _ [.int b]
  refine v_goto C (q := 437) dL_act_52 rfl ?_
  exact v_iret C (by decide) (by decide) dL_act_437 (Or.inl hv)

theorem ac_meet {l : Launch} {G : GG} {w : va_W} {o : Nat} {p0 p1 p2 p3 : Int32} {fs : List Value} {R0 : Option Value → va_W → Prop} {XP : String → va_W → Prop} (hst : l.stackTraces = false) (hG : GOK G) (hm : (o, Sum.inr (7, fs)) ∈ w) (hM : Mth l yX7_meet cX7_meet 6 (Option.some Jvm.ClassFile.FieldType.boolean) r_X7_meet G w (.ref o :: [.int p0, .int p1, .int p2, .int p3]) R0 XP) (hX : ∀ E w1, XP E w1 → E = xI ∨ E = xA ∨ E = xS) (hR : ∀ v w1, R0 v w1 → ∃ b : Int32, v = some (.int b)) : ActM l G w [.ref o, .int 4, .int p0, .int p1, .int p2, .int p3] (fun v w1 => (∃ b : Int32, R0 (some (.int b)) w1 ∧ v = some (.int (if b = 0 then 0 else 1))) ∨ ∃ E, XP E w1 ∧ v = some (.int (xc E))) := by
  refine mth_ofH rfl (Nat.le_of_ble_eq_true rfl) hst hG (fun X hX0 C0 => ?_)
  subst hX0
  have C : Cx X G cL_act 7 RL (some .int) r_L_act "act" [⟨0, 437, 438, 106⟩, ⟨0, 437, 443, 109⟩, ⟨0, 437, 448, 112⟩] := C0
  clear C0
  show V X G 7 w 0 0 _ 0 [(0, .ref o), (1, .int 4), (2, .int p0), (3, .int p1), (4, .int p2), (5, .int p3)] []
  refine act_s0 C (by decide) ?_
  refine act_s1 C (by decide) ?_
  refine act_s2 C (by decide) ?_
  refine act_s3 C (by decide) ?_
  refine v_iload_n C dL_act_55 rfl 1 rfl ?_
  refine v_iconst C (v := 4) dL_act_56 rfl rfl ?_
  refine v_icmp_ne C (t := 81) dL_act_57 rfl rfl (fun h => absurd rfl h) (fun _ => ?_)
  refine v_aload_n C dL_act_60 rfl 0 rfl ?_
  refine v_iload_n C dL_act_61 rfl 2 rfl ?_
  refine v_iload_n C dL_act_62 rfl 3 rfl ?_
  refine v_iload C dL_act_63 rfl 4 rfl ?_
  refine v_iload C dL_act_65 rfl 5 rfl ?_
  refine w_invV C [.int p0, .int p1, .int p2, .int p3] 5 30 L_L_26 hM hm rfl rfl rfl rfl dL_act_67 rfl (fun E w9 hx => act_catch (ret := none) C (hX _ _ hx) rfl rfl rfl (by decide) (by decide) (Or.inr ⟨E, hx, rfl⟩)) (fun v w0 hv => ?_)
  obtain ⟨b, rfl⟩ := hR _ _ hv
  show V X G 7 _ _ _ _ _ _ [.int b]
  refine v_if_eq C (t := 77) dL_act_70 rfl rfl (fun h => ?_) (fun h => ?_)
  · refine v_iconst C (v := 0) dL_act_77 rfl rfl ?_
    refine v_goto C (q := 437) dL_act_78 rfl ?_
    exact v_iret C (by decide) (by decide) dL_act_437 (Or.inl ⟨b, hv, by rw [if_pos h]⟩)
  · refine v_iconst C (v := 1) dL_act_73 rfl rfl ?_
    refine v_goto C (q := 437) dL_act_74 rfl ?_
    exact v_iret C (by decide) (by decide) dL_act_437 (Or.inl ⟨b, hv, by rw [if_neg h]⟩)

theorem ac_peg {l : Launch} {G : GG} {w : va_W} {o : Nat} {p0 p1 p2 p3 : Int32} {fs : List Value} {R0 : Option Value → va_W → Prop} {XP : String → va_W → Prop} (hst : l.stackTraces = false) (hG : GOK G) (hm : (o, Sum.inr (7, fs)) ∈ w) (hM : Mth l yX7_peg cX7_peg 5 (Option.some Jvm.ClassFile.FieldType.int) r_X7_peg G w (.ref o :: [.int p0, .int p1, .int p2]) R0 XP) (hX : ∀ E w1, XP E w1 → E = xI ∨ E = xA ∨ E = xS) (hR : ∀ v w1, R0 v w1 → ∃ b : Int32, v = some (.int b)) : ActM l G w [.ref o, .int 5, .int p0, .int p1, .int p2, .int p3] (fun v w1 => R0 v w1 ∨ ∃ E, XP E w1 ∧ v = some (.int (xc E))) := by
  refine mth_ofH rfl (Nat.le_of_ble_eq_true rfl) hst hG (fun X hX0 C0 => ?_)
  subst hX0
  have C : Cx X G cL_act 7 RL (some .int) r_L_act "act" [⟨0, 437, 438, 106⟩, ⟨0, 437, 443, 109⟩, ⟨0, 437, 448, 112⟩] := C0
  clear C0
  show V X G 7 w 0 0 _ 0 [(0, .ref o), (1, .int 5), (2, .int p0), (3, .int p1), (4, .int p2), (5, .int p3)] []
  refine act_s0 C (by decide) ?_
  refine act_s1 C (by decide) ?_
  refine act_s2 C (by decide) ?_
  refine act_s3 C (by decide) ?_
  refine act_s4 C (by decide) ?_
  refine v_iload_n C dL_act_81 rfl 1 rfl ?_
  refine v_iconst C (v := 5) dL_act_82 rfl rfl ?_
  refine v_icmp_ne C (t := 97) dL_act_83 rfl rfl (fun h => absurd rfl h) (fun _ => ?_)
  refine v_aload_n C dL_act_86 rfl 0 rfl ?_
  refine v_iload_n C dL_act_87 rfl 2 rfl ?_
  refine v_iload_n C dL_act_88 rfl 3 rfl ?_
  refine v_iload C dL_act_89 rfl 4 rfl ?_
  refine w_invV C [.int p0, .int p1, .int p2] 7 81 L_L_30 hM hm rfl rfl rfl rfl dL_act_91 rfl (fun E w9 hx => act_catch (ret := none) C (hX _ _ hx) rfl rfl rfl (by decide) (by decide) (Or.inr ⟨E, hx, rfl⟩)) (fun v w0 hv => ?_)
  obtain ⟨b, rfl⟩ := hR _ _ hv
  show V X G 7 _ _ _ _ _ _ [.int b]
  refine v_goto C (q := 437) dL_act_94 rfl ?_
  exact v_iret C (by decide) (by decide) dL_act_437 (Or.inl hv)

theorem ac_right {l : Launch} {G : GG} {w : va_W} {o : Nat} {p0 p1 p2 p3 : Int32} {fs : List Value} {R0 : Option Value → va_W → Prop} {XP : String → va_W → Prop} (hst : l.stackTraces = false) (hG : GOK G) (hm : (o, Sum.inr (7, fs)) ∈ w) (hM : Mth l yX7_right cX7_right 4 (Option.some Jvm.ClassFile.FieldType.int) r_X7_right G w (.ref o :: [.int p0, .int p1]) R0 XP) (hX : ∀ E w1, XP E w1 → E = xI ∨ E = xA ∨ E = xS) (hR : ∀ v w1, R0 v w1 → ∃ b : Int32, v = some (.int b)) : ActM l G w [.ref o, .int 6, .int p0, .int p1, .int p2, .int p3] (fun v w1 => R0 v w1 ∨ ∃ E, XP E w1 ∧ v = some (.int (xc E))) := by
  refine mth_ofH rfl (Nat.le_of_ble_eq_true rfl) hst hG (fun X hX0 C0 => ?_)
  subst hX0
  have C : Cx X G cL_act 7 RL (some .int) r_L_act "act" [⟨0, 437, 438, 106⟩, ⟨0, 437, 443, 109⟩, ⟨0, 437, 448, 112⟩] := C0
  clear C0
  show V X G 7 w 0 0 _ 0 [(0, .ref o), (1, .int 6), (2, .int p0), (3, .int p1), (4, .int p2), (5, .int p3)] []
  refine act_s0 C (by decide) ?_
  refine act_s1 C (by decide) ?_
  refine act_s2 C (by decide) ?_
  refine act_s3 C (by decide) ?_
  refine act_s4 C (by decide) ?_
  refine act_s5 C (by decide) ?_
  refine v_iload_n C dL_act_97 rfl 1 rfl ?_
  refine v_bipush C (v := 6) dL_act_98 rfl rfl ?_
  refine v_icmp_ne C (t := 112) dL_act_100 rfl rfl (fun h => absurd rfl h) (fun _ => ?_)
  refine v_aload_n C dL_act_103 rfl 0 rfl ?_
  refine v_iload_n C dL_act_104 rfl 2 rfl ?_
  refine v_iload_n C dL_act_105 rfl 3 rfl ?_
  refine w_invV C [.int p0, .int p1] 5 60 L_L_33 hM hm rfl rfl rfl rfl dL_act_106 rfl (fun E w9 hx => act_catch (ret := none) C (hX _ _ hx) rfl rfl rfl (by decide) (by decide) (Or.inr ⟨E, hx, rfl⟩)) (fun v w0 hv => ?_)
  obtain ⟨b, rfl⟩ := hR _ _ hv
  show V X G 7 _ _ _ _ _ _ [.int b]
  refine v_goto C (q := 437) dL_act_109 rfl ?_
  exact v_iret C (by decide) (by decide) dL_act_437 (Or.inl hv)

theorem ac_work {l : Launch} {G : GG} {w : va_W} {o : Nat} {p0 p1 p2 p3 : Int32} {fs : List Value} {R0 : Option Value → va_W → Prop} {XP : String → va_W → Prop} (hst : l.stackTraces = false) (hG : GOK G) (hm : (o, Sum.inr (7, fs)) ∈ w) (hM : Mth l yX7_work cX7_work 8 (Option.some Jvm.ClassFile.FieldType.int) r_X7_work G w (.ref o :: [.int p0, .int p1, .int p2]) R0 XP) (hX : ∀ E w1, XP E w1 → E = xI ∨ E = xA ∨ E = xS) (hR : ∀ v w1, R0 v w1 → ∃ b : Int32, v = some (.int b)) : ActM l G w [.ref o, .int 7, .int p0, .int p1, .int p2, .int p3] (fun v w1 => R0 v w1 ∨ ∃ E, XP E w1 ∧ v = some (.int (xc E))) := by
  refine mth_ofH rfl (Nat.le_of_ble_eq_true rfl) hst hG (fun X hX0 C0 => ?_)
  subst hX0
  have C : Cx X G cL_act 7 RL (some .int) r_L_act "act" [⟨0, 437, 438, 106⟩, ⟨0, 437, 443, 109⟩, ⟨0, 437, 448, 112⟩] := C0
  clear C0
  show V X G 7 w 0 0 _ 0 [(0, .ref o), (1, .int 7), (2, .int p0), (3, .int p1), (4, .int p2), (5, .int p3)] []
  refine act_s0 C (by decide) ?_
  refine act_s1 C (by decide) ?_
  refine act_s2 C (by decide) ?_
  refine act_s3 C (by decide) ?_
  refine act_s4 C (by decide) ?_
  refine act_s5 C (by decide) ?_
  refine act_s6 C (by decide) ?_
  refine v_iload_n C dL_act_112 rfl 1 rfl ?_
  refine v_bipush C (v := 7) dL_act_113 rfl rfl ?_
  refine v_icmp_ne C (t := 129) dL_act_115 rfl rfl (fun h => absurd rfl h) (fun _ => ?_)
  refine v_aload_n C dL_act_118 rfl 0 rfl ?_
  refine v_iload_n C dL_act_119 rfl 2 rfl ?_
  refine v_iload_n C dL_act_120 rfl 3 rfl ?_
  refine v_iload C dL_act_121 rfl 4 rfl ?_
  refine w_invV C [.int p0, .int p1, .int p2] 6 36 L_L_36 hM hm rfl rfl rfl rfl dL_act_123 rfl (fun E w9 hx => act_catch (ret := none) C (hX _ _ hx) rfl rfl rfl (by decide) (by decide) (Or.inr ⟨E, hx, rfl⟩)) (fun v w0 hv => ?_)
  obtain ⟨b, rfl⟩ := hR _ _ hv
  show V X G 7 _ _ _ _ _ _ [.int b]
  refine v_goto C (q := 437) dL_act_126 rfl ?_
  exact v_iret C (by decide) (by decide) dL_act_437 (Or.inl hv)

theorem ac_sample {l : Launch} {G : GG} {w : va_W} {o : Nat} {p0 p1 p2 p3 : Int32} {fs : List Value} {R0 : Option Value → va_W → Prop} {XP : String → va_W → Prop} (hst : l.stackTraces = false) (hG : GOK G) (hm : (o, Sum.inr (7, fs)) ∈ w) (hM : Mth l yX7_sample cX7_sample 2 (Option.some Jvm.ClassFile.FieldType.int) r_X7_sample G w (.ref o :: [.int p0]) R0 XP) (hX : ∀ E w1, XP E w1 → E = xI ∨ E = xA ∨ E = xS) (hR : ∀ v w1, R0 v w1 → ∃ b : Int32, v = some (.int b)) : ActM l G w [.ref o, .int 8, .int p0, .int p1, .int p2, .int p3] (fun v w1 => R0 v w1 ∨ ∃ E, XP E w1 ∧ v = some (.int (xc E))) := by
  refine mth_ofH rfl (Nat.le_of_ble_eq_true rfl) hst hG (fun X hX0 C0 => ?_)
  subst hX0
  have C : Cx X G cL_act 7 RL (some .int) r_L_act "act" [⟨0, 437, 438, 106⟩, ⟨0, 437, 443, 109⟩, ⟨0, 437, 448, 112⟩] := C0
  clear C0
  show V X G 7 w 0 0 _ 0 [(0, .ref o), (1, .int 8), (2, .int p0), (3, .int p1), (4, .int p2), (5, .int p3)] []
  refine act_s0 C (by decide) ?_
  refine act_s1 C (by decide) ?_
  refine act_s2 C (by decide) ?_
  refine act_s3 C (by decide) ?_
  refine act_s4 C (by decide) ?_
  refine act_s5 C (by decide) ?_
  refine act_s6 C (by decide) ?_
  refine act_s7 C (by decide) ?_
  refine v_iload_n C dL_act_129 rfl 1 rfl ?_
  refine v_bipush C (v := 8) dL_act_130 rfl rfl ?_
  refine v_icmp_ne C (t := 143) dL_act_132 rfl rfl (fun h => absurd rfl h) (fun _ => ?_)
  refine v_aload_n C dL_act_135 rfl 0 rfl ?_
  refine v_iload_n C dL_act_136 rfl 2 rfl ?_
  refine w_invV C [.int p0] 1 6 L_L_39 hM hm rfl rfl rfl rfl dL_act_137 rfl (fun E w9 hx => act_catch (ret := none) C (hX _ _ hx) rfl rfl rfl (by decide) (by decide) (Or.inr ⟨E, hx, rfl⟩)) (fun v w0 hv => ?_)
  obtain ⟨b, rfl⟩ := hR _ _ hv
  show V X G 7 _ _ _ _ _ _ [.int b]
  refine v_goto C (q := 437) dL_act_140 rfl ?_
  exact v_iret C (by decide) (by decide) dL_act_437 (Or.inl hv)

theorem ac_salt {l : Launch} {G : GG} {w : va_W} {o : Nat} {p0 p1 p2 p3 : Int32} {fs : List Value} {R0 : Option Value → va_W → Prop} {XP : String → va_W → Prop} (hst : l.stackTraces = false) (hG : GOK G) (hm : (o, Sum.inr (7, fs)) ∈ w) (hM : Mth l yX7_salt cX7_salt 5 (Option.some Jvm.ClassFile.FieldType.int) r_X7_salt G w (.ref o :: [.int p0, .int p1, .int p2]) R0 XP) (hX : ∀ E w1, XP E w1 → E = xI ∨ E = xA ∨ E = xS) (hR : ∀ v w1, R0 v w1 → ∃ b : Int32, v = some (.int b)) : ActM l G w [.ref o, .int 9, .int p0, .int p1, .int p2, .int p3] (fun v w1 => R0 v w1 ∨ ∃ E, XP E w1 ∧ v = some (.int (xc E))) := by
  refine mth_ofH rfl (Nat.le_of_ble_eq_true rfl) hst hG (fun X hX0 C0 => ?_)
  subst hX0
  have C : Cx X G cL_act 7 RL (some .int) r_L_act "act" [⟨0, 437, 438, 106⟩, ⟨0, 437, 443, 109⟩, ⟨0, 437, 448, 112⟩] := C0
  clear C0
  show V X G 7 w 0 0 _ 0 [(0, .ref o), (1, .int 9), (2, .int p0), (3, .int p1), (4, .int p2), (5, .int p3)] []
  refine act_s0 C (by decide) ?_
  refine act_s1 C (by decide) ?_
  refine act_s2 C (by decide) ?_
  refine act_s3 C (by decide) ?_
  refine act_s4 C (by decide) ?_
  refine act_s5 C (by decide) ?_
  refine act_s6 C (by decide) ?_
  refine act_s7 C (by decide) ?_
  refine act_s8 C (by decide) ?_
  refine v_iload_n C dL_act_143 rfl 1 rfl ?_
  refine v_bipush C (v := 9) dL_act_144 rfl rfl ?_
  refine v_icmp_ne C (t := 160) dL_act_146 rfl rfl (fun h => absurd rfl h) (fun _ => ?_)
  refine v_aload_n C dL_act_149 rfl 0 rfl ?_
  refine v_iload_n C dL_act_150 rfl 2 rfl ?_
  refine v_iload_n C dL_act_151 rfl 3 rfl ?_
  refine v_iload C dL_act_152 rfl 4 rfl ?_
  refine w_invV C [.int p0, .int p1, .int p2] 4 24 L_L_42 hM hm rfl rfl rfl rfl dL_act_154 rfl (fun E w9 hx => act_catch (ret := none) C (hX _ _ hx) rfl rfl rfl (by decide) (by decide) (Or.inr ⟨E, hx, rfl⟩)) (fun v w0 hv => ?_)
  obtain ⟨b, rfl⟩ := hR _ _ hv
  show V X G 7 _ _ _ _ _ _ [.int b]
  refine v_goto C (q := 437) dL_act_157 rfl ?_
  exact v_iret C (by decide) (by decide) dL_act_437 (Or.inl hv)

theorem ac_brass {l : Launch} {G : GG} {w : va_W} {o : Nat} {p0 p1 p2 p3 : Int32} {fs : List Value} {R0 : Option Value → va_W → Prop} {XP : String → va_W → Prop} (hst : l.stackTraces = false) (hG : GOK G) (hm : (o, Sum.inr (7, fs)) ∈ w) (hM : Mth l yX7_brass cX7_brass 4 (Option.some Jvm.ClassFile.FieldType.int) r_X7_brass G w (.ref o :: [.int p0, .int p1]) R0 XP) (hX : ∀ E w1, XP E w1 → E = xI ∨ E = xA ∨ E = xS) (hR : ∀ v w1, R0 v w1 → ∃ b : Int32, v = some (.int b)) : ActM l G w [.ref o, .int 10, .int p0, .int p1, .int p2, .int p3] (fun v w1 => R0 v w1 ∨ ∃ E, XP E w1 ∧ v = some (.int (xc E))) := by
  refine mth_ofH rfl (Nat.le_of_ble_eq_true rfl) hst hG (fun X hX0 C0 => ?_)
  subst hX0
  have C : Cx X G cL_act 7 RL (some .int) r_L_act "act" [⟨0, 437, 438, 106⟩, ⟨0, 437, 443, 109⟩, ⟨0, 437, 448, 112⟩] := C0
  clear C0
  show V X G 7 w 0 0 _ 0 [(0, .ref o), (1, .int 10), (2, .int p0), (3, .int p1), (4, .int p2), (5, .int p3)] []
  refine act_s0 C (by decide) ?_
  refine act_s1 C (by decide) ?_
  refine act_s2 C (by decide) ?_
  refine act_s3 C (by decide) ?_
  refine act_s4 C (by decide) ?_
  refine act_s5 C (by decide) ?_
  refine act_s6 C (by decide) ?_
  refine act_s7 C (by decide) ?_
  refine act_s8 C (by decide) ?_
  refine act_s9 C (by decide) ?_
  refine v_iload_n C dL_act_160 rfl 1 rfl ?_
  refine v_bipush C (v := 10) dL_act_161 rfl rfl ?_
  refine v_icmp_ne C (t := 175) dL_act_163 rfl rfl (fun h => absurd rfl h) (fun _ => ?_)
  refine v_aload_n C dL_act_166 rfl 0 rfl ?_
  refine v_iload_n C dL_act_167 rfl 2 rfl ?_
  refine v_iload_n C dL_act_168 rfl 3 rfl ?_
  refine w_invV C [.int p0, .int p1] 3 18 L_L_45 hM hm rfl rfl rfl rfl dL_act_169 rfl (fun E w9 hx => act_catch (ret := none) C (hX _ _ hx) rfl rfl rfl (by decide) (by decide) (Or.inr ⟨E, hx, rfl⟩)) (fun v w0 hv => ?_)
  obtain ⟨b, rfl⟩ := hR _ _ hv
  show V X G 7 _ _ _ _ _ _ [.int b]
  refine v_goto C (q := 437) dL_act_172 rfl ?_
  exact v_iret C (by decide) (by decide) dL_act_437 (Or.inl hv)

theorem ac_sell {l : Launch} {G : GG} {w : va_W} {o : Nat} {p0 p1 p2 p3 : Int32} {fs : List Value} {R0 : Option Value → va_W → Prop} {XP : String → va_W → Prop} (hst : l.stackTraces = false) (hG : GOK G) (hm : (o, Sum.inr (7, fs)) ∈ w) (hM : Mth l yX7_sell cX7_sell 7 (Option.some Jvm.ClassFile.FieldType.int) r_X7_sell G w (.ref o :: [.int p0, .int p1]) R0 XP) (hX : ∀ E w1, XP E w1 → E = xI ∨ E = xA ∨ E = xS) (hR : ∀ v w1, R0 v w1 → ∃ b : Int32, v = some (.int b)) : ActM l G w [.ref o, .int 11, .int p0, .int p1, .int p2, .int p3] (fun v w1 => R0 v w1 ∨ ∃ E, XP E w1 ∧ v = some (.int (xc E))) := by
  refine mth_ofH rfl (Nat.le_of_ble_eq_true rfl) hst hG (fun X hX0 C0 => ?_)
  subst hX0
  have C : Cx X G cL_act 7 RL (some .int) r_L_act "act" [⟨0, 437, 438, 106⟩, ⟨0, 437, 443, 109⟩, ⟨0, 437, 448, 112⟩] := C0
  clear C0
  show V X G 7 w 0 0 _ 0 [(0, .ref o), (1, .int 11), (2, .int p0), (3, .int p1), (4, .int p2), (5, .int p3)] []
  refine act_s0 C (by decide) ?_
  refine act_s1 C (by decide) ?_
  refine act_s2 C (by decide) ?_
  refine act_s3 C (by decide) ?_
  refine act_s4 C (by decide) ?_
  refine act_s5 C (by decide) ?_
  refine act_s6 C (by decide) ?_
  refine act_s7 C (by decide) ?_
  refine act_s8 C (by decide) ?_
  refine act_s9 C (by decide) ?_
  refine act_s10 C (by decide) ?_
  refine v_iload_n C dL_act_175 rfl 1 rfl ?_
  refine v_bipush C (v := 11) dL_act_176 rfl rfl ?_
  refine v_icmp_ne C (t := 190) dL_act_178 rfl rfl (fun h => absurd rfl h) (fun _ => ?_)
  refine v_aload_n C dL_act_181 rfl 0 rfl ?_
  refine v_iload_n C dL_act_182 rfl 2 rfl ?_
  refine v_iload_n C dL_act_183 rfl 3 rfl ?_
  refine w_invV C [.int p0, .int p1] 3 18 L_L_48 hM hm rfl rfl rfl rfl dL_act_184 rfl (fun E w9 hx => act_catch (ret := none) C (hX _ _ hx) rfl rfl rfl (by decide) (by decide) (Or.inr ⟨E, hx, rfl⟩)) (fun v w0 hv => ?_)
  obtain ⟨b, rfl⟩ := hR _ _ hv
  show V X G 7 _ _ _ _ _ _ [.int b]
  refine v_goto C (q := 437) dL_act_187 rfl ?_
  exact v_iret C (by decide) (by decide) dL_act_437 (Or.inl hv)

theorem ac_rate {l : Launch} {G : GG} {w : va_W} {o : Nat} {p0 p1 p2 p3 : Int32} {fs : List Value} {R0 : Option Value → va_W → Prop} {XP : String → va_W → Prop} (hst : l.stackTraces = false) (hG : GOK G) (hm : (o, Sum.inr (7, fs)) ∈ w) (hM : Mth l yX7_rate cX7_rate 3 (Option.some Jvm.ClassFile.FieldType.int) r_X7_rate G w (.ref o :: [.int p0]) R0 XP) (hX : ∀ E w1, XP E w1 → E = xI ∨ E = xA ∨ E = xS) (hR : ∀ v w1, R0 v w1 → ∃ b : Int32, v = some (.int b)) : ActM l G w [.ref o, .int 12, .int p0, .int p1, .int p2, .int p3] (fun v w1 => R0 v w1 ∨ ∃ E, XP E w1 ∧ v = some (.int (xc E))) := by
  refine mth_ofH rfl (Nat.le_of_ble_eq_true rfl) hst hG (fun X hX0 C0 => ?_)
  subst hX0
  have C : Cx X G cL_act 7 RL (some .int) r_L_act "act" [⟨0, 437, 438, 106⟩, ⟨0, 437, 443, 109⟩, ⟨0, 437, 448, 112⟩] := C0
  clear C0
  show V X G 7 w 0 0 _ 0 [(0, .ref o), (1, .int 12), (2, .int p0), (3, .int p1), (4, .int p2), (5, .int p3)] []
  refine act_s0 C (by decide) ?_
  refine act_s1 C (by decide) ?_
  refine act_s2 C (by decide) ?_
  refine act_s3 C (by decide) ?_
  refine act_s4 C (by decide) ?_
  refine act_s5 C (by decide) ?_
  refine act_s6 C (by decide) ?_
  refine act_s7 C (by decide) ?_
  refine act_s8 C (by decide) ?_
  refine act_s9 C (by decide) ?_
  refine act_s10 C (by decide) ?_
  refine act_s11 C (by decide) ?_
  refine v_iload_n C dL_act_190 rfl 1 rfl ?_
  refine v_bipush C (v := 12) dL_act_191 rfl rfl ?_
  refine v_icmp_ne C (t := 204) dL_act_193 rfl rfl (fun h => absurd rfl h) (fun _ => ?_)
  refine v_aload_n C dL_act_196 rfl 0 rfl ?_
  refine v_iload_n C dL_act_197 rfl 2 rfl ?_
  refine w_invV C [.int p0] 1 6 L_L_51 hM hm rfl rfl rfl rfl dL_act_198 rfl (fun E w9 hx => act_catch (ret := none) C (hX _ _ hx) rfl rfl rfl (by decide) (by decide) (Or.inr ⟨E, hx, rfl⟩)) (fun v w0 hv => ?_)
  obtain ⟨b, rfl⟩ := hR _ _ hv
  show V X G 7 _ _ _ _ _ _ [.int b]
  refine v_goto C (q := 437) dL_act_201 rfl ?_
  exact v_iret C (by decide) (by decide) dL_act_437 (Or.inl hv)

theorem ac_freight {l : Launch} {G : GG} {w : va_W} {o : Nat} {p0 p1 p2 p3 : Int32} {fs : List Value} {R0 : Option Value → va_W → Prop} {XP : String → va_W → Prop} (hst : l.stackTraces = false) (hG : GOK G) (hm : (o, Sum.inr (7, fs)) ∈ w) (hM : Mth l yX7_freight cX7_freight 3 (Option.none : Option Jvm.ClassFile.FieldType) r_X7_freight G w (.ref o :: [.int p0, .int p1]) R0 XP) (hX : ∀ E w1, XP E w1 → E = xI ∨ E = xA ∨ E = xS) (hR : ∀ v w1, R0 v w1 → v = none) : ActM l G w [.ref o, .int 13, .int p0, .int p1, .int p2, .int p3] (fun v w1 => (v = some (.int 0) ∧ R0 none w1) ∨ ∃ E, XP E w1 ∧ v = some (.int (xc E))) := by
  refine mth_ofH rfl (Nat.le_of_ble_eq_true rfl) hst hG (fun X hX0 C0 => ?_)
  subst hX0
  have C : Cx X G cL_act 7 RL (some .int) r_L_act "act" [⟨0, 437, 438, 106⟩, ⟨0, 437, 443, 109⟩, ⟨0, 437, 448, 112⟩] := C0
  clear C0
  show V X G 7 w 0 0 _ 0 [(0, .ref o), (1, .int 13), (2, .int p0), (3, .int p1), (4, .int p2), (5, .int p3)] []
  refine act_s0 C (by decide) ?_
  refine act_s1 C (by decide) ?_
  refine act_s2 C (by decide) ?_
  refine act_s3 C (by decide) ?_
  refine act_s4 C (by decide) ?_
  refine act_s5 C (by decide) ?_
  refine act_s6 C (by decide) ?_
  refine act_s7 C (by decide) ?_
  refine act_s8 C (by decide) ?_
  refine act_s9 C (by decide) ?_
  refine act_s10 C (by decide) ?_
  refine act_s11 C (by decide) ?_
  refine act_s12 C (by decide) ?_
  refine v_iload_n C dL_act_204 rfl 1 rfl ?_
  refine v_bipush C (v := 13) dL_act_205 rfl rfl ?_
  refine v_icmp_ne C (t := 219) dL_act_207 rfl rfl (fun h => absurd rfl h) (fun _ => ?_)
  refine v_aload_n C dL_act_210 rfl 0 rfl ?_
  refine v_iload_n C dL_act_211 rfl 2 rfl ?_
  refine v_iload_n C dL_act_212 rfl 3 rfl ?_
  refine w_invS C (.ref o :: [.int p0, .int p1]) 3 18 L_L_54 (c_L_sends hst hG hm hM hR) rfl rfl rfl dL_act_213 rfl (fun E w9 hx => act_catch (ret := none) C (hX _ _ hx) rfl rfl rfl (by decide) (by decide) (Or.inr ⟨E, hx, rfl⟩)) (fun v w0 hv => ?_)
  obtain ⟨rfl, hv⟩ := hv
  show V X G 7 _ _ _ _ _ _ [.int 0]
  refine v_goto C (q := 437) dL_act_216 rfl ?_
  exact v_iret C (by decide) (by decide) dL_act_437 (Or.inl ⟨rfl, hv⟩)

theorem ac_buy {l : Launch} {G : GG} {w : va_W} {o : Nat} {p0 p1 p2 p3 : Int32} {fs : List Value} {R0 : Option Value → va_W → Prop} {XP : String → va_W → Prop} (hst : l.stackTraces = false) (hG : GOK G) (hm : (o, Sum.inr (7, fs)) ∈ w) (hM : Mth l yX7_buy cX7_buy 5 (Option.some Jvm.ClassFile.FieldType.int) r_X7_buy G w (.ref o :: [.int p0, .int p1]) R0 XP) (hX : ∀ E w1, XP E w1 → E = xI ∨ E = xA ∨ E = xS) (hR : ∀ v w1, R0 v w1 → ∃ b : Int32, v = some (.int b)) : ActM l G w [.ref o, .int 14, .int p0, .int p1, .int p2, .int p3] (fun v w1 => R0 v w1 ∨ ∃ E, XP E w1 ∧ v = some (.int (xc E))) := by
  refine mth_ofH rfl (Nat.le_of_ble_eq_true rfl) hst hG (fun X hX0 C0 => ?_)
  subst hX0
  have C : Cx X G cL_act 7 RL (some .int) r_L_act "act" [⟨0, 437, 438, 106⟩, ⟨0, 437, 443, 109⟩, ⟨0, 437, 448, 112⟩] := C0
  clear C0
  show V X G 7 w 0 0 _ 0 [(0, .ref o), (1, .int 14), (2, .int p0), (3, .int p1), (4, .int p2), (5, .int p3)] []
  refine act_s0 C (by decide) ?_
  refine act_s1 C (by decide) ?_
  refine act_s2 C (by decide) ?_
  refine act_s3 C (by decide) ?_
  refine act_s4 C (by decide) ?_
  refine act_s5 C (by decide) ?_
  refine act_s6 C (by decide) ?_
  refine act_s7 C (by decide) ?_
  refine act_s8 C (by decide) ?_
  refine act_s9 C (by decide) ?_
  refine act_s10 C (by decide) ?_
  refine act_s11 C (by decide) ?_
  refine act_s12 C (by decide) ?_
  refine act_s13 C (by decide) ?_
  refine v_iload_n C dL_act_219 rfl 1 rfl ?_
  refine v_bipush C (v := 14) dL_act_220 rfl rfl ?_
  refine v_icmp_ne C (t := 234) dL_act_222 rfl rfl (fun h => absurd rfl h) (fun _ => ?_)
  refine v_aload_n C dL_act_225 rfl 0 rfl ?_
  refine v_iload_n C dL_act_226 rfl 2 rfl ?_
  refine v_iload_n C dL_act_227 rfl 3 rfl ?_
  refine w_invV C [.int p0, .int p1] 3 18 L_L_60 hM hm rfl rfl rfl rfl dL_act_228 rfl (fun E w9 hx => act_catch (ret := none) C (hX _ _ hx) rfl rfl rfl (by decide) (by decide) (Or.inr ⟨E, hx, rfl⟩)) (fun v w0 hv => ?_)
  obtain ⟨b, rfl⟩ := hR _ _ hv
  show V X G 7 _ _ _ _ _ _ [.int b]
  refine v_goto C (q := 437) dL_act_231 rfl ?_
  exact v_iret C (by decide) (by decide) dL_act_437 (Or.inl hv)

theorem ac_back {l : Launch} {G : GG} {w : va_W} {o : Nat} {p0 p1 p2 p3 : Int32} {fs : List Value} {R0 : Option Value → va_W → Prop} {XP : String → va_W → Prop} (hst : l.stackTraces = false) (hG : GOK G) (hm : (o, Sum.inr (7, fs)) ∈ w) (hM : Mth l yX7_back cX7_back 7 (Option.none : Option Jvm.ClassFile.FieldType) r_X7_back G w (.ref o :: [.int p0, .int p1, .int p2, .int p3]) R0 XP) (hX : ∀ E w1, XP E w1 → E = xI ∨ E = xA ∨ E = xS) (hR : ∀ v w1, R0 v w1 → v = none) : ActM l G w [.ref o, .int 15, .int p0, .int p1, .int p2, .int p3] (fun v w1 => (v = some (.int 0) ∧ R0 none w1) ∨ ∃ E, XP E w1 ∧ v = some (.int (xc E))) := by
  refine mth_ofH rfl (Nat.le_of_ble_eq_true rfl) hst hG (fun X hX0 C0 => ?_)
  subst hX0
  have C : Cx X G cL_act 7 RL (some .int) r_L_act "act" [⟨0, 437, 438, 106⟩, ⟨0, 437, 443, 109⟩, ⟨0, 437, 448, 112⟩] := C0
  clear C0
  show V X G 7 w 0 0 _ 0 [(0, .ref o), (1, .int 15), (2, .int p0), (3, .int p1), (4, .int p2), (5, .int p3)] []
  refine act_s0 C (by decide) ?_
  refine act_s1 C (by decide) ?_
  refine act_s2 C (by decide) ?_
  refine act_s3 C (by decide) ?_
  refine act_s4 C (by decide) ?_
  refine act_s5 C (by decide) ?_
  refine act_s6 C (by decide) ?_
  refine act_s7 C (by decide) ?_
  refine act_s8 C (by decide) ?_
  refine act_s9 C (by decide) ?_
  refine act_s10 C (by decide) ?_
  refine act_s11 C (by decide) ?_
  refine act_s12 C (by decide) ?_
  refine act_s13 C (by decide) ?_
  refine act_s14 C (by decide) ?_
  refine v_iload_n C dL_act_234 rfl 1 rfl ?_
  refine v_bipush C (v := 15) dL_act_235 rfl rfl ?_
  refine v_icmp_ne C (t := 253) dL_act_237 rfl rfl (fun h => absurd rfl h) (fun _ => ?_)
  refine v_aload_n C dL_act_240 rfl 0 rfl ?_
  refine v_iload_n C dL_act_241 rfl 2 rfl ?_
  refine v_iload_n C dL_act_242 rfl 3 rfl ?_
  refine v_iload C dL_act_243 rfl 4 rfl ?_
  refine v_iload C dL_act_245 rfl 5 rfl ?_
  refine w_invS C (.ref o :: [.int p0, .int p1, .int p2, .int p3]) 6 36 L_L_63 (c_L_backs hst hG hm hM hR) rfl rfl rfl dL_act_247 rfl (fun E w9 hx => act_catch (ret := none) C (hX _ _ hx) rfl rfl rfl (by decide) (by decide) (Or.inr ⟨E, hx, rfl⟩)) (fun v w0 hv => ?_)
  obtain ⟨rfl, hv⟩ := hv
  show V X G 7 _ _ _ _ _ _ [.int 0]
  refine v_goto C (q := 437) dL_act_250 rfl ?_
  exact v_iret C (by decide) (by decide) dL_act_437 (Or.inl ⟨rfl, hv⟩)

theorem ac_end {l : Launch} {G : GG} {w : va_W} {o : Nat} {p0 p1 p2 p3 : Int32} {fs : List Value} {R0 : Option Value → va_W → Prop} {XP : String → va_W → Prop} (hst : l.stackTraces = false) (hG : GOK G) (hm : (o, Sum.inr (7, fs)) ∈ w) (hM : Mth l yX7_end cX7_end 5 (Option.some Jvm.ClassFile.FieldType.int) r_X7_end G w (.ref o :: [.int p0, .int p1]) R0 XP) (hX : ∀ E w1, XP E w1 → E = xI ∨ E = xA ∨ E = xS) (hR : ∀ v w1, R0 v w1 → ∃ b : Int32, v = some (.int b)) : ActM l G w [.ref o, .int 16, .int p0, .int p1, .int p2, .int p3] (fun v w1 => R0 v w1 ∨ ∃ E, XP E w1 ∧ v = some (.int (xc E))) := by
  refine mth_ofH rfl (Nat.le_of_ble_eq_true rfl) hst hG (fun X hX0 C0 => ?_)
  subst hX0
  have C : Cx X G cL_act 7 RL (some .int) r_L_act "act" [⟨0, 437, 438, 106⟩, ⟨0, 437, 443, 109⟩, ⟨0, 437, 448, 112⟩] := C0
  clear C0
  show V X G 7 w 0 0 _ 0 [(0, .ref o), (1, .int 16), (2, .int p0), (3, .int p1), (4, .int p2), (5, .int p3)] []
  refine act_s0 C (by decide) ?_
  refine act_s1 C (by decide) ?_
  refine act_s2 C (by decide) ?_
  refine act_s3 C (by decide) ?_
  refine act_s4 C (by decide) ?_
  refine act_s5 C (by decide) ?_
  refine act_s6 C (by decide) ?_
  refine act_s7 C (by decide) ?_
  refine act_s8 C (by decide) ?_
  refine act_s9 C (by decide) ?_
  refine act_s10 C (by decide) ?_
  refine act_s11 C (by decide) ?_
  refine act_s12 C (by decide) ?_
  refine act_s13 C (by decide) ?_
  refine act_s14 C (by decide) ?_
  refine act_s15 C (by decide) ?_
  refine v_iload_n C dL_act_253 rfl 1 rfl ?_
  refine v_bipush C (v := 16) dL_act_254 rfl rfl ?_
  refine v_icmp_ne C (t := 268) dL_act_256 rfl rfl (fun h => absurd rfl h) (fun _ => ?_)
  refine v_aload_n C dL_act_259 rfl 0 rfl ?_
  refine v_iload_n C dL_act_260 rfl 2 rfl ?_
  refine v_iload_n C dL_act_261 rfl 3 rfl ?_
  refine w_invV C [.int p0, .int p1] 3 18 L_L_67 hM hm rfl rfl rfl rfl dL_act_262 rfl (fun E w9 hx => act_catch (ret := none) C (hX _ _ hx) rfl rfl rfl (by decide) (by decide) (Or.inr ⟨E, hx, rfl⟩)) (fun v w0 hv => ?_)
  obtain ⟨b, rfl⟩ := hR _ _ hv
  show V X G 7 _ _ _ _ _ _ [.int b]
  refine v_goto C (q := 437) dL_act_265 rfl ?_
  exact v_iret C (by decide) (by decide) dL_act_437 (Or.inl hv)

theorem ac_trade {l : Launch} {G : GG} {w : va_W} {o : Nat} {p0 p1 p2 p3 : Int32} {fs : List Value} {R0 : Option Value → va_W → Prop} {XP : String → va_W → Prop} (hst : l.stackTraces = false) (hG : GOK G) (hm : (o, Sum.inr (7, fs)) ∈ w) (hM : Mth l yX7_trade cX7_trade 9 (Option.some Jvm.ClassFile.FieldType.int) r_X7_trade G w (.ref o :: [.int p0, .int p1, .int p2]) R0 XP) (hX : ∀ E w1, XP E w1 → E = xI ∨ E = xA ∨ E = xS) (hR : ∀ v w1, R0 v w1 → ∃ b : Int32, v = some (.int b)) : ActM l G w [.ref o, .int 17, .int p0, .int p1, .int p2, .int p3] (fun v w1 => R0 v w1 ∨ ∃ E, XP E w1 ∧ v = some (.int (xc E))) := by
  refine mth_ofH rfl (Nat.le_of_ble_eq_true rfl) hst hG (fun X hX0 C0 => ?_)
  subst hX0
  have C : Cx X G cL_act 7 RL (some .int) r_L_act "act" [⟨0, 437, 438, 106⟩, ⟨0, 437, 443, 109⟩, ⟨0, 437, 448, 112⟩] := C0
  clear C0
  show V X G 7 w 0 0 _ 0 [(0, .ref o), (1, .int 17), (2, .int p0), (3, .int p1), (4, .int p2), (5, .int p3)] []
  refine act_s0 C (by decide) ?_
  refine act_s1 C (by decide) ?_
  refine act_s2 C (by decide) ?_
  refine act_s3 C (by decide) ?_
  refine act_s4 C (by decide) ?_
  refine act_s5 C (by decide) ?_
  refine act_s6 C (by decide) ?_
  refine act_s7 C (by decide) ?_
  refine act_s8 C (by decide) ?_
  refine act_s9 C (by decide) ?_
  refine act_s10 C (by decide) ?_
  refine act_s11 C (by decide) ?_
  refine act_s12 C (by decide) ?_
  refine act_s13 C (by decide) ?_
  refine act_s14 C (by decide) ?_
  refine act_s15 C (by decide) ?_
  refine act_s16 C (by decide) ?_
  refine v_iload_n C dL_act_268 rfl 1 rfl ?_
  refine v_bipush C (v := 17) dL_act_269 rfl rfl ?_
  refine v_icmp_ne C (t := 285) dL_act_271 rfl rfl (fun h => absurd rfl h) (fun _ => ?_)
  refine v_aload_n C dL_act_274 rfl 0 rfl ?_
  refine v_iload_n C dL_act_275 rfl 2 rfl ?_
  refine v_iload_n C dL_act_276 rfl 3 rfl ?_
  refine v_iload C dL_act_277 rfl 4 rfl ?_
  refine w_invV C [.int p0, .int p1, .int p2] 6 36 L_L_70 hM hm rfl rfl rfl rfl dL_act_279 rfl (fun E w9 hx => act_catch (ret := none) C (hX _ _ hx) rfl rfl rfl (by decide) (by decide) (Or.inr ⟨E, hx, rfl⟩)) (fun v w0 hv => ?_)
  obtain ⟨b, rfl⟩ := hR _ _ hv
  show V X G 7 _ _ _ _ _ _ [.int b]
  refine v_goto C (q := 437) dL_act_282 rfl ?_
  exact v_iret C (by decide) (by decide) dL_act_437 (Or.inl hv)

theorem ac_suit {l : Launch} {G : GG} {w : va_W} {o : Nat} {p0 p1 p2 p3 : Int32} {fs : List Value} {R0 : Option Value → va_W → Prop} {XP : String → va_W → Prop} (hst : l.stackTraces = false) (hG : GOK G) (hm : (o, Sum.inr (7, fs)) ∈ w) (hM : Mth l yX7_suit cX7_suit 6 (Option.some Jvm.ClassFile.FieldType.int) r_X7_suit G w (.ref o :: [.int p0]) R0 XP) (hX : ∀ E w1, XP E w1 → E = xI ∨ E = xA ∨ E = xS) (hR : ∀ v w1, R0 v w1 → ∃ b : Int32, v = some (.int b)) : ActM l G w [.ref o, .int 18, .int p0, .int p1, .int p2, .int p3] (fun v w1 => R0 v w1 ∨ ∃ E, XP E w1 ∧ v = some (.int (xc E))) := by
  refine mth_ofH rfl (Nat.le_of_ble_eq_true rfl) hst hG (fun X hX0 C0 => ?_)
  subst hX0
  have C : Cx X G cL_act 7 RL (some .int) r_L_act "act" [⟨0, 437, 438, 106⟩, ⟨0, 437, 443, 109⟩, ⟨0, 437, 448, 112⟩] := C0
  clear C0
  show V X G 7 w 0 0 _ 0 [(0, .ref o), (1, .int 18), (2, .int p0), (3, .int p1), (4, .int p2), (5, .int p3)] []
  refine act_s0 C (by decide) ?_
  refine act_s1 C (by decide) ?_
  refine act_s2 C (by decide) ?_
  refine act_s3 C (by decide) ?_
  refine act_s4 C (by decide) ?_
  refine act_s5 C (by decide) ?_
  refine act_s6 C (by decide) ?_
  refine act_s7 C (by decide) ?_
  refine act_s8 C (by decide) ?_
  refine act_s9 C (by decide) ?_
  refine act_s10 C (by decide) ?_
  refine act_s11 C (by decide) ?_
  refine act_s12 C (by decide) ?_
  refine act_s13 C (by decide) ?_
  refine act_s14 C (by decide) ?_
  refine act_s15 C (by decide) ?_
  refine act_s16 C (by decide) ?_
  refine act_s17 C (by decide) ?_
  refine v_iload_n C dL_act_285 rfl 1 rfl ?_
  refine v_bipush C (v := 18) dL_act_286 rfl rfl ?_
  refine v_icmp_ne C (t := 299) dL_act_288 rfl rfl (fun h => absurd rfl h) (fun _ => ?_)
  refine v_aload_n C dL_act_291 rfl 0 rfl ?_
  refine v_iload_n C dL_act_292 rfl 2 rfl ?_
  refine w_invV C [.int p0] 4 24 L_L_73 hM hm rfl rfl rfl rfl dL_act_293 rfl (fun E w9 hx => act_catch (ret := none) C (hX _ _ hx) rfl rfl rfl (by decide) (by decide) (Or.inr ⟨E, hx, rfl⟩)) (fun v w0 hv => ?_)
  obtain ⟨b, rfl⟩ := hR _ _ hv
  show V X G 7 _ _ _ _ _ _ [.int b]
  refine v_goto C (q := 437) dL_act_296 rfl ?_
  exact v_iret C (by decide) (by decide) dL_act_437 (Or.inl hv)

theorem ac_rumour {l : Launch} {G : GG} {w : va_W} {o : Nat} {p0 p1 p2 p3 : Int32} {fs : List Value} {R0 : Option Value → va_W → Prop} {XP : String → va_W → Prop} (hst : l.stackTraces = false) (hG : GOK G) (hm : (o, Sum.inr (7, fs)) ∈ w) (hM : Mth l yX7_rumour cX7_rumour 4 (Option.some Jvm.ClassFile.FieldType.int) r_X7_rumour G w (.ref o :: [.int p0, .int p1]) R0 XP) (hX : ∀ E w1, XP E w1 → E = xI ∨ E = xA ∨ E = xS) (hR : ∀ v w1, R0 v w1 → ∃ b : Int32, v = some (.int b)) : ActM l G w [.ref o, .int 19, .int p0, .int p1, .int p2, .int p3] (fun v w1 => R0 v w1 ∨ ∃ E, XP E w1 ∧ v = some (.int (xc E))) := by
  refine mth_ofH rfl (Nat.le_of_ble_eq_true rfl) hst hG (fun X hX0 C0 => ?_)
  subst hX0
  have C : Cx X G cL_act 7 RL (some .int) r_L_act "act" [⟨0, 437, 438, 106⟩, ⟨0, 437, 443, 109⟩, ⟨0, 437, 448, 112⟩] := C0
  clear C0
  show V X G 7 w 0 0 _ 0 [(0, .ref o), (1, .int 19), (2, .int p0), (3, .int p1), (4, .int p2), (5, .int p3)] []
  refine act_s0 C (by decide) ?_
  refine act_s1 C (by decide) ?_
  refine act_s2 C (by decide) ?_
  refine act_s3 C (by decide) ?_
  refine act_s4 C (by decide) ?_
  refine act_s5 C (by decide) ?_
  refine act_s6 C (by decide) ?_
  refine act_s7 C (by decide) ?_
  refine act_s8 C (by decide) ?_
  refine act_s9 C (by decide) ?_
  refine act_s10 C (by decide) ?_
  refine act_s11 C (by decide) ?_
  refine act_s12 C (by decide) ?_
  refine act_s13 C (by decide) ?_
  refine act_s14 C (by decide) ?_
  refine act_s15 C (by decide) ?_
  refine act_s16 C (by decide) ?_
  refine act_s17 C (by decide) ?_
  refine act_s18 C (by decide) ?_
  refine v_iload_n C dL_act_299 rfl 1 rfl ?_
  refine v_bipush C (v := 19) dL_act_300 rfl rfl ?_
  refine v_icmp_ne C (t := 314) dL_act_302 rfl rfl (fun h => absurd rfl h) (fun _ => ?_)
  refine v_aload_n C dL_act_305 rfl 0 rfl ?_
  refine v_iload_n C dL_act_306 rfl 2 rfl ?_
  refine v_iload_n C dL_act_307 rfl 3 rfl ?_
  refine w_invV C [.int p0, .int p1] 2 12 L_L_76 hM hm rfl rfl rfl rfl dL_act_308 rfl (fun E w9 hx => act_catch (ret := none) C (hX _ _ hx) rfl rfl rfl (by decide) (by decide) (Or.inr ⟨E, hx, rfl⟩)) (fun v w0 hv => ?_)
  obtain ⟨b, rfl⟩ := hR _ _ hv
  show V X G 7 _ _ _ _ _ _ [.int b]
  refine v_goto C (q := 437) dL_act_311 rfl ?_
  exact v_iret C (by decide) (by decide) dL_act_437 (Or.inl hv)

theorem ac_holds {l : Launch} {G : GG} {w : va_W} {o : Nat} {p0 p1 p2 p3 : Int32} {fs : List Value} {R0 : Option Value → va_W → Prop} {XP : String → va_W → Prop} (hst : l.stackTraces = false) (hG : GOK G) (hm : (o, Sum.inr (7, fs)) ∈ w) (hM : Mth l yX7_holds cX7_holds 2 (Option.some Jvm.ClassFile.FieldType.int) r_X7_holds G w (.ref o :: [.int p0]) R0 XP) (hX : ∀ E w1, XP E w1 → E = xI ∨ E = xA ∨ E = xS) (hR : ∀ v w1, R0 v w1 → ∃ b : Int32, v = some (.int b)) : ActM l G w [.ref o, .int 20, .int p0, .int p1, .int p2, .int p3] (fun v w1 => R0 v w1 ∨ ∃ E, XP E w1 ∧ v = some (.int (xc E))) := by
  refine mth_ofH rfl (Nat.le_of_ble_eq_true rfl) hst hG (fun X hX0 C0 => ?_)
  subst hX0
  have C : Cx X G cL_act 7 RL (some .int) r_L_act "act" [⟨0, 437, 438, 106⟩, ⟨0, 437, 443, 109⟩, ⟨0, 437, 448, 112⟩] := C0
  clear C0
  show V X G 7 w 0 0 _ 0 [(0, .ref o), (1, .int 20), (2, .int p0), (3, .int p1), (4, .int p2), (5, .int p3)] []
  refine act_s0 C (by decide) ?_
  refine act_s1 C (by decide) ?_
  refine act_s2 C (by decide) ?_
  refine act_s3 C (by decide) ?_
  refine act_s4 C (by decide) ?_
  refine act_s5 C (by decide) ?_
  refine act_s6 C (by decide) ?_
  refine act_s7 C (by decide) ?_
  refine act_s8 C (by decide) ?_
  refine act_s9 C (by decide) ?_
  refine act_s10 C (by decide) ?_
  refine act_s11 C (by decide) ?_
  refine act_s12 C (by decide) ?_
  refine act_s13 C (by decide) ?_
  refine act_s14 C (by decide) ?_
  refine act_s15 C (by decide) ?_
  refine act_s16 C (by decide) ?_
  refine act_s17 C (by decide) ?_
  refine act_s18 C (by decide) ?_
  refine act_s19 C (by decide) ?_
  refine v_iload_n C dL_act_314 rfl 1 rfl ?_
  refine v_bipush C (v := 20) dL_act_315 rfl rfl ?_
  refine v_icmp_ne C (t := 328) dL_act_317 rfl rfl (fun h => absurd rfl h) (fun _ => ?_)
  refine v_aload_n C dL_act_320 rfl 0 rfl ?_
  refine v_iload_n C dL_act_321 rfl 2 rfl ?_
  refine w_invV C [.int p0] 1 6 L_L_79 hM hm rfl rfl rfl rfl dL_act_322 rfl (fun E w9 hx => act_catch (ret := none) C (hX _ _ hx) rfl rfl rfl (by decide) (by decide) (Or.inr ⟨E, hx, rfl⟩)) (fun v w0 hv => ?_)
  obtain ⟨b, rfl⟩ := hR _ _ hv
  show V X G 7 _ _ _ _ _ _ [.int b]
  refine v_goto C (q := 437) dL_act_325 rfl ?_
  exact v_iret C (by decide) (by decide) dL_act_437 (Or.inl hv)

theorem ac_ofClaim {l : Launch} {G : GG} {w : va_W} {o : Nat} {p0 p1 p2 p3 : Int32} {fs : List Value} {R0 : Option Value → va_W → Prop} {XP : String → va_W → Prop} (hst : l.stackTraces = false) (hG : GOK G) (hm : (o, Sum.inr (7, fs)) ∈ w) (hM : Mth l yX7_ofClaim cX7_ofClaim 4 (Option.some Jvm.ClassFile.FieldType.int) r_X7_ofClaim G w (.ref o :: [.int p0, .int p1]) R0 XP) (hX : ∀ E w1, XP E w1 → E = xI ∨ E = xA ∨ E = xS) (hR : ∀ v w1, R0 v w1 → ∃ b : Int32, v = some (.int b)) : ActM l G w [.ref o, .int 21, .int p0, .int p1, .int p2, .int p3] (fun v w1 => R0 v w1 ∨ ∃ E, XP E w1 ∧ v = some (.int (xc E))) := by
  refine mth_ofH rfl (Nat.le_of_ble_eq_true rfl) hst hG (fun X hX0 C0 => ?_)
  subst hX0
  have C : Cx X G cL_act 7 RL (some .int) r_L_act "act" [⟨0, 437, 438, 106⟩, ⟨0, 437, 443, 109⟩, ⟨0, 437, 448, 112⟩] := C0
  clear C0
  show V X G 7 w 0 0 _ 0 [(0, .ref o), (1, .int 21), (2, .int p0), (3, .int p1), (4, .int p2), (5, .int p3)] []
  refine act_s0 C (by decide) ?_
  refine act_s1 C (by decide) ?_
  refine act_s2 C (by decide) ?_
  refine act_s3 C (by decide) ?_
  refine act_s4 C (by decide) ?_
  refine act_s5 C (by decide) ?_
  refine act_s6 C (by decide) ?_
  refine act_s7 C (by decide) ?_
  refine act_s8 C (by decide) ?_
  refine act_s9 C (by decide) ?_
  refine act_s10 C (by decide) ?_
  refine act_s11 C (by decide) ?_
  refine act_s12 C (by decide) ?_
  refine act_s13 C (by decide) ?_
  refine act_s14 C (by decide) ?_
  refine act_s15 C (by decide) ?_
  refine act_s16 C (by decide) ?_
  refine act_s17 C (by decide) ?_
  refine act_s18 C (by decide) ?_
  refine act_s19 C (by decide) ?_
  refine act_s20 C (by decide) ?_
  refine v_iload_n C dL_act_328 rfl 1 rfl ?_
  refine v_bipush C (v := 21) dL_act_329 rfl rfl ?_
  refine v_icmp_ne C (t := 343) dL_act_331 rfl rfl (fun h => absurd rfl h) (fun _ => ?_)
  refine v_aload_n C dL_act_334 rfl 0 rfl ?_
  refine v_iload_n C dL_act_335 rfl 2 rfl ?_
  refine v_iload_n C dL_act_336 rfl 3 rfl ?_
  refine w_invV C [.int p0, .int p1] 2 12 L_L_82 hM hm rfl rfl rfl rfl dL_act_337 rfl (fun E w9 hx => act_catch (ret := none) C (hX _ _ hx) rfl rfl rfl (by decide) (by decide) (Or.inr ⟨E, hx, rfl⟩)) (fun v w0 hv => ?_)
  obtain ⟨b, rfl⟩ := hR _ _ hv
  show V X G 7 _ _ _ _ _ _ [.int b]
  refine v_goto C (q := 437) dL_act_340 rfl ?_
  exact v_iret C (by decide) (by decide) dL_act_437 (Or.inl hv)

theorem ac_ofMiner {l : Launch} {G : GG} {w : va_W} {o : Nat} {p0 p1 p2 p3 : Int32} {fs : List Value} {R0 : Option Value → va_W → Prop} {XP : String → va_W → Prop} (hst : l.stackTraces = false) (hG : GOK G) (hm : (o, Sum.inr (7, fs)) ∈ w) (hM : Mth l yX7_ofMiner cX7_ofMiner 4 (Option.some Jvm.ClassFile.FieldType.int) r_X7_ofMiner G w (.ref o :: [.int p0, .int p1]) R0 XP) (hX : ∀ E w1, XP E w1 → E = xI ∨ E = xA ∨ E = xS) (hR : ∀ v w1, R0 v w1 → ∃ b : Int32, v = some (.int b)) : ActM l G w [.ref o, .int 22, .int p0, .int p1, .int p2, .int p3] (fun v w1 => R0 v w1 ∨ ∃ E, XP E w1 ∧ v = some (.int (xc E))) := by
  refine mth_ofH rfl (Nat.le_of_ble_eq_true rfl) hst hG (fun X hX0 C0 => ?_)
  subst hX0
  have C : Cx X G cL_act 7 RL (some .int) r_L_act "act" [⟨0, 437, 438, 106⟩, ⟨0, 437, 443, 109⟩, ⟨0, 437, 448, 112⟩] := C0
  clear C0
  show V X G 7 w 0 0 _ 0 [(0, .ref o), (1, .int 22), (2, .int p0), (3, .int p1), (4, .int p2), (5, .int p3)] []
  refine act_s0 C (by decide) ?_
  refine act_s1 C (by decide) ?_
  refine act_s2 C (by decide) ?_
  refine act_s3 C (by decide) ?_
  refine act_s4 C (by decide) ?_
  refine act_s5 C (by decide) ?_
  refine act_s6 C (by decide) ?_
  refine act_s7 C (by decide) ?_
  refine act_s8 C (by decide) ?_
  refine act_s9 C (by decide) ?_
  refine act_s10 C (by decide) ?_
  refine act_s11 C (by decide) ?_
  refine act_s12 C (by decide) ?_
  refine act_s13 C (by decide) ?_
  refine act_s14 C (by decide) ?_
  refine act_s15 C (by decide) ?_
  refine act_s16 C (by decide) ?_
  refine act_s17 C (by decide) ?_
  refine act_s18 C (by decide) ?_
  refine act_s19 C (by decide) ?_
  refine act_s20 C (by decide) ?_
  refine act_s21 C (by decide) ?_
  refine v_iload_n C dL_act_343 rfl 1 rfl ?_
  refine v_bipush C (v := 22) dL_act_344 rfl rfl ?_
  refine v_icmp_ne C (t := 358) dL_act_346 rfl rfl (fun h => absurd rfl h) (fun _ => ?_)
  refine v_aload_n C dL_act_349 rfl 0 rfl ?_
  refine v_iload_n C dL_act_350 rfl 2 rfl ?_
  refine v_iload_n C dL_act_351 rfl 3 rfl ?_
  refine w_invV C [.int p0, .int p1] 2 12 L_L_85 hM hm rfl rfl rfl rfl dL_act_352 rfl (fun E w9 hx => act_catch (ret := none) C (hX _ _ hx) rfl rfl rfl (by decide) (by decide) (Or.inr ⟨E, hx, rfl⟩)) (fun v w0 hv => ?_)
  obtain ⟨b, rfl⟩ := hR _ _ hv
  show V X G 7 _ _ _ _ _ _ [.int b]
  refine v_goto C (q := 437) dL_act_355 rfl ?_
  exact v_iret C (by decide) (by decide) dL_act_437 (Or.inl hv)

theorem ac_gets {l : Launch} {G : GG} {w : va_W} {o : Nat} {p0 p1 p2 p3 : Int32} {fs : List Value} {R0 : Option Value → va_W → Prop} {XP : String → va_W → Prop} (hst : l.stackTraces = false) (hG : GOK G) (hm : (o, Sum.inr (7, fs)) ∈ w) (hM : Mth l yX7_gets cX7_gets 2 (Option.some Jvm.ClassFile.FieldType.int) r_X7_gets G w (.ref o :: [.int p0]) R0 XP) (hX : ∀ E w1, XP E w1 → E = xI ∨ E = xA ∨ E = xS) (hR : ∀ v w1, R0 v w1 → ∃ b : Int32, v = some (.int b)) : ActM l G w [.ref o, .int 23, .int p0, .int p1, .int p2, .int p3] (fun v w1 => R0 v w1 ∨ ∃ E, XP E w1 ∧ v = some (.int (xc E))) := by
  refine mth_ofH rfl (Nat.le_of_ble_eq_true rfl) hst hG (fun X hX0 C0 => ?_)
  subst hX0
  have C : Cx X G cL_act 7 RL (some .int) r_L_act "act" [⟨0, 437, 438, 106⟩, ⟨0, 437, 443, 109⟩, ⟨0, 437, 448, 112⟩] := C0
  clear C0
  show V X G 7 w 0 0 _ 0 [(0, .ref o), (1, .int 23), (2, .int p0), (3, .int p1), (4, .int p2), (5, .int p3)] []
  refine act_s0 C (by decide) ?_
  refine act_s1 C (by decide) ?_
  refine act_s2 C (by decide) ?_
  refine act_s3 C (by decide) ?_
  refine act_s4 C (by decide) ?_
  refine act_s5 C (by decide) ?_
  refine act_s6 C (by decide) ?_
  refine act_s7 C (by decide) ?_
  refine act_s8 C (by decide) ?_
  refine act_s9 C (by decide) ?_
  refine act_s10 C (by decide) ?_
  refine act_s11 C (by decide) ?_
  refine act_s12 C (by decide) ?_
  refine act_s13 C (by decide) ?_
  refine act_s14 C (by decide) ?_
  refine act_s15 C (by decide) ?_
  refine act_s16 C (by decide) ?_
  refine act_s17 C (by decide) ?_
  refine act_s18 C (by decide) ?_
  refine act_s19 C (by decide) ?_
  refine act_s20 C (by decide) ?_
  refine act_s21 C (by decide) ?_
  refine act_s22 C (by decide) ?_
  refine v_iload_n C dL_act_358 rfl 1 rfl ?_
  refine v_bipush C (v := 23) dL_act_359 rfl rfl ?_
  refine v_icmp_ne C (t := 372) dL_act_361 rfl rfl (fun h => absurd rfl h) (fun _ => ?_)
  refine v_aload_n C dL_act_364 rfl 0 rfl ?_
  refine v_iload_n C dL_act_365 rfl 2 rfl ?_
  refine w_invV C [.int p0] 1 6 L_L_88 hM hm rfl rfl rfl rfl dL_act_366 rfl (fun E w9 hx => act_catch (ret := none) C (hX _ _ hx) rfl rfl rfl (by decide) (by decide) (Or.inr ⟨E, hx, rfl⟩)) (fun v w0 hv => ?_)
  obtain ⟨b, rfl⟩ := hR _ _ hv
  show V X G 7 _ _ _ _ _ _ [.int b]
  refine v_goto C (q := 437) dL_act_369 rfl ?_
  exact v_iret C (by decide) (by decide) dL_act_437 (Or.inl hv)

theorem ac_gold {l : Launch} {G : GG} {w : va_W} {o : Nat} {p0 p1 p2 p3 : Int32} {fs : List Value} {R0 : Option Value → va_W → Prop} {XP : String → va_W → Prop} (hst : l.stackTraces = false) (hG : GOK G) (hm : (o, Sum.inr (7, fs)) ∈ w) (hM : Mth l yX7_gold cX7_gold 2 (Option.some Jvm.ClassFile.FieldType.int) r_X7_gold G w (.ref o :: [.int p0]) R0 XP) (hX : ∀ E w1, XP E w1 → E = xI ∨ E = xA ∨ E = xS) (hR : ∀ v w1, R0 v w1 → ∃ b : Int32, v = some (.int b)) : ActM l G w [.ref o, .int 24, .int p0, .int p1, .int p2, .int p3] (fun v w1 => R0 v w1 ∨ ∃ E, XP E w1 ∧ v = some (.int (xc E))) := by
  refine mth_ofH rfl (Nat.le_of_ble_eq_true rfl) hst hG (fun X hX0 C0 => ?_)
  subst hX0
  have C : Cx X G cL_act 7 RL (some .int) r_L_act "act" [⟨0, 437, 438, 106⟩, ⟨0, 437, 443, 109⟩, ⟨0, 437, 448, 112⟩] := C0
  clear C0
  show V X G 7 w 0 0 _ 0 [(0, .ref o), (1, .int 24), (2, .int p0), (3, .int p1), (4, .int p2), (5, .int p3)] []
  refine act_s0 C (by decide) ?_
  refine act_s1 C (by decide) ?_
  refine act_s2 C (by decide) ?_
  refine act_s3 C (by decide) ?_
  refine act_s4 C (by decide) ?_
  refine act_s5 C (by decide) ?_
  refine act_s6 C (by decide) ?_
  refine act_s7 C (by decide) ?_
  refine act_s8 C (by decide) ?_
  refine act_s9 C (by decide) ?_
  refine act_s10 C (by decide) ?_
  refine act_s11 C (by decide) ?_
  refine act_s12 C (by decide) ?_
  refine act_s13 C (by decide) ?_
  refine act_s14 C (by decide) ?_
  refine act_s15 C (by decide) ?_
  refine act_s16 C (by decide) ?_
  refine act_s17 C (by decide) ?_
  refine act_s18 C (by decide) ?_
  refine act_s19 C (by decide) ?_
  refine act_s20 C (by decide) ?_
  refine act_s21 C (by decide) ?_
  refine act_s22 C (by decide) ?_
  refine act_s23 C (by decide) ?_
  refine v_iload_n C dL_act_372 rfl 1 rfl ?_
  refine v_bipush C (v := 24) dL_act_373 rfl rfl ?_
  refine v_icmp_ne C (t := 386) dL_act_375 rfl rfl (fun h => absurd rfl h) (fun _ => ?_)
  refine v_aload_n C dL_act_378 rfl 0 rfl ?_
  refine v_iload_n C dL_act_379 rfl 2 rfl ?_
  refine w_invV C [.int p0] 1 6 L_L_91 hM hm rfl rfl rfl rfl dL_act_380 rfl (fun E w9 hx => act_catch (ret := none) C (hX _ _ hx) rfl rfl rfl (by decide) (by decide) (Or.inr ⟨E, hx, rfl⟩)) (fun v w0 hv => ?_)
  obtain ⟨b, rfl⟩ := hR _ _ hv
  show V X G 7 _ _ _ _ _ _ [.int b]
  refine v_goto C (q := 437) dL_act_383 rfl ?_
  exact v_iret C (by decide) (by decide) dL_act_437 (Or.inl hv)

theorem ac_camp {l : Launch} {G : GG} {w : va_W} {o : Nat} {p0 p1 p2 p3 : Int32} {fs : List Value} {R0 : Option Value → va_W → Prop} {XP : String → va_W → Prop} (hst : l.stackTraces = false) (hG : GOK G) (hm : (o, Sum.inr (7, fs)) ∈ w) (hM : Mth l yX7_camp cX7_camp 2 (Option.some Jvm.ClassFile.FieldType.int) r_X7_camp G w (.ref o :: [.int p0]) R0 XP) (hX : ∀ E w1, XP E w1 → E = xI ∨ E = xA ∨ E = xS) (hR : ∀ v w1, R0 v w1 → ∃ b : Int32, v = some (.int b)) : ActM l G w [.ref o, .int 25, .int p0, .int p1, .int p2, .int p3] (fun v w1 => R0 v w1 ∨ ∃ E, XP E w1 ∧ v = some (.int (xc E))) := by
  refine mth_ofH rfl (Nat.le_of_ble_eq_true rfl) hst hG (fun X hX0 C0 => ?_)
  subst hX0
  have C : Cx X G cL_act 7 RL (some .int) r_L_act "act" [⟨0, 437, 438, 106⟩, ⟨0, 437, 443, 109⟩, ⟨0, 437, 448, 112⟩] := C0
  clear C0
  show V X G 7 w 0 0 _ 0 [(0, .ref o), (1, .int 25), (2, .int p0), (3, .int p1), (4, .int p2), (5, .int p3)] []
  refine act_s0 C (by decide) ?_
  refine act_s1 C (by decide) ?_
  refine act_s2 C (by decide) ?_
  refine act_s3 C (by decide) ?_
  refine act_s4 C (by decide) ?_
  refine act_s5 C (by decide) ?_
  refine act_s6 C (by decide) ?_
  refine act_s7 C (by decide) ?_
  refine act_s8 C (by decide) ?_
  refine act_s9 C (by decide) ?_
  refine act_s10 C (by decide) ?_
  refine act_s11 C (by decide) ?_
  refine act_s12 C (by decide) ?_
  refine act_s13 C (by decide) ?_
  refine act_s14 C (by decide) ?_
  refine act_s15 C (by decide) ?_
  refine act_s16 C (by decide) ?_
  refine act_s17 C (by decide) ?_
  refine act_s18 C (by decide) ?_
  refine act_s19 C (by decide) ?_
  refine act_s20 C (by decide) ?_
  refine act_s21 C (by decide) ?_
  refine act_s22 C (by decide) ?_
  refine act_s23 C (by decide) ?_
  refine act_s24 C (by decide) ?_
  refine v_iload_n C dL_act_386 rfl 1 rfl ?_
  refine v_bipush C (v := 25) dL_act_387 rfl rfl ?_
  refine v_icmp_ne C (t := 400) dL_act_389 rfl rfl (fun h => absurd rfl h) (fun _ => ?_)
  refine v_aload_n C dL_act_392 rfl 0 rfl ?_
  refine v_iload_n C dL_act_393 rfl 2 rfl ?_
  refine w_invV C [.int p0] 1 6 L_L_94 hM hm rfl rfl rfl rfl dL_act_394 rfl (fun E w9 hx => act_catch (ret := none) C (hX _ _ hx) rfl rfl rfl (by decide) (by decide) (Or.inr ⟨E, hx, rfl⟩)) (fun v w0 hv => ?_)
  obtain ⟨b, rfl⟩ := hR _ _ hv
  show V X G 7 _ _ _ _ _ _ [.int b]
  refine v_goto C (q := 437) dL_act_397 rfl ?_
  exact v_iret C (by decide) (by decide) dL_act_437 (Or.inl hv)

theorem ac_belief {l : Launch} {G : GG} {w : va_W} {o : Nat} {p0 p1 p2 p3 : Int32} {fs : List Value} {R0 : Option Value → va_W → Prop} {XP : String → va_W → Prop} (hst : l.stackTraces = false) (hG : GOK G) (hm : (o, Sum.inr (7, fs)) ∈ w) (hM : Mth l yX7_belief cX7_belief 2 (Option.some Jvm.ClassFile.FieldType.int) r_X7_belief G w (.ref o :: [.int p0]) R0 XP) (hX : ∀ E w1, XP E w1 → E = xI ∨ E = xA ∨ E = xS) (hR : ∀ v w1, R0 v w1 → ∃ b : Int32, v = some (.int b)) : ActM l G w [.ref o, .int 26, .int p0, .int p1, .int p2, .int p3] (fun v w1 => R0 v w1 ∨ ∃ E, XP E w1 ∧ v = some (.int (xc E))) := by
  refine mth_ofH rfl (Nat.le_of_ble_eq_true rfl) hst hG (fun X hX0 C0 => ?_)
  subst hX0
  have C : Cx X G cL_act 7 RL (some .int) r_L_act "act" [⟨0, 437, 438, 106⟩, ⟨0, 437, 443, 109⟩, ⟨0, 437, 448, 112⟩] := C0
  clear C0
  show V X G 7 w 0 0 _ 0 [(0, .ref o), (1, .int 26), (2, .int p0), (3, .int p1), (4, .int p2), (5, .int p3)] []
  refine act_s0 C (by decide) ?_
  refine act_s1 C (by decide) ?_
  refine act_s2 C (by decide) ?_
  refine act_s3 C (by decide) ?_
  refine act_s4 C (by decide) ?_
  refine act_s5 C (by decide) ?_
  refine act_s6 C (by decide) ?_
  refine act_s7 C (by decide) ?_
  refine act_s8 C (by decide) ?_
  refine act_s9 C (by decide) ?_
  refine act_s10 C (by decide) ?_
  refine act_s11 C (by decide) ?_
  refine act_s12 C (by decide) ?_
  refine act_s13 C (by decide) ?_
  refine act_s14 C (by decide) ?_
  refine act_s15 C (by decide) ?_
  refine act_s16 C (by decide) ?_
  refine act_s17 C (by decide) ?_
  refine act_s18 C (by decide) ?_
  refine act_s19 C (by decide) ?_
  refine act_s20 C (by decide) ?_
  refine act_s21 C (by decide) ?_
  refine act_s22 C (by decide) ?_
  refine act_s23 C (by decide) ?_
  refine act_s24 C (by decide) ?_
  refine act_s25 C (by decide) ?_
  refine v_iload_n C dL_act_400 rfl 1 rfl ?_
  refine v_bipush C (v := 26) dL_act_401 rfl rfl ?_
  refine v_icmp_ne C (t := 414) dL_act_403 rfl rfl (fun h => absurd rfl h) (fun _ => ?_)
  refine v_aload_n C dL_act_406 rfl 0 rfl ?_
  refine v_iload_n C dL_act_407 rfl 2 rfl ?_
  refine w_invV C [.int p0] 1 6 L_L_97 hM hm rfl rfl rfl rfl dL_act_408 rfl (fun E w9 hx => act_catch (ret := none) C (hX _ _ hx) rfl rfl rfl (by decide) (by decide) (Or.inr ⟨E, hx, rfl⟩)) (fun v w0 hv => ?_)
  obtain ⟨b, rfl⟩ := hR _ _ hv
  show V X G 7 _ _ _ _ _ _ [.int b]
  refine v_goto C (q := 437) dL_act_411 rfl ?_
  exact v_iret C (by decide) (by decide) dL_act_437 (Or.inl hv)

theorem ac_plan {l : Launch} {G : GG} {w : va_W} {o : Nat} {p0 p1 p2 p3 : Int32} {fs : List Value} {R0 : Option Value → va_W → Prop} {XP : String → va_W → Prop} (hst : l.stackTraces = false) (hG : GOK G) (hm : (o, Sum.inr (7, fs)) ∈ w) (hM : Mth l yX7_plan cX7_plan 5 (Option.some Jvm.ClassFile.FieldType.int) r_X7_plan G w (.ref o :: [.int p0, .int p1]) R0 XP) (hX : ∀ E w1, XP E w1 → E = xI ∨ E = xA ∨ E = xS) (hR : ∀ v w1, R0 v w1 → ∃ b : Int32, v = some (.int b)) : ActM l G w [.ref o, .int 27, .int p0, .int p1, .int p2, .int p3] (fun v w1 => R0 v w1 ∨ ∃ E, XP E w1 ∧ v = some (.int (xc E))) := by
  refine mth_ofH rfl (Nat.le_of_ble_eq_true rfl) hst hG (fun X hX0 C0 => ?_)
  subst hX0
  have C : Cx X G cL_act 7 RL (some .int) r_L_act "act" [⟨0, 437, 438, 106⟩, ⟨0, 437, 443, 109⟩, ⟨0, 437, 448, 112⟩] := C0
  clear C0
  show V X G 7 w 0 0 _ 0 [(0, .ref o), (1, .int 27), (2, .int p0), (3, .int p1), (4, .int p2), (5, .int p3)] []
  refine act_s0 C (by decide) ?_
  refine act_s1 C (by decide) ?_
  refine act_s2 C (by decide) ?_
  refine act_s3 C (by decide) ?_
  refine act_s4 C (by decide) ?_
  refine act_s5 C (by decide) ?_
  refine act_s6 C (by decide) ?_
  refine act_s7 C (by decide) ?_
  refine act_s8 C (by decide) ?_
  refine act_s9 C (by decide) ?_
  refine act_s10 C (by decide) ?_
  refine act_s11 C (by decide) ?_
  refine act_s12 C (by decide) ?_
  refine act_s13 C (by decide) ?_
  refine act_s14 C (by decide) ?_
  refine act_s15 C (by decide) ?_
  refine act_s16 C (by decide) ?_
  refine act_s17 C (by decide) ?_
  refine act_s18 C (by decide) ?_
  refine act_s19 C (by decide) ?_
  refine act_s20 C (by decide) ?_
  refine act_s21 C (by decide) ?_
  refine act_s22 C (by decide) ?_
  refine act_s23 C (by decide) ?_
  refine act_s24 C (by decide) ?_
  refine act_s25 C (by decide) ?_
  refine act_s26 C (by decide) ?_
  refine v_iload_n C dL_act_414 rfl 1 rfl ?_
  refine v_bipush C (v := 27) dL_act_415 rfl rfl ?_
  refine v_icmp_ne C (t := 429) dL_act_417 rfl rfl (fun h => absurd rfl h) (fun _ => ?_)
  refine v_aload_n C dL_act_420 rfl 0 rfl ?_
  refine v_iload_n C dL_act_421 rfl 2 rfl ?_
  refine v_iload_n C dL_act_422 rfl 3 rfl ?_
  refine w_invV C [.int p0, .int p1] 3 18 L_L_100 hM hm rfl rfl rfl rfl dL_act_423 rfl (fun E w9 hx => act_catch (ret := none) C (hX _ _ hx) rfl rfl rfl (by decide) (by decide) (Or.inr ⟨E, hx, rfl⟩)) (fun v w0 hv => ?_)
  obtain ⟨b, rfl⟩ := hR _ _ hv
  show V X G 7 _ _ _ _ _ _ [.int b]
  refine v_goto C (q := 437) dL_act_426 rfl ?_
  exact v_iret C (by decide) (by decide) dL_act_437 (Or.inl hv)

theorem ac_planCell {l : Launch} {G : GG} {w : va_W} {o : Nat} {p0 p1 p2 p3 : Int32} {fs : List Value} {R0 : Option Value → va_W → Prop} {XP : String → va_W → Prop} (hst : l.stackTraces = false) (hG : GOK G) (hm : (o, Sum.inr (7, fs)) ∈ w) (hM : Mth l yX7_planCell cX7_planCell 5 (Option.some Jvm.ClassFile.FieldType.int) r_X7_planCell G w (.ref o :: [.int p0, .int p1, .int p2]) R0 XP) (hX : ∀ E w1, XP E w1 → E = xI ∨ E = xA ∨ E = xS) (hR : ∀ v w1, R0 v w1 → ∃ b : Int32, v = some (.int b)) : ActM l G w [.ref o, .int 28, .int p0, .int p1, .int p2, .int p3] (fun v w1 => R0 v w1 ∨ ∃ E, XP E w1 ∧ v = some (.int (xc E))) := by
  refine mth_ofH rfl (Nat.le_of_ble_eq_true rfl) hst hG (fun X hX0 C0 => ?_)
  subst hX0
  have C : Cx X G cL_act 7 RL (some .int) r_L_act "act" [⟨0, 437, 438, 106⟩, ⟨0, 437, 443, 109⟩, ⟨0, 437, 448, 112⟩] := C0
  clear C0
  show V X G 7 w 0 0 _ 0 [(0, .ref o), (1, .int 28), (2, .int p0), (3, .int p1), (4, .int p2), (5, .int p3)] []
  refine act_s0 C (by decide) ?_
  refine act_s1 C (by decide) ?_
  refine act_s2 C (by decide) ?_
  refine act_s3 C (by decide) ?_
  refine act_s4 C (by decide) ?_
  refine act_s5 C (by decide) ?_
  refine act_s6 C (by decide) ?_
  refine act_s7 C (by decide) ?_
  refine act_s8 C (by decide) ?_
  refine act_s9 C (by decide) ?_
  refine act_s10 C (by decide) ?_
  refine act_s11 C (by decide) ?_
  refine act_s12 C (by decide) ?_
  refine act_s13 C (by decide) ?_
  refine act_s14 C (by decide) ?_
  refine act_s15 C (by decide) ?_
  refine act_s16 C (by decide) ?_
  refine act_s17 C (by decide) ?_
  refine act_s18 C (by decide) ?_
  refine act_s19 C (by decide) ?_
  refine act_s20 C (by decide) ?_
  refine act_s21 C (by decide) ?_
  refine act_s22 C (by decide) ?_
  refine act_s23 C (by decide) ?_
  refine act_s24 C (by decide) ?_
  refine act_s25 C (by decide) ?_
  refine act_s26 C (by decide) ?_
  refine act_s27 C (by decide) ?_
  refine v_aload_n C dL_act_429 rfl 0 rfl ?_
  refine v_iload_n C dL_act_430 rfl 2 rfl ?_
  refine v_iload_n C dL_act_431 rfl 3 rfl ?_
  refine v_iload C dL_act_432 rfl 4 rfl ?_
  refine w_invV C [.int p0, .int p1, .int p2] 4 24 L_L_103 hM hm rfl rfl rfl rfl dL_act_434 rfl (fun E w9 hx => act_catch (ret := none) C (hX _ _ hx) rfl rfl rfl (by decide) (by decide) (Or.inr ⟨E, hx, rfl⟩)) (fun v w0 hv => ?_)
  obtain ⟨b, rfl⟩ := hR _ _ hv
  show V X G 7 _ _ _ _ _ _ [.int b]
  exact v_iret C (by decide) (by decide) dL_act_437 (Or.inl hv)

/-! the three counts stay -/
theorem ct_ground {z : SS} {c m g : Int32} (k : Nat) (hk : k = 12 ∨ k = 21 ∨ k = 33) (i : Nat) : groundU z c m g k i = z k i := by rcases hk with rfl | rfl | rfl <;> rfl
theorem ct_flow {z : SS} {x : Int32} (k : Nat) (hk : k = 12 ∨ k = 21 ∨ k = 33) (i : Nat) : flowU z x k i = z k i := by rcases hk with rfl | rfl | rfl <;> rfl
theorem ct_rate {z : SS} {x : Int32} (k : Nat) (hk : k = 12 ∨ k = 21 ∨ k = 33) (i : Nat) : rateU z x k i = z k i := by rcases hk with rfl | rfl | rfl <;> rfl
theorem ct_rumour {z : SS} {c b : Int32} (k : Nat) (hk : k = 12 ∨ k = 21 ∨ k = 33) (i : Nat) : rumourU z c b k i = z k i := by rcases hk with rfl | rfl | rfl <;> rfl
theorem ct_brass {z : SS} {x m : Int32} (k : Nat) (hk : k = 12 ∨ k = 21 ∨ k = 33) (i : Nat) : brassU z x m k i = z k i := by rcases hk with rfl | rfl | rfl <;> rfl
theorem ct_buy {z : SS} {x m : Int32} (k : Nat) (hk : k = 12 ∨ k = 21 ∨ k = 33) (i : Nat) : buyU z x m k i = z k i := by rcases hk with rfl | rfl | rfl <;> rfl
theorem ct_end {z : SS} {x y : Int32} (k : Nat) (hk : k = 12 ∨ k = 21 ∨ k = 33) (i : Nat) : endU z x y k i = z k i := by rcases hk with rfl | rfl | rfl <;> rfl
theorem ct_back {z : SS} {x y p m : Int32} (k : Nat) (hk : k = 12 ∨ k = 21 ∨ k = 33) (i : Nat) : backUC z x y p m k i = z k i := by rcases hk with rfl | rfl | rfl <;> rfl
theorem ct_trade {z : SS} {c b m : Int32} (k : Nat) (hk : k = 12 ∨ k = 21 ∨ k = 33) (i : Nat) : tradeUC z c b m k i = z k i := by rcases hk with rfl | rfl | rfl <;> rfl
theorem ct_meet {z : SS} {nm : Nat} {m d y n_ : Int32} (k : Nat) (hk : k = 12 ∨ k = 21 ∨ k = 33) (i : Nat) : meetU z nm m d y n_ k i = z k i := by
  unfold meetU
  split
  · rcases hk with rfl | rfl | rfl <;> rfl
  · rfl
theorem ct_sell {z : SS} {x d : Int32} (k : Nat) (hk : k = 12 ∨ k = 21 ∨ k = 33) (i : Nat) : sellUC z x d k i = z k i := by
  unfold sellUC
  split <;> rcases hk with rfl | rfl | rfl <;> rfl
theorem ct_suit {z : SS} {c : Int32} (k : Nat) (hk : k = 12 ∨ k = 21 ∨ k = 33) (i : Nat) : suitUC z c k i = z k i := by
  unfold suitUC
  split <;> rcases hk with rfl | rfl | rfl <;> rfl
theorem ct_freight {z : SS} {m d : Int32} (k : Nat) (hk : k = 12 ∨ k = 21 ∨ k = 33) (i : Nat) : sndF z m d k i = z k i := by
  unfold sndF
  split
  · rcases hk with rfl | rfl | rfl <;> rfl
  · rfl
theorem ct_pass {z : SS} {nm nc n : Nat} (k : Nat) (hk : k = 12 ∨ k = 21 ∨ k = 33) (i : Nat) : psC z nm nc n k i = z k i := congrFun (psC_o (by omega) (by omega) (by omega) (by omega) (by omega) (by omega) (by omega) n) i
theorem wkE_o {z : SS} {h d : Int32} {k : Nat} (hk : k ≠ 26) : wkE z h d k = z k := by
  unfold wkE
  split
  · rfl
  · exact su_o hk
theorem ct_work {z : SS} {nm nc : Nat} {x c m : Int32} (k : Nat) (hk : k = 12 ∨ k = 21 ∨ k = 33) (i : Nat) : workUC z nm nc x c m k i = z k i := by
  unfold workUC
  rw [shaF_o (by omega), wkE_o (by omega), su_o (by omega), su_o (by omega), digC_o (by omega) (by omega)]
theorem ct_salt {z : SS} {nc : Nat} {x c m : Int32} (k : Nat) (hk : k = 12 ∨ k = 21 ∨ k = 33) (i : Nat) : saltUC z nc x c m k i = z k i := by
  unfold saltUC
  rw [spW_o (by omega), su_o (by omega), su_o (by omega), dropF_o (by omega) (by omega), su_o (by omega)]
