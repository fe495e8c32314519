def num (cI cZ cO cJ t10 t11 mi : Nat) (ad : Nat → Nat) (k : Nat) : Nat := if k = 0 then cI else if k = 1 then cZ else if k = 2 then cO else if k = 3 then cJ else if k = 10 then t10 else if k = 11 then t11 else if k = 12 then mi else ad (k - 20)
theorem num_ad {cI cZ cO cJ t10 t11 mi : Nat} {ad : Nat → Nat} (j : Nat) : num cI cZ cO cJ t10 t11 mi ad (20 + j) = ad j := by
  unfold num
  rw [if_neg (by omega), if_neg (by omega), if_neg (by omega), if_neg (by omega), if_neg (by omega), if_neg (by omega), if_neg (by omega), show 20 + j - 20 = j by omega]
theorem arr_at {s : State} {A : Array Value} {ty : FieldType} (h : (Cond.arrayClass ty).before A s = true) : ∃ c : ClassId, ArrOfT s c ty ∧ s.vm.findClass ("[" ++ ty.toString) = some c := by
  obtain ⟨c, k, comp, h1, h2, h3⟩ := Cond.arrayClass_spec h
  exact ⟨c, fun n z => ⟨fun k h => (by cases h), k, h2, comp, h3⟩, h1⟩
theorem arr_ob {s : State} {A : Array Value} (h : (Cond.arrayOver (.object "java/lang/Object")).before A s = true) : ∃ c : ClassId, ArrOfT s c (.object "java/lang/Object") ∧ va_RA s c (.object "java/lang/Object") := by
  obtain ⟨comp, c, k, h1, -, h2, h3, h4⟩ := Cond.arrayOver_spec h
  exact ⟨c, fun n z => ⟨fun k h => (by cases h), k, h2, comp, h3⟩, k, comp, h2, h3, h1, h4⟩

theorem gg_of {s : State} {A : Array Value} {b L : Nat} {xs : Nat → Int32} (hX : va_X b L xs s s.heap) (hb : b < s.heap.size) (hL : L ≤ 260) (hts : ∀ w ∈ lw_tbl, w.before A s = true) (hgv : (Jvm.Cond.and given_1 narrow_1).before A s = true) : ∃ G : GG, GOK G ∧ G.1 = s.heap.size ∧ G.2.2.2 s s.heap ∧ va_K G.2.1 vwCl (gT G) s ∧ MiOK G ∧ ScrG G b L xs := by
  have hs := flat_of_before _ hgv
  have hA : ∀ a : Nat, a < s.heap.size → ¬ s.heap.size ≤ a := fun a h => Nat.not_le.mpr h
  have hcl : ∀ c : Nat, ∃ (cC : ClassId) (iS : Nat → Nat), ∀ q : vw_C, vwCl[c]? = some q → u_Kn s q.1 q.2.1 q.2.2 cC iS := by
    have hwA : ∀ w ∈ wA, w.before A s = true := fun w hw => hts w (List.mem_filter.mp hw).1
    obtain ⟨c0, i0, h0⟩ := u_known (C := RJx4a65c) (T := TJx4a65c) (N := 3) hwA inA_RJx4a65c (hwA _ in_Jx4a65c)
    obtain ⟨c1, i1, h1⟩ := u_known (C := RX0) (T := TX0) (N := 11) hwA inA_RX0 (hwA _ in_X0)
    obtain ⟨c2, i2, h2⟩ := u_known (C := RX1) (T := TX1) (N := 4) hwA inA_RX1 (hwA _ in_X1)
    obtain ⟨c3, i3, h3⟩ := u_known (C := RX3) (T := TX3) (N := 9) hwA inA_RX3 (hwA _ in_X3)
    obtain ⟨c4, i4, h4⟩ := u_known (C := RX4) (T := TX4) (N := 2) hwA inA_RX4 (hwA _ in_X4)
    obtain ⟨c5, i5, h5⟩ := u_known (C := RX5) (T := TX5) (N := 1) hwA inA_RX5 (hwA _ in_X5)
    obtain ⟨c6, i6, h6⟩ := u_known (C := RX6) (T := TX6) (N := 3) hwA inA_RX6 (hwA _ in_X6)
    obtain ⟨c7, i7, h7⟩ := u_known (C := RX7) (T := TX7) (N := 12) hwA inA_RX7 (hwA _ in_X7)
    intro c
    match c with
    | 0 => exact ⟨c0, i0, fun q hq => by cases hq; exact h0⟩
    | 1 => exact ⟨c1, i1, fun q hq => by cases hq; exact h1⟩
    | 2 => exact ⟨c2, i2, fun q hq => by cases hq; exact h2⟩
    | 3 => exact ⟨c3, i3, fun q hq => by cases hq; exact h3⟩
    | 4 => exact ⟨c4, i4, fun q hq => by cases hq; exact h4⟩
    | 5 => exact ⟨c5, i5, fun q hq => by cases hq; exact h5⟩
    | 6 => exact ⟨c6, i6, fun q hq => by cases hq; exact h6⟩
    | 7 => exact ⟨c7, i7, fun q hq => by cases hq; exact h7⟩
    | _ + 8 => exact ⟨c0, i0, fun q hq => by cases hq⟩
  obtain ⟨cI, aI, bI_⟩ := arr_at (ty := .int) (hts _ (List.mem_append_right _ (qm1 (List.mem_of_getElem? (i := 54) rfl))))
  obtain ⟨cO, aO, bO⟩ := arr_ob (hts _ (List.mem_append_right _ (qm3 (List.mem_of_getElem? (i := 40) rfl))))
  have n1 : (Cond.arrayOf (Term.static "java/util/ArrayList" "DEFAULTCAPACITY_EMPTY_ELEMENTDATA" "[Ljava/lang/Object;") (.object "java/lang/Object")).before A s = true := hs _ (by decide +kernel)
  have n2 : (Cond.eq (.length (Term.static "java/util/ArrayList" "DEFAULTCAPACITY_EMPTY_ELEMENTDATA" "[Ljava/lang/Object;")) (.int 0)).before A s = true := hs _ (by decide +kernel)
  obtain ⟨t10, e10, T10⟩ := va_Tof (A := fun q => s.heap.size ≤ q) (N := 0) (f := fun _ => .null) (by decide) n1 (Cond.eq_int n2 rfl) (fun j hj => absurd hj (Nat.not_lt_zero _)) hA
  have Z10 := va_Zof (A := fun q => s.heap.size ≤ q) (hts _ (List.mem_append_right _ (qm1 (List.mem_of_getElem? (i := 95) rfl)))) (hts _ (List.mem_append_right _ (qm1 (List.mem_of_getElem? (i := 7) rfl)))) e10 hA
  have n3 : (Cond.isRef (.static "java/lang/Throwable" "UNASSIGNED_STACK" "[Ljava/lang/StackTraceElement;")).before A s = true := hs _ (by decide +kernel)
  have n4 : (Cond.isRef (.static "java/lang/Throwable" "SUPPRESSED_SENTINEL" "Ljava/util/List;")).before A s = true := hs _ (by decide +kernel)
  have Q1 : vx_Zq Bundle.tN "UNASSIGNED_STACK" Bundle.steD (fun q => s.heap.size ≤ q) s s.heap := vx_Zqof (hts _ (List.mem_append_right _ (qm1 (List.mem_of_getElem? (i := 201) rfl)))) (hts _ (List.mem_append_right _ (qm1 (List.mem_of_getElem? (i := 8) rfl)))) n3 hA
  have Q2 : vx_Zq Bundle.tN "SUPPRESSED_SENTINEL" Bundle.listD (fun q => s.heap.size ≤ q) s s.heap := vx_Zqof (hts _ (List.mem_append_right _ (qm1 (List.mem_of_getElem? (i := 203) rfl)))) (hts _ (List.mem_append_right _ (qm1 (List.mem_of_getElem? (i := 8) rfl)))) n4 hA
  have p1 : ∀ i, i < ["PAN", "ROCKER", "SLUICE", "MONITOR"].length → (Cond.laysStatic "NuggetCamp$Gear" (["PAN", "ROCKER", "SLUICE", "MONITOR"].getD i "") "LNuggetCamp$Gear;").before A s = true := by
    intro i hi
    rcases (show i = 0 ∨ i = 1 ∨ i = 2 ∨ i = 3 from by have h4 : i < 4 := hi; omega) with rfl | rfl | rfl | rfl
    · exact hts _ (List.mem_append_right _ (qm3 (List.mem_of_getElem? (i := 171) rfl)))
    · exact hts _ (List.mem_append_right _ (qm4 (List.mem_of_getElem? (i := 122) rfl)))
    · exact hts _ (List.mem_append_right _ (qm4 (List.mem_of_getElem? (i := 123) rfl)))
    · exact hts _ (List.mem_append_right _ (qm4 (List.mem_of_getElem? (i := 124) rfl)))
  have p2 : ∀ i, i < ["PAN", "ROCKER", "SLUICE", "MONITOR"].length → (Cond.exactly (.static "NuggetCamp$Gear" (["PAN", "ROCKER", "SLUICE", "MONITOR"].getD i "") "LNuggetCamp$Gear;") "NuggetCamp$Gear").before A s = true := by
    intro i hi
    rcases (show i = 0 ∨ i = 1 ∨ i = 2 ∨ i = 3 from by have h4 : i < 4 := hi; omega) with rfl | rfl | rfl | rfl
    · have : (Cond.exactly (Term.static "NuggetCamp$Gear" "PAN" "LNuggetCamp$Gear;") "NuggetCamp$Gear").before A s = true := hs _ (by decide +kernel)
      exact this
    · have : (Cond.exactly (Term.static "NuggetCamp$Gear" "ROCKER" "LNuggetCamp$Gear;") "NuggetCamp$Gear").before A s = true := hs _ (by decide +kernel)
      exact this
    · have : (Cond.exactly (Term.static "NuggetCamp$Gear" "SLUICE" "LNuggetCamp$Gear;") "NuggetCamp$Gear").before A s = true := hs _ (by decide +kernel)
      exact this
    · have : (Cond.exactly (Term.static "NuggetCamp$Gear" "MONITOR" "LNuggetCamp$Gear;") "NuggetCamp$Gear").before A s = true := hs _ (by decide +kernel)
      exact this
  have p3 : ∀ q ∈ gF, ∀ i, i < ["PAN", "ROCKER", "SLUICE", "MONITOR"].length → (Cond.eq (.field (.static "NuggetCamp$Gear" (["PAN", "ROCKER", "SLUICE", "MONITOR"].getD i "") "LNuggetCamp$Gear;") q.1 q.2.1 q.2.2.1) (.int (q.2.2.2.getD i 0))).before A s = true := by
    intro q hq i hi
    simp only [gF, List.mem_cons, List.not_mem_nil, or_false] at hq
    rcases hq with rfl | rfl | rfl
    · rcases (show i = 0 ∨ i = 1 ∨ i = 2 ∨ i = 3 from by have h4 : i < 4 := hi; omega) with rfl | rfl | rfl | rfl
      · have : (Cond.eq (.field (Term.static "NuggetCamp$Gear" "PAN" "LNuggetCamp$Gear;") "NuggetCamp$Gear" "inches" "I") (.int 0)).before A s = true := hs _ (by decide +kernel)
        exact this
      · have : (Cond.eq (.field (Term.static "NuggetCamp$Gear" "ROCKER" "LNuggetCamp$Gear;") "NuggetCamp$Gear" "inches" "I") (.int 2)).before A s = true := hs _ (by decide +kernel)
        exact this
      · have : (Cond.eq (.field (Term.static "NuggetCamp$Gear" "SLUICE" "LNuggetCamp$Gear;") "NuggetCamp$Gear" "inches" "I") (.int 10)).before A s = true := hs _ (by decide +kernel)
        exact this
      · have : (Cond.eq (.field (Term.static "NuggetCamp$Gear" "MONITOR" "LNuggetCamp$Gear;") "NuggetCamp$Gear" "inches" "I") (.int 40)).before A s = true := hs _ (by decide +kernel)
        exact this
    · rcases (show i = 0 ∨ i = 1 ∨ i = 2 ∨ i = 3 from by have h4 : i < 4 := hi; omega) with rfl | rfl | rfl | rfl
      · have : (Cond.eq (.field (Term.static "NuggetCamp$Gear" "PAN" "LNuggetCamp$Gear;") "NuggetCamp$Gear" "mostTaken" "I") (.int 20)).before A s = true := hs _ (by decide +kernel)
        exact this
      · have : (Cond.eq (.field (Term.static "NuggetCamp$Gear" "ROCKER" "LNuggetCamp$Gear;") "NuggetCamp$Gear" "mostTaken" "I") (.int 100)).before A s = true := hs _ (by decide +kernel)
        exact this
      · have : (Cond.eq (.field (Term.static "NuggetCamp$Gear" "SLUICE" "LNuggetCamp$Gear;") "NuggetCamp$Gear" "mostTaken" "I") (.int 400)).before A s = true := hs _ (by decide +kernel)
        exact this
      · have : (Cond.eq (.field (Term.static "NuggetCamp$Gear" "MONITOR" "LNuggetCamp$Gear;") "NuggetCamp$Gear" "mostTaken" "I") (.int 2000)).before A s = true := hs _ (by decide +kernel)
        exact this
    · rcases (show i = 0 ∨ i = 1 ∨ i = 2 ∨ i = 3 from by have h4 : i < 4 := hi; omega) with rfl | rfl | rfl | rfl
      · have : (Cond.eq (.field (Term.static "NuggetCamp$Gear" "PAN" "LNuggetCamp$Gear;") "NuggetCamp$Gear" "hundredths" "I") (.int 90)).before A s = true := hs _ (by decide +kernel)
        exact this
      · have : (Cond.eq (.field (Term.static "NuggetCamp$Gear" "ROCKER" "LNuggetCamp$Gear;") "NuggetCamp$Gear" "hundredths" "I") (.int 70)).before A s = true := hs _ (by decide +kernel)
        exact this
      · have : (Cond.eq (.field (Term.static "NuggetCamp$Gear" "SLUICE" "LNuggetCamp$Gear;") "NuggetCamp$Gear" "hundredths" "I") (.int 80)).before A s = true := hs _ (by decide +kernel)
        exact this
      · have : (Cond.eq (.field (Term.static "NuggetCamp$Gear" "MONITOR" "LNuggetCamp$Gear;") "NuggetCamp$Gear" "hundredths" "I") (.int 50)).before A s = true := hs _ (by decide +kernel)
        exact this
  have p4 : ∀ i j, i < ["PAN", "ROCKER", "SLUICE", "MONITOR"].length → j < ["PAN", "ROCKER", "SLUICE", "MONITOR"].length → i ≠ j → (Cond.not (.eq (.static "NuggetCamp$Gear" (["PAN", "ROCKER", "SLUICE", "MONITOR"].getD i "") "LNuggetCamp$Gear;") (.static "NuggetCamp$Gear" (["PAN", "ROCKER", "SLUICE", "MONITOR"].getD j "") "LNuggetCamp$Gear;"))).before A s = true ∨ (Cond.not (.eq (.static "NuggetCamp$Gear" (["PAN", "ROCKER", "SLUICE", "MONITOR"].getD j "") "LNuggetCamp$Gear;") (.static "NuggetCamp$Gear" (["PAN", "ROCKER", "SLUICE", "MONITOR"].getD i "") "LNuggetCamp$Gear;"))).before A s = true := by
    have x01 : (Cond.not (.eq (Term.static "NuggetCamp$Gear" "PAN" "LNuggetCamp$Gear;") (Term.static "NuggetCamp$Gear" "ROCKER" "LNuggetCamp$Gear;"))).before A s = true := hs _ (by decide +kernel)
    have x02 : (Cond.not (.eq (Term.static "NuggetCamp$Gear" "PAN" "LNuggetCamp$Gear;") (Term.static "NuggetCamp$Gear" "SLUICE" "LNuggetCamp$Gear;"))).before A s = true := hs _ (by decide +kernel)
    have x03 : (Cond.not (.eq (Term.static "NuggetCamp$Gear" "PAN" "LNuggetCamp$Gear;") (Term.static "NuggetCamp$Gear" "MONITOR" "LNuggetCamp$Gear;"))).before A s = true := hs _ (by decide +kernel)
    have x12 : (Cond.not (.eq (Term.static "NuggetCamp$Gear" "ROCKER" "LNuggetCamp$Gear;") (Term.static "NuggetCamp$Gear" "SLUICE" "LNuggetCamp$Gear;"))).before A s = true := hs _ (by decide +kernel)
    have x13 : (Cond.not (.eq (Term.static "NuggetCamp$Gear" "ROCKER" "LNuggetCamp$Gear;") (Term.static "NuggetCamp$Gear" "MONITOR" "LNuggetCamp$Gear;"))).before A s = true := hs _ (by decide +kernel)
    have x23 : (Cond.not (.eq (Term.static "NuggetCamp$Gear" "SLUICE" "LNuggetCamp$Gear;") (Term.static "NuggetCamp$Gear" "MONITOR" "LNuggetCamp$Gear;"))).before A s = true := hs _ (by decide +kernel)
    intro i j hi hj hij
    have hi : i < 4 := hi
    have hj : j < 4 := hj
    rcases (show i = 0 ∨ i = 1 ∨ i = 2 ∨ i = 3 by omega) with rfl | rfl | rfl | rfl <;> rcases (show j = 0 ∨ j = 1 ∨ j = 2 ∨ j = 3 by omega) with rfl | rfl | rfl | rfl
    · exact absurd rfl hij
    · exact Or.inl x01
    · exact Or.inl x02
    · exact Or.inl x03
    · exact Or.inr x01
    · exact absurd rfl hij
    · exact Or.inl x12
    · exact Or.inl x13
    · exact Or.inr x02
    · exact Or.inr x12
    · exact absurd rfl hij
    · exact Or.inl x23
    · exact Or.inr x03
    · exact Or.inr x13
    · exact Or.inr x23
    · exact absurd rfl hij
  obtain ⟨ad, En, ead⟩ := va_Enof2 (A := fun q => s.heap.size ≤ q) p1 (hts _ (List.mem_append_right _ (qm1 (List.mem_of_getElem? (i := 24) rfl)))) p2 p3 p4 hA
  have n5 : (Cond.arrayOf (Term.static "NuggetCamp" "GEARS" "[LNuggetCamp$Gear;") (.object "NuggetCamp$Gear")).before A s = true := hs _ (by decide +kernel)
  have n6 : (Cond.eq (.length (Term.static "NuggetCamp" "GEARS" "[LNuggetCamp$Gear;")) (.int 4)).before A s = true := hs _ (by decide +kernel)
  have y0 : (Cond.eq (.elem (Term.static "NuggetCamp" "GEARS" "[LNuggetCamp$Gear;") (.int 0)) (Term.static "NuggetCamp$Gear" "PAN" "LNuggetCamp$Gear;")).before A s = true := hs _ (by decide +kernel)
  have y1 : (Cond.eq (.elem (Term.static "NuggetCamp" "GEARS" "[LNuggetCamp$Gear;") (.int 1)) (Term.static "NuggetCamp$Gear" "ROCKER" "LNuggetCamp$Gear;")).before A s = true := hs _ (by decide +kernel)
  have y2 : (Cond.eq (.elem (Term.static "NuggetCamp" "GEARS" "[LNuggetCamp$Gear;") (.int 2)) (Term.static "NuggetCamp$Gear" "SLUICE" "LNuggetCamp$Gear;")).before A s = true := hs _ (by decide +kernel)
  have y3 : (Cond.eq (.elem (Term.static "NuggetCamp" "GEARS" "[LNuggetCamp$Gear;") (.int 3)) (Term.static "NuggetCamp$Gear" "MONITOR" "LNuggetCamp$Gear;")).before A s = true := hs _ (by decide +kernel)
  obtain ⟨t11, e11, T11⟩ := va_Tof (A := fun q => s.heap.size ≤ q) (N := 4) (f := fun j => .ref (ad j)) (by decide) n5 (Cond.eq_int n6 rfl) (fun j hj => by
    rcases (show j = 0 ∨ j = 1 ∨ j = 2 ∨ j = 3 by omega) with rfl | rfl | rfl | rfl
    · exact Cond.eq_refs y0 (ead 0 (by decide)) rfl
    · exact Cond.eq_refs y1 (ead 1 (by decide)) rfl
    · exact Cond.eq_refs y2 (ead 2 (by decide)) rfl
    · exact Cond.eq_refs y3 (ead 3 (by decide)) rfl) hA
  have Z11 := va_Zof (A := fun q => s.heap.size ≤ q) (hts _ (List.mem_append_right _ (qm3 (List.mem_of_getElem? (i := 164) rfl)))) (hts _ (List.mem_append_right _ (qm1 (List.mem_of_getElem? (i := 1) rfl)))) e11 hA
  have c1 : (Cond.not (.castable "java/lang/IllegalArgumentException" "java/lang/IndexOutOfBoundsException")).before A s = true := hs _ (by decide +kernel)
  have c2 : (Cond.not (.castable "java/lang/IllegalStateException" "java/lang/IndexOutOfBoundsException")).before A s = true := hs _ (by decide +kernel)
  have c3 : (Cond.not (.castable "java/lang/IllegalStateException" "java/lang/IllegalArgumentException")).before A s = true := hs _ (by decide +kernel)
  have nM : (Cond.isRef (.mirror "[Ljava/lang/Object;")).before A s = true := hs _ (by decide +kernel)
  obtain ⟨mi, hmi⟩ := va_Mi.of nM
  have hdc : va_Dc s := va_Dc.of (hts _ (List.mem_append_right _ (qm4 (List.mem_of_getElem? (i := 114) rfl))))
  have s294 : (Cond.exactly (.string "NuggetCamp" 294) "java/lang/String").before A s = true := hs _ (by decide +kernel)
  have s301 : (Cond.exactly (.string "NuggetCamp" 301) "java/lang/String").before A s = true := hs _ (by decide +kernel)
  have s306 : (Cond.exactly (.string "NuggetCamp" 306) "java/lang/String").before A s = true := hs _ (by decide +kernel)
  have s312 : (Cond.exactly (.string "NuggetCamp" 312) "java/lang/String").before A s = true := hs _ (by decide +kernel)
  have s324 : (Cond.exactly (.string "NuggetCamp" 324) "java/lang/String").before A s = true := hs _ (by decide +kernel)
  have s318 : (Cond.exactly (.string "NuggetCamp" 318) "java/lang/String").before A s = true := hs _ (by decide +kernel)
  have hst : ∀ q ∈ ([(294, "there is no such cell, miner, claim or right"), (301, "an argument is out of its range"), (306, "this can not be done now"), (312, "there is no such miner"), (324, "there is no such method"), (318, "there is no such claim")] : List (Nat × String)), ∃ sa : Nat, vk_R RX7 q.1 q.2 sa s := by
    intro q hq
    simp only [List.mem_cons, List.not_mem_nil, or_false] at hq
    rcases hq with rfl | rfl | rfl | rfl | rfl | rfl
    · obtain ⟨a, _, _, _, h, _⟩ := Cond.exactly_spec s294
      exact ⟨a, vk_R.of (hts _ (List.mem_append_right _ (qm1 (List.mem_of_getElem? (i := 215) rfl)))) h⟩
    · obtain ⟨a, _, _, _, h, _⟩ := Cond.exactly_spec s301
      exact ⟨a, vk_R.of (hts _ (List.mem_append_right _ (qm2 (List.mem_of_getElem? (i := 68) rfl)))) h⟩
    · obtain ⟨a, _, _, _, h, _⟩ := Cond.exactly_spec s306
      exact ⟨a, vk_R.of (hts _ (List.mem_append_right _ (qm2 (List.mem_of_getElem? (i := 172) rfl)))) h⟩
    · obtain ⟨a, _, _, _, h, _⟩ := Cond.exactly_spec s312
      exact ⟨a, vk_R.of (hts _ (List.mem_append_right _ (qm2 (List.mem_of_getElem? (i := 120) rfl)))) h⟩
    · obtain ⟨a, _, _, _, h, _⟩ := Cond.exactly_spec s324
      exact ⟨a, vk_R.of (hts _ (List.mem_append_right _ (qm3 (List.mem_of_getElem? (i := 165) rfl)))) h⟩
    · obtain ⟨a, _, _, _, h, _⟩ := Cond.exactly_spec s318
      exact ⟨a, vk_R.of (hts _ (List.mem_append_right _ (qm2 (List.mem_of_getElem? (i := 145) rfl)))) h⟩
  have hnum : ∀ j, num cI cI cO cI t10 t11 mi ad (20 + j) = ad j := num_ad
  have hfn : (fun j => num cI cI cO cI t10 t11 mi ad (20 + j)) = ad := funext hnum
  have hfr : (fun j => Value.ref (num cI cI cO cI t10 t11 mi ad (20 + j))) = fun j => Value.ref (ad j) := funext fun j => by rw [hnum]
  refine ⟨(s.heap.size, (fun c => Classical.choose (hcl c), fun c => Classical.choose (Classical.choose_spec (hcl c))), num cI cI cO cI t10 t11 mi ad, fun U H => SFx (s.heap.size, (fun c => Classical.choose (hcl c), fun c => Classical.choose (Classical.choose_spec (hcl c))), num cI cI cO cI t10 t11 mi ad, fun _ _ => True) U H ∧ va_Mi "[Ljava/lang/Object;" mi U ∧ va_Dc U ∧ va_X b L xs U H), ⟨fun u U H hW h => ⟨h.1.warm hW, h.2.1.moved hW.alike, h.2.2.1.moved hW.alike, h.2.2.2.moved hW.alike⟩, fun u H H1 h hq => ⟨h.1.kept hq, h.2.1, h.2.2.1, h.2.2.2.kept (hq b (by obtain ⟨c, hc, -⟩ := h.2.2.2; exact (Array.getElem?_eq_some_iff.mp hc).1) (fun z => absurd (show s.heap.size ≤ b from z) (by omega)))⟩, fun u H h => h.1⟩, rfl, ⟨⟨fun x hx => ?_, fun x hx args => ?_, Q1, Q2, hst, Z10, T10, Z11, ?_, ?_, ⟨va_Nc.of c1, va_Nc.of c2, va_Nc.of c3⟩, hts _ (List.mem_append_right _ (qm3 (List.mem_of_getElem? (i := 40) rfl)))⟩, hmi, hdc, hX⟩, ⟨fun c q hq => Classical.choose_spec (Classical.choose_spec (hcl c)) q hq, fun k q hq => ?_⟩, fun u H h => ⟨h.2.1, h.2.2.1⟩, fun u H h => h.2.2.2, hb, hL⟩
  · obtain ⟨h1, h2⟩ := List.mem_filter.mp hx
    refine va_Nw.of ?_ (hts x (List.mem_append_right _ h1))
    cases x with
    | fieldLinkNest a i b n d hh => rfl
    | methodLinkNest a i y hh => rfl
    | castable a b => rfl
    | _ => cases h2
  · exact mv_at (State.WarmedH.refl s) (List.all_eq_true.mp wT_mv x hx) (hts x (List.mem_append_right _ (of_decide_eq_true (List.all_eq_true.mp wT_in x hx))))
  · show va_T (.object "NuggetCamp$Gear") t11 4 (fun j => Value.ref (num cI cI cO cI t10 t11 mi ad (20 + j))) (fun q => s.heap.size ≤ q) s s.heap
    rw [hfr]
    exact T11
  · show va_En "NuggetCamp$Gear" "LNuggetCamp$Gear;" ["PAN", "ROCKER", "SLUICE", "MONITOR"] gF (fun j => num cI cI cO cI t10 t11 mi ad (20 + j)) (fun q => s.heap.size ≤ q) s s.heap
    rw [hfn]
    exact En
  · match k with
    | 0 => cases hq; exact ⟨aI, bI_⟩
    | 1 => cases hq; exact ⟨aI, bI_⟩
    | 2 => cases hq; exact ⟨aO, bO⟩
    | 3 => cases hq; exact ⟨aI, bI_⟩
    | _ + 4 => cases hq
