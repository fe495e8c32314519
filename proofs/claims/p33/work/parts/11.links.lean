theorem qm1 {x : Cond} (h : x ∈ tables_1_1) : x ∈ tables_1 := List.mem_append_left _ h
theorem q1 {x : Cond} (i : Nat) (h : tables_1_1[i]? = some x) (g : goodWord x = true) : x ∈ wA := List.mem_filter.mpr ⟨List.mem_append_right _ (qm1 (List.mem_of_getElem? h)), g⟩
theorem qn1 {x : Cond} (i : Nat) (h : tables_1_1[i]? = some x) (g : isN x = true) : x ∈ wN := List.mem_filter.mpr ⟨qm1 (List.mem_of_getElem? h), g⟩
theorem qm2 {x : Cond} (h : x ∈ tables_1_2) : x ∈ tables_1 := List.mem_append_right _ (List.mem_append_left _ h)
theorem q2 {x : Cond} (i : Nat) (h : tables_1_2[i]? = some x) (g : goodWord x = true) : x ∈ wA := List.mem_filter.mpr ⟨List.mem_append_right _ (qm2 (List.mem_of_getElem? h)), g⟩
theorem qn2 {x : Cond} (i : Nat) (h : tables_1_2[i]? = some x) (g : isN x = true) : x ∈ wN := List.mem_filter.mpr ⟨qm2 (List.mem_of_getElem? h), g⟩
theorem qm3 {x : Cond} (h : x ∈ tables_1_3) : x ∈ tables_1 := List.mem_append_right _ (List.mem_append_right _ (List.mem_append_left _ h))
theorem q3 {x : Cond} (i : Nat) (h : tables_1_3[i]? = some x) (g : goodWord x = true) : x ∈ wA := List.mem_filter.mpr ⟨List.mem_append_right _ (qm3 (List.mem_of_getElem? h)), g⟩
theorem qn3 {x : Cond} (i : Nat) (h : tables_1_3[i]? = some x) (g : isN x = true) : x ∈ wN := List.mem_filter.mpr ⟨qm3 (List.mem_of_getElem? h), g⟩
theorem qm4 {x : Cond} (h : x ∈ tables_1_4) : x ∈ tables_1 := List.mem_append_right _ (List.mem_append_right _ (List.mem_append_right _ (h)))
theorem q4 {x : Cond} (i : Nat) (h : tables_1_4[i]? = some x) (g : goodWord x = true) : x ∈ wA := List.mem_filter.mpr ⟨List.mem_append_right _ (qm4 (List.mem_of_getElem? h)), g⟩
theorem qn4 {x : Cond} (i : Nat) (h : tables_1_4[i]? = some x) (g : isN x = true) : x ∈ wN := List.mem_filter.mpr ⟨qm4 (List.mem_of_getElem? h), g⟩
theorem qs1 {y : MethodName} {N : Nat} (i : Nat) (h0 : lw_privs_1[i]? = some (y, N)) : Cond.selects y.cls y y ∈ wA := by
  have h := List.mem_of_getElem? h0
  exact List.mem_filter.mpr ⟨List.mem_append_left _ (List.mem_map.mpr ⟨(y, N), List.mem_append_left _ h, rfl⟩), rfl⟩
theorem qs2 {y : MethodName} {N : Nat} (i : Nat) (h0 : lw_privs_2[i]? = some (y, N)) : Cond.selects y.cls y y ∈ wA := by
  have h := List.mem_of_getElem? h0
  exact List.mem_filter.mpr ⟨List.mem_append_left _ (List.mem_map.mpr ⟨(y, N), List.mem_append_right _ h, rfl⟩), rfl⟩
theorem ina {ws : List Cond} (ps : List Nat) (hp : ws = ps.filterMap (fun i => tables_1[i]?)) (h : ws.all goodWord = true) : ∀ x ∈ ws, x ∈ wA := by
  intro x hx
  have h1 := List.all_eq_true.mp h x hx
  rw [hp] at hx
  obtain ⟨i, -, hi⟩ := List.mem_filterMap.mp hx
  exact List.mem_filter.mpr ⟨List.mem_append_right _ (List.mem_of_getElem? hi), h1⟩
theorem inA_RJx4a65c : ∀ x ∈ u_ws RJx4a65c TJx4a65c 3, x ∈ wA := ina [105, 101, 103] (by decide +kernel) (by decide +kernel)
theorem inA_RX0 : ∀ x ∈ u_ws RX0 TX0 11, x ∈ wA := ina [595, 597, 599, 601, 603, 605, 607, 609, 611, 613, 615] (by decide +kernel) (by decide +kernel)
theorem inA_RX1 : ∀ x ∈ u_ws RX1 TX1 4, x ∈ wA := ina [45, 47, 49, 51] (by decide +kernel) (by decide +kernel)
theorem inA_RX3 : ∀ x ∈ u_ws RX3 TX3 9, x ∈ wA := ina [452, 454, 456, 458, 460, 462, 464, 466, 468] (by decide +kernel) (by decide +kernel)
theorem inA_RX4 : ∀ x ∈ u_ws RX4 TX4 2, x ∈ wA := ina [631, 633] (by decide +kernel) (by decide +kernel)
theorem inA_RX5 : ∀ x ∈ u_ws RX5 TX5 1, x ∈ wA := ina [79] (by decide +kernel) (by decide +kernel)
theorem inA_RX6 : ∀ x ∈ u_ws RX6 TX6 3, x ∈ wA := ina [65, 67, 69] (by decide +kernel) (by decide +kernel)
theorem inA_RX7 : ∀ x ∈ u_ws RX7 TX7 12, x ∈ wA := ina [120, 122, 124, 126, 128, 130, 132, 134, 136, 138, 140, 142] (by decide +kernel) (by decide +kernel)
theorem L_J15_105 : LkS RJ15 105 yJ3_checkIndex_8e157 cJ3_checkIndex_8e157 3 (Option.some Jvm.ClassFile.FieldType.int) 3 := ⟨⟨(q1 13 rfl rfl), (q2 29 rfl rfl), by decide, by decide, by decide +kernel⟩, (q2 27 rfl rfl), (q2 28 rfl rfl)⟩
theorem K_J7_2 : Cond.classLink RJ7 2 "java/lang/Object" ∈ wA := (q3 41 rfl rfl)
theorem K_J7_110 : Cond.classLink RJ7 110 "[Ljava/lang/Object;" ∈ wA := (q3 39 rfl rfl)
theorem L_J7_300 : LkS RJ7 300 yJ7_copyOf_6403c cJ7_copyOf_6403c 4 (Option.some (Jvm.ClassFile.FieldType.array (Jvm.ClassFile.FieldType.object "java/lang/Object"))) 3 := ⟨⟨(q1 19 rfl rfl), (q3 38 rfl rfl), by decide, by decide, by decide +kernel⟩, (q3 36 rfl rfl), (q3 37 rfl rfl)⟩
theorem L_J7_304 : LkS RJ7 304 yJ9_min_7cf53 cJ9_min_7cf53 2 (Option.some Jvm.ClassFile.FieldType.int) 2 := ⟨⟨(q1 15 rfl rfl), (q2 132 rfl rfl), by decide, by decide, by decide +kernel⟩, (q3 42 rfl rfl), (q2 131 rfl rfl)⟩
theorem L_J8_194 : LkS RJ8 194 yJ9_max_7cf53 cJ9_max_7cf53 2 (Option.some Jvm.ClassFile.FieldType.int) 2 := ⟨⟨(q1 15 rfl rfl), (q3 12 rfl rfl), by decide, by decide, by decide +kernel⟩, (q3 10 rfl rfl), (q3 11 rfl rfl)⟩
theorem L_J8_201 : LkS RJ8 201 yJ8_hugeLength_7cf53 cJ8_hugeLength_7cf53 3 (Option.some Jvm.ClassFile.FieldType.int) 2 := ⟨⟨(q1 18 rfl rfl), (q3 16 rfl rfl), by decide, by decide, by decide +kernel⟩, (q3 14 rfl rfl), (q3 15 rfl rfl)⟩
theorem N_J8_200 : Cond.constant RJ8 200 (2147483639) ∈ wA := (q3 13 rfl rfl)
theorem K_Jx4a65c_7 : Cond.classLink RJx4a65c 7 "java/lang/Object" ∈ wA := (q3 47 rfl rfl)
theorem g_Jx4a65c_9 : FG RJx4a65c 9 0 1 := ⟨RJx4a65c, TJx4a65c, 3, "java/util/ArrayList", rfl, inA_RJx4a65c, by decide, Or.inl ⟨(q1 96 rfl rfl), Or.inl rfl⟩⟩
theorem g_Jx4a65c_48 : FG RJx4a65c 48 0 2 := ⟨RJx4a65c, TJx4a65c, 3, "java/util/ArrayList", rfl, inA_RJx4a65c, by decide, Or.inl ⟨(q1 97 rfl rfl), Or.inl rfl⟩⟩
theorem g_Jx4a65c_63 : FG RJx4a65c 63 0 0 := ⟨RJx4a65c, TJx4a65c, 3, "java/util/ArrayList", rfl, inA_RJx4a65c, by decide, Or.inl ⟨(q1 99 rfl rfl), Or.inr (q1 100 rfl rfl)⟩⟩
theorem S_Jx4a65c_39 : Cond.fieldLink RJx4a65c 39 "java/util/ArrayList" "DEFAULTCAPACITY_EMPTY_ELEMENTDATA" "[Ljava/lang/Object;" ∈ wA := (q1 94 rfl rfl)
theorem L_Jx4a65c_1 : LkI RJx4a65c 1 yJxc12de_init_da8c8 cJxc12de_init_da8c8 1 0 := ⟨⟨(q1 6 rfl rfl), (q1 89 rfl rfl), by decide, by decide, by decide +kernel⟩, Or.inl (q1 87 rfl rfl), (q1 88 rfl rfl), rfl⟩
theorem L_Jx4a65c_66 : LkS RJx4a65c 66 yJ7_copyOf_1904c cJ7_copyOf_1904c 2 (Option.some (Jvm.ClassFile.FieldType.array (Jvm.ClassFile.FieldType.object "java/lang/Object"))) 2 := ⟨⟨(q1 19 rfl rfl), (q3 19 rfl rfl), by decide, by decide, by decide +kernel⟩, (q3 17 rfl rfl), (q3 18 rfl rfl)⟩
theorem L_Jx4a65c_73 : LkS RJx4a65c 73 yJ8_newLength_cabcc cJ8_newLength_cabcc 4 (Option.some Jvm.ClassFile.FieldType.int) 3 := ⟨⟨(q1 18 rfl rfl), (q3 9 rfl rfl), by decide, by decide, by decide +kernel⟩, (q3 7 rfl rfl), (q3 8 rfl rfl)⟩
theorem L_Jx4a65c_79 : LkS RJx4a65c 79 yJ9_max_7cf53 cJ9_max_7cf53 2 (Option.some Jvm.ClassFile.FieldType.int) 2 := ⟨⟨(q1 15 rfl rfl), (q3 12 rfl rfl), by decide, by decide, by decide +kernel⟩, (q3 46 rfl rfl), (q3 11 rfl rfl)⟩
theorem L_Jx4a65c_118 : LkS RJx4a65c 118 yJ15_checkIndex_7cf53 cJ15_checkIndex_7cf53 2 (Option.some Jvm.ClassFile.FieldType.int) 2 := ⟨⟨(q1 12 rfl rfl), (q2 26 rfl rfl), by decide, by decide, by decide +kernel⟩, (q2 24 rfl rfl), (q2 25 rfl rfl)⟩
theorem L_Jx4a65c_69 : LkV RJx4a65c 69 yJx4a65c_grow_92f84 cJx4a65c_grow_92f84 4 (Option.some (Jvm.ClassFile.FieldType.array (Jvm.ClassFile.FieldType.object "java/lang/Object"))) 1 := ⟨⟨(q1 7 rfl rfl), (q3 6 rfl rfl), by decide, by decide, by decide +kernel⟩, (q3 3 rfl rfl), (q3 5 rfl rfl), (qs1 12 rfl)⟩
theorem L_Jx4a65c_123 : LkV RJx4a65c 123 yJx4a65c_elementData_915e3 cJx4a65c_elementData_915e3 2 (Option.some (Jvm.ClassFile.FieldType.object "java/lang/Object")) 1 := ⟨⟨(q1 7 rfl rfl), (q2 33 rfl rfl), by decide, by decide, by decide +kernel⟩, (q2 30 rfl rfl), (q2 31 rfl rfl), (q2 32 rfl rfl)⟩
theorem L_Jx4a65c_129 : LkV RJx4a65c 129 yJx4a65c_grow_d5877 cJx4a65c_grow_d5877 1 (Option.some (Jvm.ClassFile.FieldType.array (Jvm.ClassFile.FieldType.object "java/lang/Object"))) 0 := ⟨⟨(q1 7 rfl rfl), (q3 2 rfl rfl), by decide, by decide, by decide +kernel⟩, (q2 239 rfl rfl), (q3 1 rfl rfl), (qs1 11 rfl)⟩
theorem L_Jx4a65c_131 : LkV RJx4a65c 131 yJx4a65c_add_72be8 cJx4a65c_add_72be8 4 (Option.none : Option Jvm.ClassFile.FieldType) 3 := ⟨⟨(q1 7 rfl rfl), (q2 238 rfl rfl), by decide, by decide, by decide +kernel⟩, (q2 235 rfl rfl), (q2 237 rfl rfl), (qs1 10 rfl)⟩
theorem f_Jx4a65c_9 : FL RJx4a65c 9 0 1 (.array (.object "java/lang/Object")) false := ⟨RJx4a65c, TJx4a65c, 3, "java/util/ArrayList", tyJx4a65c, rfl, inA_RJx4a65c, by decide, Or.inl ⟨(q1 96 rfl rfl), Or.inl rfl⟩, tyJx4a65c_ok, nmJx4a65c, rfl, rfl, fun h => absurd h (by decide)⟩
theorem f_Jx4a65c_48 : FL RJx4a65c 48 0 2 (.int) false := ⟨RJx4a65c, TJx4a65c, 3, "java/util/ArrayList", tyJx4a65c, rfl, inA_RJx4a65c, by decide, Or.inl ⟨(q1 97 rfl rfl), Or.inl rfl⟩, tyJx4a65c_ok, nmJx4a65c, rfl, rfl, fun h => absurd h (by decide)⟩
theorem f_Jx4a65c_63 : FL RJx4a65c 63 0 0 (.int) false := ⟨RJx4a65c, TJx4a65c, 3, "java/util/ArrayList", tyJx4a65c, rfl, inA_RJx4a65c, by decide, Or.inl ⟨(q1 99 rfl rfl), Or.inr (q1 100 rfl rfl)⟩, tyJx4a65c_ok, nmJx4a65c, rfl, rfl, fun h => absurd h (by decide)⟩
theorem L_Jxa1e45_1 : Cond.methodLink RJxa1e45 1 objectInit ∈ wA := (q1 93 rfl rfl)
theorem L_Jxc12de_1 : LkI RJxc12de 1 yJxa1e45_init_da8c8 cJxa1e45_init_da8c8 1 0 := ⟨⟨(q1 5 rfl rfl), (q1 92 rfl rfl), by decide, by decide, by decide +kernel⟩, Or.inl (q1 90 rfl rfl), (q1 91 rfl rfl), rfl⟩
theorem f_Jxc12de_7 : FL RJxc12de 7 0 0 (.int) false := ⟨RJx4a65c, TJx4a65c, 3, "java/util/AbstractList", tyJx4a65c, rfl, inA_RJx4a65c, by decide, Or.inl ⟨(q1 98 rfl rfl), Or.inl rfl⟩, tyJx4a65c_ok, nmJx4a65c, rfl, rfl, fun h => absurd h (by decide)⟩
theorem L_L_154 : LkI RL 154 yX7_init cX7_init 1 0 := ⟨⟨(q1 1 rfl rfl), (q1 29 rfl rfl), by decide, by decide, by decide +kernel⟩, Or.inl (q1 27 rfl rfl), (q1 28 rfl rfl), rfl⟩
theorem L_L_54 : LkS RL 54 yL_sends cL_sends 3 (Option.some Jvm.ClassFile.FieldType.int) 3 := ⟨⟨(q1 0 rfl rfl), (q3 239 rfl rfl), by decide, by decide, by decide +kernel⟩, (q3 237 rfl rfl), (q3 238 rfl rfl)⟩
theorem L_L_63 : LkS RL 63 yL_backs cL_backs 5 (Option.some Jvm.ClassFile.FieldType.int) 5 := ⟨⟨(q1 0 rfl rfl), (q4 14 rfl rfl), by decide, by decide, by decide +kernel⟩, (q4 12 rfl rfl), (q4 13 rfl rfl)⟩
theorem L_L_123 : Cond.methodLink RL 123 yL_act ∈ wA := (q2 149 rfl rfl)
theorem L_L_137 : LkS RL 137 yL_all cL_all 5 (Option.some Jvm.ClassFile.FieldType.long) 2 := ⟨⟨(q1 0 rfl rfl), (q1 155 rfl rfl), by decide, by decide, by decide +kernel⟩, (q1 153 rfl rfl), (q1 154 rfl rfl)⟩
theorem L_L_141 : LkS RL 141 yL_no cL_no 5 (Option.some Jvm.ClassFile.FieldType.boolean) 5 := ⟨⟨(q1 0 rfl rfl), (q2 148 rfl rfl), by decide, by decide, by decide +kernel⟩, (q2 146 rfl rfl), (q2 147 rfl rfl)⟩
theorem L_L_146 : LkS RL 146 yL_off cL_off 5 (Option.some Jvm.ClassFile.FieldType.boolean) 5 := ⟨⟨(q1 0 rfl rfl), (q4 73 rfl rfl), by decide, by decide, by decide +kernel⟩, (q4 71 rfl rfl), (q4 72 rfl rfl)⟩
theorem L_L_149 : LkS RL 149 yL_bars cL_bars 5 (Option.some Jvm.ClassFile.FieldType.boolean) 5 := ⟨⟨(q1 0 rfl rfl), (q4 76 rfl rfl), by decide, by decide, by decide +kernel⟩, (q4 74 rfl rfl), (q4 75 rfl rfl)⟩
theorem L_L_155 : LkS RL 155 yL_isRefused cL_isRefused 14 (Option.some Jvm.ClassFile.FieldType.boolean) 3 := ⟨⟨(q1 0 rfl rfl), (q1 152 rfl rfl), by decide, by decide, by decide +kernel⟩, (q1 150 rfl rfl), (q1 151 rfl rfl)⟩
theorem L_L_159 : LkS RL 159 yL_pick cL_pick 2 (Option.some Jvm.ClassFile.FieldType.int) 2 := ⟨⟨(q1 0 rfl rfl), (q1 147 rfl rfl), by decide, by decide, by decide +kernel⟩, (q1 145 rfl rfl), (q1 146 rfl rfl)⟩
theorem L_L_163 : LkS RL 163 yL_isTold cL_isTold 15 (Option.some Jvm.ClassFile.FieldType.boolean) 6 := ⟨⟨(q1 0 rfl rfl), (q4 90 rfl rfl), by decide, by decide, by decide +kernel⟩, (q4 88 rfl rfl), (q4 89 rfl rfl)⟩
theorem L_L_167 : LkS RL 167 yL_isDug cL_isDug 23 (Option.some Jvm.ClassFile.FieldType.boolean) 5 := ⟨⟨(q1 0 rfl rfl), (q4 87 rfl rfl), by decide, by decide, by decide +kernel⟩, (q4 85 rfl rfl), (q4 86 rfl rfl)⟩
theorem L_L_171 : LkS RL 171 yL_isTraded cL_isTraded 17 (Option.some Jvm.ClassFile.FieldType.boolean) 5 := ⟨⟨(q1 0 rfl rfl), (q4 93 rfl rfl), by decide, by decide, by decide +kernel⟩, (q4 91 rfl rfl), (q4 92 rfl rfl)⟩
theorem L_L_174 : LkS RL 174 yL_isPassed cL_isPassed 10 (Option.some Jvm.ClassFile.FieldType.boolean) 3 := ⟨⟨(q1 0 rfl rfl), (q4 96 rfl rfl), by decide, by decide, by decide +kernel⟩, (q4 94 rfl rfl), (q4 95 rfl rfl)⟩
theorem L_L_177 : LkS RL 177 yL_isSound cL_isSound 15 (Option.some Jvm.ClassFile.FieldType.boolean) 5 := ⟨⟨(q1 0 rfl rfl), (q4 80 rfl rfl), by decide, by decide, by decide +kernel⟩, (q4 78 rfl rfl), (q4 79 rfl rfl)⟩
theorem L_L_181 : LkS RL 181 yL_isPlanned cL_isPlanned 11 (Option.some Jvm.ClassFile.FieldType.boolean) 5 := ⟨⟨(q1 0 rfl rfl), (q4 84 rfl rfl), by decide, by decide, by decide +kernel⟩, (q4 82 rfl rfl), (q4 83 rfl rfl)⟩
theorem L_L_9 : LkV RL 9 yX7_ground cX7_ground 5 (Option.some Jvm.ClassFile.FieldType.int) 3 := ⟨⟨(q1 1 rfl rfl), (q2 158 rfl rfl), by decide, by decide, by decide +kernel⟩, (q2 155 rfl rfl), (q2 156 rfl rfl), (q2 157 rfl rfl)⟩
theorem L_L_15 : LkV RL 15 yX7_flow cX7_flow 3 (Option.some Jvm.ClassFile.FieldType.int) 1 := ⟨⟨(q1 1 rfl rfl), (q2 186 rfl rfl), by decide, by decide, by decide +kernel⟩, (q2 183 rfl rfl), (q2 184 rfl rfl), (q2 185 rfl rfl)⟩
theorem L_L_19 : LkV RL 19 yX7_miner cX7_miner 3 (Option.some Jvm.ClassFile.FieldType.int) 2 := ⟨⟨(q1 1 rfl rfl), (q2 190 rfl rfl), by decide, by decide, by decide +kernel⟩, (q2 187 rfl rfl), (q2 188 rfl rfl), (q2 189 rfl rfl)⟩
theorem L_L_23 : LkV RL 23 yX7_pass cX7_pass 3 (Option.some Jvm.ClassFile.FieldType.int) 1 := ⟨⟨(q1 1 rfl rfl), (q3 51 rfl rfl), by decide, by decide, by decide +kernel⟩, (q3 48 rfl rfl), (q3 49 rfl rfl), (q3 50 rfl rfl)⟩
theorem L_L_26 : LkV RL 26 yX7_meet cX7_meet 6 (Option.some Jvm.ClassFile.FieldType.boolean) 4 := ⟨⟨(q1 1 rfl rfl), (q3 79 rfl rfl), by decide, by decide, by decide +kernel⟩, (q3 76 rfl rfl), (q3 77 rfl rfl), (q3 78 rfl rfl)⟩
theorem L_L_30 : LkV RL 30 yX7_peg cX7_peg 5 (Option.some Jvm.ClassFile.FieldType.int) 3 := ⟨⟨(q1 1 rfl rfl), (q3 83 rfl rfl), by decide, by decide, by decide +kernel⟩, (q3 80 rfl rfl), (q3 81 rfl rfl), (q3 82 rfl rfl)⟩
theorem L_L_33 : LkV RL 33 yX7_right cX7_right 4 (Option.some Jvm.ClassFile.FieldType.int) 2 := ⟨⟨(q1 1 rfl rfl), (q3 141 rfl rfl), by decide, by decide, by decide +kernel⟩, (q3 138 rfl rfl), (q3 139 rfl rfl), (q3 140 rfl rfl)⟩
theorem L_L_36 : LkV RL 36 yX7_work cX7_work 8 (Option.some Jvm.ClassFile.FieldType.int) 3 := ⟨⟨(q1 1 rfl rfl), (q3 159 rfl rfl), by decide, by decide, by decide +kernel⟩, (q3 156 rfl rfl), (q3 157 rfl rfl), (q3 158 rfl rfl)⟩
theorem L_L_39 : LkV RL 39 yX7_sample cX7_sample 2 (Option.some Jvm.ClassFile.FieldType.int) 1 := ⟨⟨(q1 1 rfl rfl), (q1 164 rfl rfl), by decide, by decide, by decide +kernel⟩, (q1 161 rfl rfl), (q1 162 rfl rfl), (q1 163 rfl rfl)⟩
theorem L_L_42 : LkV RL 42 yX7_salt cX7_salt 5 (Option.some Jvm.ClassFile.FieldType.int) 3 := ⟨⟨(q1 1 rfl rfl), (q3 201 rfl rfl), by decide, by decide, by decide +kernel⟩, (q3 198 rfl rfl), (q3 199 rfl rfl), (q3 200 rfl rfl)⟩
theorem L_L_45 : LkV RL 45 yX7_brass cX7_brass 4 (Option.some Jvm.ClassFile.FieldType.int) 2 := ⟨⟨(q1 1 rfl rfl), (q3 214 rfl rfl), by decide, by decide, by decide +kernel⟩, (q3 211 rfl rfl), (q3 212 rfl rfl), (q3 213 rfl rfl)⟩
theorem L_L_48 : LkV RL 48 yX7_sell cX7_sell 7 (Option.some Jvm.ClassFile.FieldType.int) 2 := ⟨⟨(q1 1 rfl rfl), (q3 218 rfl rfl), by decide, by decide, by decide +kernel⟩, (q3 215 rfl rfl), (q3 216 rfl rfl), (q3 217 rfl rfl)⟩
theorem L_L_51 : LkV RL 51 yX7_rate cX7_rate 3 (Option.some Jvm.ClassFile.FieldType.int) 1 := ⟨⟨(q1 1 rfl rfl), (q3 236 rfl rfl), by decide, by decide, by decide +kernel⟩, (q3 233 rfl rfl), (q3 234 rfl rfl), (q3 235 rfl rfl)⟩
theorem L_L_60 : LkV RL 60 yX7_buy cX7_buy 5 (Option.some Jvm.ClassFile.FieldType.int) 2 := ⟨⟨(q1 1 rfl rfl), (q4 11 rfl rfl), by decide, by decide, by decide +kernel⟩, (q4 8 rfl rfl), (q4 9 rfl rfl), (q4 10 rfl rfl)⟩
theorem L_L_67 : LkV RL 67 yX7_end cX7_end 5 (Option.some Jvm.ClassFile.FieldType.int) 2 := ⟨⟨(q1 1 rfl rfl), (q4 26 rfl rfl), by decide, by decide, by decide +kernel⟩, (q4 23 rfl rfl), (q4 24 rfl rfl), (q4 25 rfl rfl)⟩
theorem L_L_70 : LkV RL 70 yX7_trade cX7_trade 9 (Option.some Jvm.ClassFile.FieldType.int) 3 := ⟨⟨(q1 1 rfl rfl), (q4 30 rfl rfl), by decide, by decide, by decide +kernel⟩, (q4 27 rfl rfl), (q4 28 rfl rfl), (q4 29 rfl rfl)⟩
theorem L_L_73 : LkV RL 73 yX7_suit cX7_suit 6 (Option.some Jvm.ClassFile.FieldType.int) 1 := ⟨⟨(q1 1 rfl rfl), (q4 42 rfl rfl), by decide, by decide, by decide +kernel⟩, (q4 39 rfl rfl), (q4 40 rfl rfl), (q4 41 rfl rfl)⟩
theorem L_L_76 : LkV RL 76 yX7_rumour cX7_rumour 4 (Option.some Jvm.ClassFile.FieldType.int) 2 := ⟨⟨(q1 1 rfl rfl), (q4 46 rfl rfl), by decide, by decide, by decide +kernel⟩, (q4 43 rfl rfl), (q4 44 rfl rfl), (q4 45 rfl rfl)⟩
theorem L_L_79 : LkV RL 79 yX7_holds cX7_holds 2 (Option.some Jvm.ClassFile.FieldType.int) 1 := ⟨⟨(q1 1 rfl rfl), (q2 11 rfl rfl), by decide, by decide, by decide +kernel⟩, (q2 8 rfl rfl), (q2 9 rfl rfl), (q2 10 rfl rfl)⟩
theorem L_L_82 : LkV RL 82 yX7_ofClaim cX7_ofClaim 4 (Option.some Jvm.ClassFile.FieldType.int) 2 := ⟨⟨(q1 1 rfl rfl), (q2 140 rfl rfl), by decide, by decide, by decide +kernel⟩, (q2 137 rfl rfl), (q2 138 rfl rfl), (q2 139 rfl rfl)⟩
theorem L_L_85 : LkV RL 85 yX7_ofMiner cX7_ofMiner 4 (Option.some Jvm.ClassFile.FieldType.int) 2 := ⟨⟨(q1 1 rfl rfl), (q2 115 rfl rfl), by decide, by decide, by decide +kernel⟩, (q2 112 rfl rfl), (q2 113 rfl rfl), (q2 114 rfl rfl)⟩
theorem L_L_88 : LkV RL 88 yX7_gets cX7_gets 2 (Option.some Jvm.ClassFile.FieldType.int) 1 := ⟨⟨(q1 1 rfl rfl), (q4 54 rfl rfl), by decide, by decide, by decide +kernel⟩, (q4 51 rfl rfl), (q4 52 rfl rfl), (q4 53 rfl rfl)⟩
theorem L_L_91 : LkV RL 91 yX7_gold cX7_gold 2 (Option.some Jvm.ClassFile.FieldType.int) 1 := ⟨⟨(q1 1 rfl rfl), (q2 52 rfl rfl), by decide, by decide, by decide +kernel⟩, (q2 49 rfl rfl), (q2 50 rfl rfl), (q2 51 rfl rfl)⟩
theorem L_L_94 : LkV RL 94 yX7_camp cX7_camp 2 (Option.some Jvm.ClassFile.FieldType.int) 1 := ⟨⟨(q1 1 rfl rfl), (q2 87 rfl rfl), by decide, by decide, by decide +kernel⟩, (q2 84 rfl rfl), (q2 85 rfl rfl), (q2 86 rfl rfl)⟩
theorem L_L_97 : LkV RL 97 yX7_belief cX7_belief 2 (Option.some Jvm.ClassFile.FieldType.int) 1 := ⟨⟨(q1 1 rfl rfl), (q2 43 rfl rfl), by decide, by decide, by decide +kernel⟩, (q2 40 rfl rfl), (q2 41 rfl rfl), (q2 42 rfl rfl)⟩
theorem L_L_100 : LkV RL 100 yX7_plan cX7_plan 5 (Option.some Jvm.ClassFile.FieldType.int) 2 := ⟨⟨(q1 1 rfl rfl), (q4 58 rfl rfl), by decide, by decide, by decide +kernel⟩, (q4 55 rfl rfl), (q4 56 rfl rfl), (q4 57 rfl rfl)⟩
theorem L_L_103 : LkV RL 103 yX7_planCell cX7_planCell 5 (Option.some Jvm.ClassFile.FieldType.int) 3 := ⟨⟨(q1 1 rfl rfl), (q4 66 rfl rfl), by decide, by decide, by decide +kernel⟩, (q4 63 rfl rfl), (q4 64 rfl rfl), (q4 65 rfl rfl)⟩
theorem L_L_115 : LkV RL 115 yX7_freight cX7_freight 3 (Option.none : Option Jvm.ClassFile.FieldType) 2 := ⟨⟨(q1 1 rfl rfl), (q4 3 rfl rfl), by decide, by decide, by decide +kernel⟩, (q4 0 rfl rfl), (q4 1 rfl rfl), (q4 2 rfl rfl)⟩
theorem L_L_119 : LkV RL 119 yX7_back cX7_back 7 (Option.none : Option Jvm.ClassFile.FieldType) 4 := ⟨⟨(q1 1 rfl rfl), (q4 18 rfl rfl), by decide, by decide, by decide +kernel⟩, (q4 15 rfl rfl), (q4 16 rfl rfl), (q4 17 rfl rfl)⟩
theorem L_L_127 : LkV RL 127 yX7_day cX7_day 1 (Option.some Jvm.ClassFile.FieldType.int) 0 := ⟨⟨(q1 1 rfl rfl), (q1 159 rfl rfl), by decide, by decide, by decide +kernel⟩, (q1 156 rfl rfl), (q1 157 rfl rfl), (q1 158 rfl rfl)⟩
theorem N_L_7 : Cond.constant RL 7 (532032589) ∈ wA := (q1 148 rfl rfl)
theorem N_L_8 : Cond.constant RL 8 (2147483647) ∈ wA := (q1 149 rfl rfl)
theorem N_L_108 : Cond.constant RL 108 (-1791000000) ∈ wA := (q4 67 rfl rfl)
theorem N_L_111 : Cond.constant RL 111 (-1792000000) ∈ wA := (q4 68 rfl rfl)
theorem N_L_114 : Cond.constant RL 114 (-1793000000) ∈ wA := (q4 69 rfl rfl)
theorem N_L_145 : Cond.constant RL 145 (100001) ∈ wA := (q4 70 rfl rfl)
theorem N_L_152 : Cond.constant RL 152 (1000001) ∈ wA := (q4 77 rfl rfl)
theorem N_L_153 : Cond.constant RL 153 (100000) ∈ wA := (q4 81 rfl rfl)
theorem N_L_131 : Cond.constantLong RL 131 (31) ∈ wA := (q1 160 rfl rfl)
theorem N_L_133 : Cond.constantLong RL 133 (7) ∈ wA := (q2 7 rfl rfl)
theorem N_L_135 : Cond.constantLong RL 135 (3) ∈ wA := (q2 39 rfl rfl)
theorem K_L_10 : Cond.classLink RL 10 "NuggetCamp" ∈ wA := (q1 25 rfl rfl)
theorem g_X0_31 : FG RX0 31 1 3 := ⟨RX0, TX0, 11, "NuggetCamp$Claim", rfl, inA_RX0, by decide, Or.inl ⟨(q3 99 rfl rfl), Or.inl rfl⟩⟩
theorem g_X0_34 : FG RX0 34 1 0 := ⟨RX0, TX0, 11, "NuggetCamp$Claim", rfl, inA_RX0, by decide, Or.inl ⟨(q3 93 rfl rfl), Or.inl rfl⟩⟩
theorem g_X0_37 : FG RX0 37 1 1 := ⟨RX0, TX0, 11, "NuggetCamp$Claim", rfl, inA_RX0, by decide, Or.inl ⟨(q3 95 rfl rfl), Or.inl rfl⟩⟩
theorem L_X0_3 : Cond.methodLink RX0 3 objectInit ∈ wA := (q3 92 rfl rfl)
theorem f_X0_9 : FL RX0 9 1 5 (.boolean) false := ⟨RX0, TX0, 11, "NuggetCamp$Claim", tyX0, rfl, inA_RX0, by decide, Or.inl ⟨(q3 103 rfl rfl), Or.inl rfl⟩, tyX0_ok, nmX0, rfl, rfl, fun h => absurd h (by decide)⟩
theorem f_X0_15 : FL RX0 15 1 6 (.int) false := ⟨RX0, TX0, 11, "NuggetCamp$Claim", tyX0, rfl, inA_RX0, by decide, Or.inl ⟨(q3 105 rfl rfl), Or.inl rfl⟩, tyX0_ok, nmX0, rfl, rfl, fun h => absurd h (by decide)⟩
theorem f_X0_19 : FL RX0 19 1 7 (.int) false := ⟨RX0, TX0, 11, "NuggetCamp$Claim", tyX0, rfl, inA_RX0, by decide, Or.inl ⟨(q3 107 rfl rfl), Or.inl rfl⟩, tyX0_ok, nmX0, rfl, rfl, fun h => absurd h (by decide)⟩
theorem f_X0_22 : FL RX0 22 1 8 (.int) false := ⟨RX0, TX0, 11, "NuggetCamp$Claim", tyX0, rfl, inA_RX0, by decide, Or.inl ⟨(q3 109 rfl rfl), Or.inl rfl⟩, tyX0_ok, nmX0, rfl, rfl, fun h => absurd h (by decide)⟩
theorem f_X0_25 : FL RX0 25 1 9 (.boolean) false := ⟨RX0, TX0, 11, "NuggetCamp$Claim", tyX0, rfl, inA_RX0, by decide, Or.inl ⟨(q3 111 rfl rfl), Or.inl rfl⟩, tyX0_ok, nmX0, rfl, rfl, fun h => absurd h (by decide)⟩
theorem f_X0_28 : FL RX0 28 1 10 (.boolean) false := ⟨RX0, TX0, 11, "NuggetCamp$Claim", tyX0, rfl, inA_RX0, by decide, Or.inl ⟨(q3 113 rfl rfl), Or.inl rfl⟩, tyX0_ok, nmX0, rfl, rfl, fun h => absurd h (by decide)⟩
theorem f_X0_31 : FL RX0 31 1 3 (.int) false := ⟨RX0, TX0, 11, "NuggetCamp$Claim", tyX0, rfl, inA_RX0, by decide, Or.inl ⟨(q3 99 rfl rfl), Or.inl rfl⟩, tyX0_ok, nmX0, rfl, rfl, fun h => absurd h (by decide)⟩
theorem f_X0_34 : FL RX0 34 1 0 (.int) true := ⟨RX0, TX0, 11, "NuggetCamp$Claim", tyX0, rfl, inA_RX0, by decide, Or.inl ⟨(q3 93 rfl rfl), Or.inl rfl⟩, tyX0_ok, nmX0, rfl, rfl, fun _ => rfl⟩
theorem f_X0_37 : FL RX0 37 1 1 (.int) true := ⟨RX0, TX0, 11, "NuggetCamp$Claim", tyX0, rfl, inA_RX0, by decide, Or.inl ⟨(q3 95 rfl rfl), Or.inl rfl⟩, tyX0_ok, nmX0, rfl, rfl, fun _ => rfl⟩
theorem f_X0_40 : FL RX0 40 1 2 (.int) true := ⟨RX0, TX0, 11, "NuggetCamp$Claim", tyX0, rfl, inA_RX0, by decide, Or.inl ⟨(q3 97 rfl rfl), Or.inl rfl⟩, tyX0_ok, nmX0, rfl, rfl, fun _ => rfl⟩
theorem f_X0_43 : FL RX0 43 1 4 (.int) false := ⟨RX0, TX0, 11, "NuggetCamp$Claim", tyX0, rfl, inA_RX0, by decide, Or.inl ⟨(q3 101 rfl rfl), Or.inl rfl⟩, tyX0_ok, nmX0, rfl, rfl, fun h => absurd h (by decide)⟩
theorem g_X1_9 : FG RX1 9 2 0 := ⟨RX1, TX1, 4, "NuggetCamp$Creek", rfl, inA_RX1, by decide, Or.inl ⟨(q1 39 rfl rfl), Or.inl rfl⟩⟩
theorem g_X1_15 : FG RX1 15 2 1 := ⟨RX1, TX1, 4, "NuggetCamp$Creek", rfl, inA_RX1, by decide, Or.inl ⟨(q1 40 rfl rfl), Or.inl rfl⟩⟩
theorem g_X1_18 : FG RX1 18 2 2 := ⟨RX1, TX1, 4, "NuggetCamp$Creek", rfl, inA_RX1, by decide, Or.inl ⟨(q1 41 rfl rfl), Or.inl rfl⟩⟩
theorem L_X1_3 : Cond.methodLink RX1 3 objectInit ∈ wA := (q1 38 rfl rfl)
theorem L_X1_26 : LkSN RX1 26 yX7_isCell cX7_isCell 1 (Option.some Jvm.ClassFile.FieldType.boolean) 1 := ⟨⟨(q1 1 rfl rfl), (q1 170 rfl rfl), by decide, by decide, by decide +kernel⟩, ⟨"NuggetCamp", (qn2 6 rfl rfl)⟩, (q1 169 rfl rfl)⟩
theorem L_X1_39 : LkS RX1 39 yJ9_min_7cf53 cJ9_min_7cf53 2 (Option.some Jvm.ClassFile.FieldType.int) 2 := ⟨⟨(q1 15 rfl rfl), (q2 132 rfl rfl), by decide, by decide, by decide +kernel⟩, (q3 177 rfl rfl), (q2 131 rfl rfl)⟩
theorem L_X1_30 : LkV RX1 30 yX1_grainsAt cX1_grainsAt 2 (Option.some Jvm.ClassFile.FieldType.int) 1 := ⟨⟨(q1 2 rfl rfl), (q2 5 rfl rfl), by decide, by decide, by decide +kernel⟩, (q3 176 rfl rfl), (q2 3 rfl rfl), (q2 4 rfl rfl)⟩
theorem L_X1_45 : LkV RX1 45 yX1_clayAt cX1_clayAt 2 (Option.some Jvm.ClassFile.FieldType.int) 1 := ⟨⟨(q1 2 rfl rfl), (q3 181 rfl rfl), by decide, by decide, by decide +kernel⟩, (q3 178 rfl rfl), (q3 179 rfl rfl), (q3 180 rfl rfl)⟩
theorem L_X1_48 : LkV RX1 48 yX2_recoveredOf cX2_recoveredOf 3 (Option.some Jvm.ClassFile.FieldType.int) 2 := ⟨⟨(q1 24 rfl rfl), (q3 185 rfl rfl), by decide, by decide, by decide +kernel⟩, (q3 182 rfl rfl), (q3 183 rfl rfl), (q3 184 rfl rfl)⟩
theorem L_X1_51 : LkV RX1 51 yX1_drop cX1_drop 3 (Option.none : Option Jvm.ClassFile.FieldType) 2 := ⟨⟨(q1 2 rfl rfl), (q3 189 rfl rfl), by decide, by decide, by decide +kernel⟩, (q3 186 rfl rfl), (q3 187 rfl rfl), (q3 188 rfl rfl)⟩
theorem f_X1_9 : FL RX1 9 2 0 (.array .int) true := ⟨RX1, TX1, 4, "NuggetCamp$Creek", tyX1, rfl, inA_RX1, by decide, Or.inl ⟨(q1 39 rfl rfl), Or.inl rfl⟩, tyX1_ok, nmX1, rfl, rfl, fun _ => rfl⟩
theorem f_X1_15 : FL RX1 15 2 1 (.array .int) true := ⟨RX1, TX1, 4, "NuggetCamp$Creek", tyX1, rfl, inA_RX1, by decide, Or.inl ⟨(q1 40 rfl rfl), Or.inl rfl⟩, tyX1_ok, nmX1, rfl, rfl, fun _ => rfl⟩
theorem f_X1_18 : FL RX1 18 2 2 (.int) false := ⟨RX1, TX1, 4, "NuggetCamp$Creek", tyX1, rfl, inA_RX1, by decide, Or.inl ⟨(q1 41 rfl rfl), Or.inl rfl⟩, tyX1_ok, nmX1, rfl, rfl, fun h => absurd h (by decide)⟩
theorem f_X1_22 : FL RX1 22 2 3 (.boolean) false := ⟨RX1, TX1, 4, "NuggetCamp$Creek", tyX1, rfl, inA_RX1, by decide, Or.inl ⟨(q1 43 rfl rfl), Or.inl rfl⟩, tyX1_ok, nmX1, rfl, rfl, fun h => absurd h (by decide)⟩
theorem g_X3_9 : FG RX3 9 3 0 := ⟨RX3, TX3, 9, "NuggetCamp$Miner", rfl, inA_RX3, by decide, Or.inl ⟨(q2 196 rfl rfl), Or.inl rfl⟩⟩
theorem g_X3_15 : FG RX3 15 3 1 := ⟨RX3, TX3, 9, "NuggetCamp$Miner", rfl, inA_RX3, by decide, Or.inl ⟨(q2 197 rfl rfl), Or.inl rfl⟩⟩
theorem g_X3_18 : FG RX3 18 3 2 := ⟨RX3, TX3, 9, "NuggetCamp$Miner", rfl, inA_RX3, by decide, Or.inl ⟨(q2 198 rfl rfl), Or.inl rfl⟩⟩
theorem g_X3_22 : FG RX3 22 3 3 := ⟨RX3, TX3, 9, "NuggetCamp$Miner", rfl, inA_RX3, by decide, Or.inl ⟨(q2 200 rfl rfl), Or.inl rfl⟩⟩
theorem g_X3_25 : FG RX3 25 3 6 := ⟨RX3, TX3, 9, "NuggetCamp$Miner", rfl, inA_RX3, by decide, Or.inl ⟨(q2 206 rfl rfl), Or.inl rfl⟩⟩
theorem g_X3_34 : FG RX3 34 3 4 := ⟨RX3, TX3, 9, "NuggetCamp$Miner", rfl, inA_RX3, by decide, Or.inl ⟨(q2 202 rfl rfl), Or.inl rfl⟩⟩
theorem L_X3_3 : Cond.methodLink RX3 3 objectInit ∈ wA := (q2 195 rfl rfl)
theorem L_X3_44 : LkS RX3 44 yJ9_min_7cf53 cJ9_min_7cf53 2 (Option.some Jvm.ClassFile.FieldType.int) 2 := ⟨⟨(q1 15 rfl rfl), (q2 132 rfl rfl), by decide, by decide, by decide +kernel⟩, (q3 61 rfl rfl), (q2 131 rfl rfl)⟩
theorem L_X3_50 : LkS RX3 50 yJ9_max_7cf53 cJ9_max_7cf53 2 (Option.some Jvm.ClassFile.FieldType.int) 2 := ⟨⟨(q1 15 rfl rfl), (q3 12 rfl rfl), by decide, by decide, by decide +kernel⟩, (q3 62 rfl rfl), (q3 11 rfl rfl)⟩
theorem L_X3_40 : LkV RX3 40 yX3_isDead cX3_isDead 1 (Option.some Jvm.ClassFile.FieldType.boolean) 0 := ⟨⟨(q1 17 rfl rfl), (q2 111 rfl rfl), by decide, by decide, by decide +kernel⟩, (q3 60 rfl rfl), (q2 109 rfl rfl), (q2 110 rfl rfl)⟩
theorem L_X3_53 : LkV RX3 53 yX3_dust cX3_dust 1 (Option.some Jvm.ClassFile.FieldType.int) 0 := ⟨⟨(q1 17 rfl rfl), (q3 223 rfl rfl), by decide, by decide, by decide +kernel⟩, (q3 228 rfl rfl), (q3 221 rfl rfl), (q3 222 rfl rfl)⟩
theorem f_X3_9 : FL RX3 9 3 0 (.array .int) true := ⟨RX3, TX3, 9, "NuggetCamp$Miner", tyX3, rfl, inA_RX3, by decide, Or.inl ⟨(q2 196 rfl rfl), Or.inl rfl⟩, tyX3_ok, nmX3, rfl, rfl, fun _ => rfl⟩
theorem f_X3_15 : FL RX3 15 3 1 (.array .int) true := ⟨RX3, TX3, 9, "NuggetCamp$Miner", tyX3, rfl, inA_RX3, by decide, Or.inl ⟨(q2 197 rfl rfl), Or.inl rfl⟩, tyX3_ok, nmX3, rfl, rfl, fun _ => rfl⟩
theorem f_X3_18 : FL RX3 18 3 2 (.int) false := ⟨RX3, TX3, 9, "NuggetCamp$Miner", tyX3, rfl, inA_RX3, by decide, Or.inl ⟨(q2 198 rfl rfl), Or.inl rfl⟩, tyX3_ok, nmX3, rfl, rfl, fun h => absurd h (by decide)⟩
theorem f_X3_22 : FL RX3 22 3 3 (.int) false := ⟨RX3, TX3, 9, "NuggetCamp$Miner", tyX3, rfl, inA_RX3, by decide, Or.inl ⟨(q2 200 rfl rfl), Or.inl rfl⟩, tyX3_ok, nmX3, rfl, rfl, fun h => absurd h (by decide)⟩
theorem f_X3_25 : FL RX3 25 3 6 (.int) false := ⟨RX3, TX3, 9, "NuggetCamp$Miner", tyX3, rfl, inA_RX3, by decide, Or.inl ⟨(q2 206 rfl rfl), Or.inl rfl⟩, tyX3_ok, nmX3, rfl, rfl, fun h => absurd h (by decide)⟩
theorem f_X3_28 : FL RX3 28 3 7 (.int) false := ⟨RX3, TX3, 9, "NuggetCamp$Miner", tyX3, rfl, inA_RX3, by decide, Or.inl ⟨(q2 208 rfl rfl), Or.inl rfl⟩, tyX3_ok, nmX3, rfl, rfl, fun h => absurd h (by decide)⟩
theorem f_X3_31 : FL RX3 31 3 8 (.int) false := ⟨RX3, TX3, 9, "NuggetCamp$Miner", tyX3, rfl, inA_RX3, by decide, Or.inl ⟨(q2 210 rfl rfl), Or.inl rfl⟩, tyX3_ok, nmX3, rfl, rfl, fun h => absurd h (by decide)⟩
theorem f_X3_34 : FL RX3 34 3 4 (.int) false := ⟨RX3, TX3, 9, "NuggetCamp$Miner", tyX3, rfl, inA_RX3, by decide, Or.inl ⟨(q2 202 rfl rfl), Or.inl rfl⟩, tyX3_ok, nmX3, rfl, rfl, fun h => absurd h (by decide)⟩
theorem f_X3_37 : FL RX3 37 3 5 (.int) false := ⟨RX3, TX3, 9, "NuggetCamp$Miner", tyX3, rfl, inA_RX3, by decide, Or.inl ⟨(q2 204 rfl rfl), Or.inl rfl⟩, tyX3_ok, nmX3, rfl, rfl, fun h => absurd h (by decide)⟩
theorem L_X4_1 : Cond.methodLink RX4 1 objectInit ∈ wA := (q3 146 rfl rfl)
theorem f_X4_7 : FL RX4 7 4 0 (.int) true := ⟨RX4, TX4, 2, "NuggetCamp$Right", tyX4, rfl, inA_RX4, by decide, Or.inl ⟨(q3 147 rfl rfl), Or.inl rfl⟩, tyX4_ok, nmX4, rfl, rfl, fun _ => rfl⟩
theorem f_X4_13 : FL RX4 13 4 1 (.int) true := ⟨RX4, TX4, 2, "NuggetCamp$Right", tyX4, rfl, inA_RX4, by decide, Or.inl ⟨(q3 149 rfl rfl), Or.inl rfl⟩, tyX4_ok, nmX4, rfl, rfl, fun _ => rfl⟩
theorem g_X5_9 : FG RX5 9 5 0 := ⟨RX5, TX5, 1, "NuggetCamp$Rumours", rfl, inA_RX5, by decide, Or.inl ⟨(q1 78 rfl rfl), Or.inl rfl⟩⟩
theorem L_X5_3 : Cond.methodLink RX5 3 objectInit ∈ wA := (q1 77 rfl rfl)
theorem L_X5_15 : LkSN RX5 15 yX7_isCell cX7_isCell 1 (Option.some Jvm.ClassFile.FieldType.boolean) 1 := ⟨⟨(q1 1 rfl rfl), (q1 170 rfl rfl), by decide, by decide, by decide +kernel⟩, ⟨"NuggetCamp", (qn2 48 rfl rfl)⟩, (q1 169 rfl rfl)⟩
theorem L_X5_19 : LkS RX5 19 yJ9_max_7cf53 cJ9_max_7cf53 2 (Option.some Jvm.ClassFile.FieldType.int) 2 := ⟨⟨(q1 15 rfl rfl), (q3 12 rfl rfl), by decide, by decide, by decide +kernel⟩, (q3 71 rfl rfl), (q3 11 rfl rfl)⟩
theorem f_X5_9 : FL RX5 9 5 0 (.array .int) true := ⟨RX5, TX5, 1, "NuggetCamp$Rumours", tyX5, rfl, inA_RX5, by decide, Or.inl ⟨(q1 78 rfl rfl), Or.inl rfl⟩, tyX5_ok, nmX5, rfl, rfl, fun _ => rfl⟩
theorem g_X6_9 : FG RX6 9 6 0 := ⟨RX6, TX6, 3, "NuggetCamp$Store", rfl, inA_RX6, by decide, Or.inl ⟨(q1 61 rfl rfl), Or.inl rfl⟩⟩
theorem g_X6_15 : FG RX6 15 6 1 := ⟨RX6, TX6, 3, "NuggetCamp$Store", rfl, inA_RX6, by decide, Or.inl ⟨(q1 62 rfl rfl), Or.inl rfl⟩⟩
theorem g_X6_18 : FG RX6 18 6 2 := ⟨RX6, TX6, 3, "NuggetCamp$Store", rfl, inA_RX6, by decide, Or.inl ⟨(q1 63 rfl rfl), Or.inl rfl⟩⟩
theorem L_X6_3 : Cond.methodLink RX6 3 objectInit ∈ wA := (q1 60 rfl rfl)
theorem f_X6_9 : FL RX6 9 6 0 (.array .int) true := ⟨RX6, TX6, 3, "NuggetCamp$Store", tyX6, rfl, inA_RX6, by decide, Or.inl ⟨(q1 61 rfl rfl), Or.inl rfl⟩, tyX6_ok, nmX6, rfl, rfl, fun _ => rfl⟩
theorem f_X6_15 : FL RX6 15 6 1 (.array .int) true := ⟨RX6, TX6, 3, "NuggetCamp$Store", tyX6, rfl, inA_RX6, by decide, Or.inl ⟨(q1 62 rfl rfl), Or.inl rfl⟩, tyX6_ok, nmX6, rfl, rfl, fun _ => rfl⟩
theorem f_X6_18 : FL RX6 18 6 2 (.int) false := ⟨RX6, TX6, 3, "NuggetCamp$Store", tyX6, rfl, inA_RX6, by decide, Or.inl ⟨(q1 63 rfl rfl), Or.inl rfl⟩, tyX6_ok, nmX6, rfl, rfl, fun h => absurd h (by decide)⟩
theorem K_X7_90 : Cond.classLink RX7 90 "NuggetCamp$Miner" ∈ wA := (q2 83 rfl rfl)
theorem K_X7_123 : Cond.classLink RX7 123 "NuggetCamp$Claim" ∈ wA := (q2 34 rfl rfl)
theorem K_X7_128 : Cond.classLink RX7 128 "NuggetCamp$Right" ∈ wA := (q2 125 rfl rfl)
theorem g_X7_10 : FG RX7 10 7 0 := ⟨RX7, TX7, 12, "NuggetCamp", rfl, inA_RX7, by decide, Or.inl ⟨(q1 108 rfl rfl), Or.inl rfl⟩⟩
theorem g_X7_19 : FG RX7 19 7 1 := ⟨RX7, TX7, 12, "NuggetCamp", rfl, inA_RX7, by decide, Or.inl ⟨(q1 109 rfl rfl), Or.inl rfl⟩⟩
theorem g_X7_26 : FG RX7 26 7 2 := ⟨RX7, TX7, 12, "NuggetCamp", rfl, inA_RX7, by decide, Or.inl ⟨(q1 110 rfl rfl), Or.inl rfl⟩⟩
theorem g_X7_33 : FG RX7 33 7 3 := ⟨RX7, TX7, 12, "NuggetCamp", rfl, inA_RX7, by decide, Or.inl ⟨(q1 111 rfl rfl), Or.inl rfl⟩⟩
theorem g_X7_37 : FG RX7 37 7 4 := ⟨RX7, TX7, 12, "NuggetCamp", rfl, inA_RX7, by decide, Or.inl ⟨(q1 112 rfl rfl), Or.inl rfl⟩⟩
theorem g_X7_40 : FG RX7 40 7 5 := ⟨RX7, TX7, 12, "NuggetCamp", rfl, inA_RX7, by decide, Or.inl ⟨(q1 113 rfl rfl), Or.inl rfl⟩⟩
theorem g_X7_43 : FG RX7 43 7 6 := ⟨RX7, TX7, 12, "NuggetCamp", rfl, inA_RX7, by decide, Or.inl ⟨(q1 114 rfl rfl), Or.inl rfl⟩⟩
theorem g_X7_47 : FG RX7 47 7 7 := ⟨RX7, TX7, 12, "NuggetCamp", rfl, inA_RX7, by decide, Or.inl ⟨(q1 115 rfl rfl), Or.inl rfl⟩⟩
theorem g_X7_50 : FG RX7 50 7 8 := ⟨RX7, TX7, 12, "NuggetCamp", rfl, inA_RX7, by decide, Or.inl ⟨(q1 116 rfl rfl), Or.inl rfl⟩⟩
theorem g_X7_53 : FG RX7 53 7 9 := ⟨RX7, TX7, 12, "NuggetCamp", rfl, inA_RX7, by decide, Or.inl ⟨(q1 117 rfl rfl), Or.inl rfl⟩⟩
theorem g_X7_56 : FG RX7 56 7 10 := ⟨RX7, TX7, 12, "NuggetCamp", rfl, inA_RX7, by decide, Or.inl ⟨(q1 118 rfl rfl), Or.inl rfl⟩⟩
theorem g_X7_59 : FG RX7 59 7 11 := ⟨RX7, TX7, 12, "NuggetCamp", rfl, inA_RX7, by decide, Or.inl ⟨(q1 119 rfl rfl), Or.inl rfl⟩⟩
theorem g_X7_71 : FG RX7 71 2 3 := ⟨RX1, TX1, 4, "NuggetCamp$Creek", rfl, inA_RX1, by decide, Or.inr ⟨"NuggetCamp", (qn1 44 rfl rfl)⟩⟩
theorem g_X7_138 : FG RX7 138 3 8 := ⟨RX3, TX3, 9, "NuggetCamp$Miner", rfl, inA_RX3, by decide, Or.inr ⟨"NuggetCamp", (qn2 211 rfl rfl)⟩⟩
theorem g_X7_161 : FG RX7 161 1 4 := ⟨RX0, TX0, 11, "NuggetCamp$Claim", rfl, inA_RX0, by decide, Or.inr ⟨"NuggetCamp", (qn3 102 rfl rfl)⟩⟩
theorem g_X7_166 : FG RX7 166 3 2 := ⟨RX3, TX3, 9, "NuggetCamp$Miner", rfl, inA_RX3, by decide, Or.inr ⟨"NuggetCamp", (qn2 199 rfl rfl)⟩⟩
theorem g_X7_178 : FG RX7 178 3 3 := ⟨RX3, TX3, 9, "NuggetCamp$Miner", rfl, inA_RX3, by decide, Or.inr ⟨"NuggetCamp", (qn2 201 rfl rfl)⟩⟩
theorem g_X7_188 : FG RX7 188 3 7 := ⟨RX3, TX3, 9, "NuggetCamp$Miner", rfl, inA_RX3, by decide, Or.inr ⟨"NuggetCamp", (qn2 209 rfl rfl)⟩⟩
theorem g_X7_194 : FG RX7 194 3 5 := ⟨RX3, TX3, 9, "NuggetCamp$Miner", rfl, inA_RX3, by decide, Or.inr ⟨"NuggetCamp", (qn2 205 rfl rfl)⟩⟩
theorem g_X7_206 : FG RX7 206 6 2 := ⟨RX6, TX6, 3, "NuggetCamp$Store", rfl, inA_RX6, by decide, Or.inr ⟨"NuggetCamp", (qn1 64 rfl rfl)⟩⟩
theorem g_X7_209 : FG RX7 209 3 4 := ⟨RX3, TX3, 9, "NuggetCamp$Miner", rfl, inA_RX3, by decide, Or.inr ⟨"NuggetCamp", (qn2 203 rfl rfl)⟩⟩
theorem g_X7_223 : FG RX7 223 1 3 := ⟨RX0, TX0, 11, "NuggetCamp$Claim", rfl, inA_RX0, by decide, Or.inr ⟨"NuggetCamp", (qn3 100 rfl rfl)⟩⟩
theorem g_X7_226 : FG RX7 226 1 5 := ⟨RX0, TX0, 11, "NuggetCamp$Claim", rfl, inA_RX0, by decide, Or.inr ⟨"NuggetCamp", (qn3 104 rfl rfl)⟩⟩
theorem g_X7_229 : FG RX7 229 1 0 := ⟨RX0, TX0, 11, "NuggetCamp$Claim", rfl, inA_RX0, by decide, Or.inr ⟨"NuggetCamp", (qn3 94 rfl rfl)⟩⟩
theorem g_X7_232 : FG RX7 232 1 1 := ⟨RX0, TX0, 11, "NuggetCamp$Claim", rfl, inA_RX0, by decide, Or.inr ⟨"NuggetCamp", (qn3 96 rfl rfl)⟩⟩
theorem g_X7_243 : FG RX7 243 1 6 := ⟨RX0, TX0, 11, "NuggetCamp$Claim", rfl, inA_RX0, by decide, Or.inr ⟨"NuggetCamp", (qn3 106 rfl rfl)⟩⟩
theorem g_X7_246 : FG RX7 246 1 10 := ⟨RX0, TX0, 11, "NuggetCamp$Claim", rfl, inA_RX0, by decide, Or.inr ⟨"NuggetCamp", (qn3 114 rfl rfl)⟩⟩
theorem g_X7_249 : FG RX7 249 1 7 := ⟨RX0, TX0, 11, "NuggetCamp$Claim", rfl, inA_RX0, by decide, Or.inr ⟨"NuggetCamp", (qn3 108 rfl rfl)⟩⟩
theorem g_X7_252 : FG RX7 252 1 9 := ⟨RX0, TX0, 11, "NuggetCamp$Claim", rfl, inA_RX0, by decide, Or.inr ⟨"NuggetCamp", (qn3 112 rfl rfl)⟩⟩
theorem g_X7_255 : FG RX7 255 1 8 := ⟨RX0, TX0, 11, "NuggetCamp$Claim", rfl, inA_RX0, by decide, Or.inr ⟨"NuggetCamp", (qn3 110 rfl rfl)⟩⟩
theorem g_X7_270 : FG RX7 270 1 2 := ⟨RX0, TX0, 11, "NuggetCamp$Claim", rfl, inA_RX0, by decide, Or.inr ⟨"NuggetCamp", (qn3 98 rfl rfl)⟩⟩
theorem g_X7_273 : FG RX7 273 3 6 := ⟨RX3, TX3, 9, "NuggetCamp$Miner", rfl, inA_RX3, by decide, Or.inr ⟨"NuggetCamp", (qn2 207 rfl rfl)⟩⟩
theorem g_X7_282 : FG RX7 282 2 2 := ⟨RX1, TX1, 4, "NuggetCamp$Creek", rfl, inA_RX1, by decide, Or.inr ⟨"NuggetCamp", (qn1 42 rfl rfl)⟩⟩
theorem g_X7_348 : FG RX7 348 4 0 := ⟨RX4, TX4, 2, "NuggetCamp$Right", rfl, inA_RX4, by decide, Or.inr ⟨"NuggetCamp", (qn3 148 rfl rfl)⟩⟩
theorem g_X7_349 : FG RX7 349 4 1 := ⟨RX4, TX4, 2, "NuggetCamp$Right", rfl, inA_RX4, by decide, Or.inr ⟨"NuggetCamp", (qn3 150 rfl rfl)⟩⟩
theorem S_X7_320 : Cond.fieldLink RX7 320 "NuggetCamp" "GEARS" "[LNuggetCamp$Gear;" ∈ wA := (q3 163 rfl rfl)
theorem S_X7_344 : Cond.fieldLink RX7 344 "NuggetCamp$Gear" "PAN" "LNuggetCamp$Gear;" ∈ wA := (q3 170 rfl rfl)
theorem L_X7_1 : Cond.methodLink RX7 1 objectInit ∈ wA := (q1 30 rfl rfl)
theorem L_X7_9 : LkI RX7 9 yX1_init cX1_init 1 0 := ⟨⟨(q1 2 rfl rfl), (q1 37 rfl rfl), by decide, by decide, by decide +kernel⟩, Or.inr ⟨"NuggetCamp", (qn1 35 rfl rfl)⟩, (q1 36 rfl rfl), rfl⟩
theorem L_X7_18 : LkI RX7 18 yX6_init cX6_init 1 0 := ⟨⟨(q1 3 rfl rfl), (q1 59 rfl rfl), by decide, by decide, by decide +kernel⟩, Or.inr ⟨"NuggetCamp", (qn1 57 rfl rfl)⟩, (q1 58 rfl rfl), rfl⟩
theorem L_X7_25 : LkI RX7 25 yX5_init cX5_init 1 0 := ⟨⟨(q1 4 rfl rfl), (q1 76 rfl rfl), by decide, by decide, by decide +kernel⟩, Or.inr ⟨"NuggetCamp", (qn1 74 rfl rfl)⟩, (q1 75 rfl rfl), rfl⟩
theorem L_X7_32 : LkI RX7 32 yJx4a65c_init_da8c8 cJx4a65c_init_da8c8 1 0 := ⟨⟨(q1 7 rfl rfl), (q1 86 rfl rfl), by decide, by decide, by decide +kernel⟩, Or.inl (q1 84 rfl rfl), (q1 85 rfl rfl), rfl⟩
theorem L_X7_92 : LkI RX7 92 yX3_init cX3_init 4 2 := ⟨⟨(q1 17 rfl rfl), (q2 194 rfl rfl), by decide, by decide, by decide +kernel⟩, Or.inl (q2 192 rfl rfl), (q2 193 rfl rfl), rfl⟩
theorem L_X7_125 : LkI RX7 125 yX0_init cX0_init 6 5 := ⟨⟨(q1 21 rfl rfl), (q3 91 rfl rfl), by decide, by decide, by decide +kernel⟩, Or.inl (q3 89 rfl rfl), (q3 90 rfl rfl), rfl⟩
theorem L_X7_130 : LkI RX7 130 yX4_init cX4_init 3 2 := ⟨⟨(q1 22 rfl rfl), (q3 145 rfl rfl), by decide, by decide, by decide +kernel⟩, Or.inl (q3 143 rfl rfl), (q3 144 rfl rfl), rfl⟩
theorem L_X7_62 : LkS RX7 62 yX7_checkCell cX7_checkCell 1 (Option.none : Option Jvm.ClassFile.FieldType) 1 := ⟨⟨(q1 1 rfl rfl), (q1 167 rfl rfl), by decide, by decide, by decide +kernel⟩, (q1 165 rfl rfl), (q1 166 rfl rfl)⟩
theorem L_X7_67 : LkS RX7 67 yX7_checkRange cX7_checkRange 3 (Option.none : Option Jvm.ClassFile.FieldType) 3 := ⟨⟨(q1 1 rfl rfl), (q2 55 rfl rfl), by decide, by decide, by decide +kernel⟩, (q2 53 rfl rfl), (q2 54 rfl rfl)⟩
theorem L_X7_75 : LkS RX7 75 yX7_checkState cX7_checkState 1 (Option.none : Option Jvm.ClassFile.FieldType) 1 := ⟨⟨(q1 1 rfl rfl), (q2 162 rfl rfl), by decide, by decide, by decide +kernel⟩, (q2 160 rfl rfl), (q2 161 rfl rfl)⟩
theorem L_X7_105 : LkS RX7 105 yX7_checkArgument cX7_checkArgument 1 (Option.none : Option Jvm.ClassFile.FieldType) 1 := ⟨⟨(q1 1 rfl rfl), (q2 58 rfl rfl), by decide, by decide, by decide +kernel⟩, (q2 56 rfl rfl), (q2 57 rfl rfl)⟩
theorem L_X7_112 : LkS RX7 112 yX7_checkIndex cX7_checkIndex 1 (Option.none : Option Jvm.ClassFile.FieldType) 1 := ⟨⟨(q1 1 rfl rfl), (q1 173 rfl rfl), by decide, by decide, by decide +kernel⟩, (q1 171 rfl rfl), (q1 172 rfl rfl)⟩
theorem L_X7_131 : LkS RX7 131 yX7_gearAt cX7_gearAt 1 (Option.some (Jvm.ClassFile.FieldType.object "NuggetCamp$Gear")) 1 := ⟨⟨(q1 1 rfl rfl), (q3 162 rfl rfl), by decide, by decide, by decide +kernel⟩, (q3 160 rfl rfl), (q3 161 rfl rfl)⟩
theorem L_X7_258 : LkS RX7 258 yJ9_min_7cf53 cJ9_min_7cf53 2 (Option.some Jvm.ClassFile.FieldType.int) 2 := ⟨⟨(q1 15 rfl rfl), (q2 132 rfl rfl), by decide, by decide, by decide +kernel⟩, (q2 130 rfl rfl), (q2 131 rfl rfl)⟩
theorem L_X7_309 : LkS RX7 309 yX7_isCell cX7_isCell 1 (Option.some Jvm.ClassFile.FieldType.boolean) 1 := ⟨⟨(q1 1 rfl rfl), (q1 170 rfl rfl), by decide, by decide, by decide +kernel⟩, (q1 168 rfl rfl), (q1 169 rfl rfl)⟩
theorem L_X7_79 : LkV RX7 79 yX1_grainsAt cX1_grainsAt 2 (Option.some Jvm.ClassFile.FieldType.int) 1 := ⟨⟨(q1 2 rfl rfl), (q2 5 rfl rfl), by decide, by decide, by decide +kernel⟩, (q2 2 rfl rfl), (q2 3 rfl rfl), (q2 4 rfl rfl)⟩
theorem L_X7_83 : LkV RX7 83 yX1_lay cX1_lay 4 (Option.none : Option Jvm.ClassFile.FieldType) 3 := ⟨⟨(q1 2 rfl rfl), (q2 182 rfl rfl), by decide, by decide, by decide +kernel⟩, (q2 179 rfl rfl), (q2 180 rfl rfl), (q2 181 rfl rfl)⟩
theorem L_X7_86 : LkV RX7 86 yJx4a65c_size_8abf5 cJx4a65c_size_8abf5 1 (Option.some Jvm.ClassFile.FieldType.int) 0 := ⟨⟨(q1 7 rfl rfl), (q2 19 rfl rfl), by decide, by decide, by decide +kernel⟩, (q2 16 rfl rfl), (q2 17 rfl rfl), (q2 18 rfl rfl)⟩
theorem L_X7_95 : LkV RX7 95 yJx4a65c_add_9ea2d cJx4a65c_add_9ea2d 2 (Option.some Jvm.ClassFile.FieldType.boolean) 1 := ⟨⟨(q1 7 rfl rfl), (q2 234 rfl rfl), by decide, by decide, by decide +kernel⟩, (q2 231 rfl rfl), (q2 232 rfl rfl), (q2 233 rfl rfl)⟩
theorem L_X7_99 : LkV RX7 99 yX7_passOneDay cX7_passOneDay 2 (Option.none : Option Jvm.ClassFile.FieldType) 0 := ⟨⟨(q1 1 rfl rfl), (q3 55 rfl rfl), by decide, by decide, by decide +kernel⟩, (q3 52 rfl rfl), (q3 54 rfl rfl), (qs1 13 rfl)⟩
theorem L_X7_102 : LkV RX7 102 yX7_livingMiners cX7_livingMiners 3 (Option.some Jvm.ClassFile.FieldType.int) 0 := ⟨⟨(q1 1 rfl rfl), (q2 99 rfl rfl), by decide, by decide, by decide +kernel⟩, (q2 96 rfl rfl), (q2 98 rfl rfl), (qs1 3 rfl)⟩
theorem L_X7_108 : LkV RX7 108 yX7_minerAt cX7_minerAt 2 (Option.some (Jvm.ClassFile.FieldType.object "NuggetCamp$Miner")) 1 := ⟨⟨(q1 1 rfl rfl), (q2 119 rfl rfl), by decide, by decide, by decide +kernel⟩, (q2 116 rfl rfl), (q2 118 rfl rfl), (qs1 6 rfl)⟩
theorem L_X7_115 : LkV RX7 115 yX3_isDead cX3_isDead 1 (Option.some Jvm.ClassFile.FieldType.boolean) 0 := ⟨⟨(q1 17 rfl rfl), (q2 111 rfl rfl), by decide, by decide, by decide +kernel⟩, (q2 108 rfl rfl), (q2 109 rfl rfl), (q2 110 rfl rfl)⟩
theorem L_X7_119 : LkV RX7 119 yX7_areFree cX7_areFree 4 (Option.some Jvm.ClassFile.FieldType.boolean) 2 := ⟨⟨(q1 1 rfl rfl), (q3 87 rfl rfl), by decide, by decide, by decide +kernel⟩, (q3 84 rfl rfl), (q3 86 rfl rfl), (qs1 15 rfl)⟩
theorem L_X7_135 : LkV RX7 135 yX7_claimHolding cX7_claimHolding 4 (Option.some Jvm.ClassFile.FieldType.int) 1 := ⟨⟨(q1 1 rfl rfl), (q2 15 rfl rfl), by decide, by decide, by decide +kernel⟩, (q2 12 rfl rfl), (q2 14 rfl rfl), (qs1 1 rfl)⟩
theorem L_X7_141 : LkV RX7 141 yX7_mayUse cX7_mayUse 4 (Option.some Jvm.ClassFile.FieldType.boolean) 3 := ⟨⟨(q1 1 rfl rfl), (q3 169 rfl rfl), by decide, by decide, by decide +kernel⟩, (q3 166 rfl rfl), (q3 168 rfl rfl), (qs2 0 rfl)⟩
theorem L_X7_145 : LkV RX7 145 yX7_inchesOfMiner cX7_inchesOfMiner 4 (Option.some Jvm.ClassFile.FieldType.int) 1 := ⟨⟨(q1 1 rfl rfl), (q2 124 rfl rfl), by decide, by decide, by decide +kernel⟩, (q2 121 rfl rfl), (q2 123 rfl rfl), (qs1 7 rfl)⟩
theorem L_X7_153 : LkV RX7 153 yX1_dig cX1_dig 5 (Option.some Jvm.ClassFile.FieldType.int) 2 := ⟨⟨(q1 2 rfl rfl), (q3 175 rfl rfl), by decide, by decide, by decide +kernel⟩, (q3 172 rfl rfl), (q3 173 rfl rfl), (q3 174 rfl rfl)⟩
theorem L_X7_157 : LkV RX7 157 yX7_claimAt cX7_claimAt 2 (Option.some (Jvm.ClassFile.FieldType.object "NuggetCamp$Claim")) 1 := ⟨⟨(q1 1 rfl rfl), (q2 144 rfl rfl), by decide, by decide, by decide +kernel⟩, (q2 141 rfl rfl), (q2 143 rfl rfl), (qs1 9 rfl)⟩
theorem L_X7_162 : LkV RX7 162 yX7_shareOut cX7_shareOut 6 (Option.none : Option Jvm.ClassFile.FieldType) 2 := ⟨⟨(q1 1 rfl rfl), (q3 193 rfl rfl), by decide, by decide, by decide +kernel⟩, (q3 190 rfl rfl), (q3 192 rfl rfl), (qs2 1 rfl)⟩
theorem L_X7_169 : LkV RX7 169 yX1_drop cX1_drop 3 (Option.none : Option Jvm.ClassFile.FieldType) 2 := ⟨⟨(q1 2 rfl rfl), (q3 189 rfl rfl), by decide, by decide, by decide +kernel⟩, (q3 202 rfl rfl), (q3 187 rfl rfl), (q3 188 rfl rfl)⟩
theorem L_X7_172 : LkV RX7 172 yX3_noteSalting cX3_noteSalting 3 (Option.none : Option Jvm.ClassFile.FieldType) 2 := ⟨⟨(q1 17 rfl rfl), (q3 206 rfl rfl), by decide, by decide, by decide +kernel⟩, (q3 203 rfl rfl), (q3 204 rfl rfl), (q3 205 rfl rfl)⟩
theorem L_X7_175 : LkV RX7 175 yX7_spoilSalesOfToday cX7_spoilSalesOfToday 5 (Option.none : Option Jvm.ClassFile.FieldType) 2 := ⟨⟨(q1 1 rfl rfl), (q3 210 rfl rfl), by decide, by decide, by decide +kernel⟩, (q3 207 rfl rfl), (q3 209 rfl rfl), (qs2 2 rfl)⟩
theorem L_X7_182 : LkV RX7 182 yX3_dust cX3_dust 1 (Option.some Jvm.ClassFile.FieldType.int) 0 := ⟨⟨(q1 17 rfl rfl), (q3 223 rfl rfl), by decide, by decide, by decide +kernel⟩, (q3 220 rfl rfl), (q3 221 rfl rfl), (q3 222 rfl rfl)⟩
theorem L_X7_185 : LkV RX7 185 yX3_isSuspect cX3_isSuspect 1 (Option.some Jvm.ClassFile.FieldType.boolean) 0 := ⟨⟨(q1 17 rfl rfl), (q3 227 rfl rfl), by decide, by decide, by decide +kernel⟩, (q3 224 rfl rfl), (q3 225 rfl rfl), (q3 226 rfl rfl)⟩
theorem L_X7_191 : LkV RX7 191 yX3_brassIn cX3_brassIn 3 (Option.some Jvm.ClassFile.FieldType.int) 1 := ⟨⟨(q1 17 rfl rfl), (q3 232 rfl rfl), by decide, by decide, by decide +kernel⟩, (q3 229 rfl rfl), (q3 230 rfl rfl), (q3 231 rfl rfl)⟩
theorem L_X7_197 : LkV RX7 197 yX6_freightsUnderWay cX6_freightsUnderWay 3 (Option.some Jvm.ClassFile.FieldType.int) 0 := ⟨⟨(q1 3 rfl rfl), (q2 95 rfl rfl), by decide, by decide, by decide +kernel⟩, (q2 92 rfl rfl), (q2 93 rfl rfl), (q2 94 rfl rfl)⟩
theorem L_X7_200 : LkV RX7 200 yX6_send cX6_send 4 (Option.none : Option Jvm.ClassFile.FieldType) 2 := ⟨⟨(q1 3 rfl rfl), (q4 7 rfl rfl), by decide, by decide, by decide +kernel⟩, (q4 4 rfl rfl), (q4 5 rfl rfl), (q4 6 rfl rfl)⟩
theorem L_X7_203 : LkV RX7 203 yX6_price cX6_price 1 (Option.some Jvm.ClassFile.FieldType.int) 0 := ⟨⟨(q1 3 rfl rfl), (q2 91 rfl rfl), by decide, by decide, by decide +kernel⟩, (q2 88 rfl rfl), (q2 89 rfl rfl), (q2 90 rfl rfl)⟩
theorem L_X7_210 : LkV RX7 210 yX3_percentOf cX3_percentOf 2 (Option.some Jvm.ClassFile.FieldType.int) 1 := ⟨⟨(q1 17 rfl rfl), (q3 197 rfl rfl), by decide, by decide, by decide +kernel⟩, (q3 194 rfl rfl), (q3 195 rfl rfl), (q3 196 rfl rfl)⟩
theorem L_X7_213 : LkV RX7 213 yX3_percentBacked cX3_percentBacked 3 (Option.some Jvm.ClassFile.FieldType.int) 0 := ⟨⟨(q1 17 rfl rfl), (q2 136 rfl rfl), by decide, by decide, by decide +kernel⟩, (q2 133 rfl rfl), (q2 134 rfl rfl), (q2 135 rfl rfl)⟩
theorem L_X7_216 : LkV RX7 216 yX3_setPercent cX3_setPercent 3 (Option.none : Option Jvm.ClassFile.FieldType) 2 := ⟨⟨(q1 17 rfl rfl), (q4 22 rfl rfl), by decide, by decide, by decide +kernel⟩, (q4 19 rfl rfl), (q4 20 rfl rfl), (q4 21 rfl rfl)⟩
theorem L_X7_219 : LkV RX7 219 yX7_isMiner cX7_isMiner 2 (Option.some Jvm.ClassFile.FieldType.boolean) 1 := ⟨⟨(q1 1 rfl rfl), (q2 107 rfl rfl), by decide, by decide, by decide +kernel⟩, (q2 104 rfl rfl), (q2 106 rfl rfl), (qs1 5 rfl)⟩
theorem L_X7_235 : LkV RX7 235 yX3_saltedLately cX3_saltedLately 5 (Option.some Jvm.ClassFile.FieldType.boolean) 3 := ⟨⟨(q1 17 rfl rfl), (q4 34 rfl rfl), by decide, by decide, by decide +kernel⟩, (q4 31 rfl rfl), (q4 32 rfl rfl), (q4 33 rfl rfl)⟩
theorem L_X7_239 : LkV RX7 239 yX0_sellTo cX0_sellTo 5 (Option.none : Option Jvm.ClassFile.FieldType) 4 := ⟨⟨(q1 21 rfl rfl), (q4 38 rfl rfl), by decide, by decide, by decide +kernel⟩, (q4 35 rfl rfl), (q4 36 rfl rfl), (q4 37 rfl rfl)⟩
theorem L_X7_264 : LkV RX7 264 yX5_beliefOf cX5_beliefOf 2 (Option.some Jvm.ClassFile.FieldType.int) 1 := ⟨⟨(q1 4 rfl rfl), (q2 47 rfl rfl), by decide, by decide, by decide +kernel⟩, (q2 44 rfl rfl), (q2 45 rfl rfl), (q2 46 rfl rfl)⟩
theorem L_X7_267 : LkV RX7 267 yX5_tell cX5_tell 3 (Option.none : Option Jvm.ClassFile.FieldType) 2 := ⟨⟨(q1 4 rfl rfl), (q4 50 rfl rfl), by decide, by decide, by decide +kernel⟩, (q4 47 rfl rfl), (q4 48 rfl rfl), (q4 49 rfl rfl)⟩
theorem L_X7_276 : LkV RX7 276 yX7_inchesOfRight cX7_inchesOfRight 6 (Option.some Jvm.ClassFile.FieldType.int) 1 := ⟨⟨(q1 1 rfl rfl), (q2 129 rfl rfl), by decide, by decide, by decide +kernel⟩, (q2 126 rfl rfl), (q2 128 rfl rfl), (qs1 8 rfl)⟩
theorem L_X7_279 : LkV RX7 279 yX1_goldInGround cX1_goldInGround 3 (Option.some Jvm.ClassFile.FieldType.int) 0 := ⟨⟨(q1 2 rfl rfl), (q2 78 rfl rfl), by decide, by decide, by decide +kernel⟩, (q2 75 rfl rfl), (q2 76 rfl rfl), (q2 77 rfl rfl)⟩
theorem L_X7_285 : LkV RX7 285 yX7_goldOfMiners cX7_goldOfMiners 3 (Option.some Jvm.ClassFile.FieldType.int) 0 := ⟨⟨(q1 1 rfl rfl), (q2 82 rfl rfl), by decide, by decide, by decide +kernel⟩, (q2 79 rfl rfl), (q2 81 rfl rfl), (qs1 2 rfl)⟩
theorem L_X7_288 : LkV RX7 288 yX1_yieldDownwards cX1_yieldDownwards 9 (Option.some Jvm.ClassFile.FieldType.int) 3 := ⟨⟨(q1 2 rfl rfl), (q4 62 rfl rfl), by decide, by decide, by decide +kernel⟩, (q4 59 rfl rfl), (q4 60 rfl rfl), (q4 61 rfl rfl)⟩
theorem L_X7_314 : LkV RX7 314 yJx4a65c_get_915e3 cJx4a65c_get_915e3 2 (Option.some (Jvm.ClassFile.FieldType.object "java/lang/Object")) 1 := ⟨⟨(q1 7 rfl rfl), (q2 23 rfl rfl), by decide, by decide, by decide +kernel⟩, (q2 20 rfl rfl), (q2 21 rfl rfl), (q2 22 rfl rfl)⟩
theorem L_X7_326 : LkV RX7 326 yX3_liveOneDay cX3_liveOneDay 1 (Option.none : Option Jvm.ClassFile.FieldType) 0 := ⟨⟨(q1 17 rfl rfl), (q3 59 rfl rfl), by decide, by decide, by decide +kernel⟩, (q3 56 rfl rfl), (q3 57 rfl rfl), (q3 58 rfl rfl)⟩
theorem L_X7_329 : LkV RX7 329 yX6_unload cX6_unload 3 (Option.none : Option Jvm.ClassFile.FieldType) 1 := ⟨⟨(q1 3 rfl rfl), (q3 66 rfl rfl), by decide, by decide, by decide +kernel⟩, (q3 63 rfl rfl), (q3 64 rfl rfl), (q3 65 rfl rfl)⟩
theorem L_X7_332 : LkV RX7 332 yX5_fade cX5_fade 2 (Option.none : Option Jvm.ClassFile.FieldType) 0 := ⟨⟨(q1 4 rfl rfl), (q3 70 rfl rfl), by decide, by decide, by decide +kernel⟩, (q3 67 rfl rfl), (q3 68 rfl rfl), (q3 69 rfl rfl)⟩
theorem L_X7_335 : LkV RX7 335 yX7_lapseIfDue cX7_lapseIfDue 2 (Option.none : Option Jvm.ClassFile.FieldType) 1 := ⟨⟨(q1 1 rfl rfl), (q3 75 rfl rfl), by decide, by decide, by decide +kernel⟩, (q3 72 rfl rfl), (q3 74 rfl rfl), (qs1 14 rfl)⟩
theorem L_X7_339 : LkV RX7 339 yX7_isDead cX7_isDead 2 (Option.some Jvm.ClassFile.FieldType.boolean) 1 := ⟨⟨(q1 1 rfl rfl), (q2 103 rfl rfl), by decide, by decide, by decide +kernel⟩, (q2 100 rfl rfl), (q2 102 rfl rfl), (qs1 4 rfl)⟩
theorem L_X7_341 : LkV RX7 341 yX0_covers cX0_covers 2 (Option.some Jvm.ClassFile.FieldType.boolean) 1 := ⟨⟨(q1 21 rfl rfl), (q2 38 rfl rfl), by decide, by decide, by decide +kernel⟩, (q2 35 rfl rfl), (q2 36 rfl rfl), (q2 37 rfl rfl)⟩
theorem N_X7_66 : Cond.constant RX7 66 (100000) ∈ wA := (q2 159 rfl rfl)
theorem N_X7_181 : Cond.constant RX7 181 (1000000) ∈ wA := (q3 219 rfl rfl)
theorem K_X7_7 : Cond.classLink RX7 7 "NuggetCamp$Creek" ∈ wA := (q1 33 rfl rfl)
theorem K_X7_16 : Cond.classLink RX7 16 "NuggetCamp$Store" ∈ wA := (q1 55 rfl rfl)
theorem K_X7_23 : Cond.classLink RX7 23 "NuggetCamp$Rumours" ∈ wA := (q1 72 rfl rfl)
theorem K_X7_30 : Cond.classLink RX7 30 "java/util/ArrayList" ∈ wA := (q1 82 rfl rfl)
theorem K_X7_292 : Cond.classLink RX7 292 "java/lang/IndexOutOfBoundsException" ∈ wA := (q1 174 rfl rfl)
theorem K_X7_299 : Cond.classLink RX7 299 "java/lang/IllegalArgumentException" ∈ wA := (q2 59 rfl rfl)
theorem K_X7_304 : Cond.classLink RX7 304 "java/lang/IllegalStateException" ∈ wA := (q2 163 rfl rfl)
theorem f_X7_10 : FL RX7 10 7 0 (.object "NuggetCamp$Creek") true := ⟨RX7, TX7, 12, "NuggetCamp", tyX7, rfl, inA_RX7, by decide, Or.inl ⟨(q1 108 rfl rfl), Or.inl rfl⟩, tyX7_ok, nmX7, rfl, rfl, fun _ => rfl⟩
theorem f_X7_19 : FL RX7 19 7 1 (.object "NuggetCamp$Store") true := ⟨RX7, TX7, 12, "NuggetCamp", tyX7, rfl, inA_RX7, by decide, Or.inl ⟨(q1 109 rfl rfl), Or.inl rfl⟩, tyX7_ok, nmX7, rfl, rfl, fun _ => rfl⟩
theorem f_X7_26 : FL RX7 26 7 2 (.object "NuggetCamp$Rumours") true := ⟨RX7, TX7, 12, "NuggetCamp", tyX7, rfl, inA_RX7, by decide, Or.inl ⟨(q1 110 rfl rfl), Or.inl rfl⟩, tyX7_ok, nmX7, rfl, rfl, fun _ => rfl⟩
theorem f_X7_33 : FL RX7 33 7 3 (.object "java/util/ArrayList") true := ⟨RX7, TX7, 12, "NuggetCamp", tyX7, rfl, inA_RX7, by decide, Or.inl ⟨(q1 111 rfl rfl), Or.inl rfl⟩, tyX7_ok, nmX7, rfl, rfl, fun _ => rfl⟩
theorem f_X7_37 : FL RX7 37 7 4 (.object "java/util/ArrayList") true := ⟨RX7, TX7, 12, "NuggetCamp", tyX7, rfl, inA_RX7, by decide, Or.inl ⟨(q1 112 rfl rfl), Or.inl rfl⟩, tyX7_ok, nmX7, rfl, rfl, fun _ => rfl⟩
theorem f_X7_40 : FL RX7 40 7 5 (.object "java/util/ArrayList") true := ⟨RX7, TX7, 12, "NuggetCamp", tyX7, rfl, inA_RX7, by decide, Or.inl ⟨(q1 113 rfl rfl), Or.inl rfl⟩, tyX7_ok, nmX7, rfl, rfl, fun _ => rfl⟩
theorem f_X7_43 : FL RX7 43 7 6 (.int) false := ⟨RX7, TX7, 12, "NuggetCamp", tyX7, rfl, inA_RX7, by decide, Or.inl ⟨(q1 114 rfl rfl), Or.inl rfl⟩, tyX7_ok, nmX7, rfl, rfl, fun h => absurd h (by decide)⟩
theorem f_X7_47 : FL RX7 47 7 7 (.int) false := ⟨RX7, TX7, 12, "NuggetCamp", tyX7, rfl, inA_RX7, by decide, Or.inl ⟨(q1 115 rfl rfl), Or.inl rfl⟩, tyX7_ok, nmX7, rfl, rfl, fun h => absurd h (by decide)⟩
theorem f_X7_50 : FL RX7 50 7 8 (.int) false := ⟨RX7, TX7, 12, "NuggetCamp", tyX7, rfl, inA_RX7, by decide, Or.inl ⟨(q1 116 rfl rfl), Or.inl rfl⟩, tyX7_ok, nmX7, rfl, rfl, fun h => absurd h (by decide)⟩
theorem f_X7_53 : FL RX7 53 7 9 (.int) false := ⟨RX7, TX7, 12, "NuggetCamp", tyX7, rfl, inA_RX7, by decide, Or.inl ⟨(q1 117 rfl rfl), Or.inl rfl⟩, tyX7_ok, nmX7, rfl, rfl, fun h => absurd h (by decide)⟩
theorem f_X7_56 : FL RX7 56 7 10 (.int) false := ⟨RX7, TX7, 12, "NuggetCamp", tyX7, rfl, inA_RX7, by decide, Or.inl ⟨(q1 118 rfl rfl), Or.inl rfl⟩, tyX7_ok, nmX7, rfl, rfl, fun h => absurd h (by decide)⟩
theorem f_X7_59 : FL RX7 59 7 11 (.int) false := ⟨RX7, TX7, 12, "NuggetCamp", tyX7, rfl, inA_RX7, by decide, Or.inl ⟨(q1 119 rfl rfl), Or.inl rfl⟩, tyX7_ok, nmX7, rfl, rfl, fun h => absurd h (by decide)⟩
theorem f_X7_71 : FL RX7 71 2 3 (.boolean) false := ⟨RX1, TX1, 4, "NuggetCamp$Creek", tyX1, rfl, inA_RX1, by decide, Or.inr ⟨rfl, "NuggetCamp", (qn1 44 rfl rfl)⟩, tyX1_ok, nmX1, rfl, rfl, fun h => absurd h (by decide)⟩
theorem f_X7_138 : FL RX7 138 3 8 (.int) false := ⟨RX3, TX3, 9, "NuggetCamp$Miner", tyX3, rfl, inA_RX3, by decide, Or.inr ⟨rfl, "NuggetCamp", (qn2 211 rfl rfl)⟩, tyX3_ok, nmX3, rfl, rfl, fun h => absurd h (by decide)⟩
theorem f_X7_161 : FL RX7 161 1 4 (.int) false := ⟨RX0, TX0, 11, "NuggetCamp$Claim", tyX0, rfl, inA_RX0, by decide, Or.inr ⟨rfl, "NuggetCamp", (qn3 102 rfl rfl)⟩, tyX0_ok, nmX0, rfl, rfl, fun h => absurd h (by decide)⟩
theorem f_X7_166 : FL RX7 166 3 2 (.int) false := ⟨RX3, TX3, 9, "NuggetCamp$Miner", tyX3, rfl, inA_RX3, by decide, Or.inr ⟨rfl, "NuggetCamp", (qn2 199 rfl rfl)⟩, tyX3_ok, nmX3, rfl, rfl, fun h => absurd h (by decide)⟩
theorem f_X7_178 : FL RX7 178 3 3 (.int) false := ⟨RX3, TX3, 9, "NuggetCamp$Miner", tyX3, rfl, inA_RX3, by decide, Or.inr ⟨rfl, "NuggetCamp", (qn2 201 rfl rfl)⟩, tyX3_ok, nmX3, rfl, rfl, fun h => absurd h (by decide)⟩
theorem f_X7_188 : FL RX7 188 3 7 (.int) false := ⟨RX3, TX3, 9, "NuggetCamp$Miner", tyX3, rfl, inA_RX3, by decide, Or.inr ⟨rfl, "NuggetCamp", (qn2 209 rfl rfl)⟩, tyX3_ok, nmX3, rfl, rfl, fun h => absurd h (by decide)⟩
theorem f_X7_194 : FL RX7 194 3 5 (.int) false := ⟨RX3, TX3, 9, "NuggetCamp$Miner", tyX3, rfl, inA_RX3, by decide, Or.inr ⟨rfl, "NuggetCamp", (qn2 205 rfl rfl)⟩, tyX3_ok, nmX3, rfl, rfl, fun h => absurd h (by decide)⟩
theorem f_X7_206 : FL RX7 206 6 2 (.int) false := ⟨RX6, TX6, 3, "NuggetCamp$Store", tyX6, rfl, inA_RX6, by decide, Or.inr ⟨rfl, "NuggetCamp", (qn1 64 rfl rfl)⟩, tyX6_ok, nmX6, rfl, rfl, fun h => absurd h (by decide)⟩
theorem f_X7_209 : FL RX7 209 3 4 (.int) false := ⟨RX3, TX3, 9, "NuggetCamp$Miner", tyX3, rfl, inA_RX3, by decide, Or.inr ⟨rfl, "NuggetCamp", (qn2 203 rfl rfl)⟩, tyX3_ok, nmX3, rfl, rfl, fun h => absurd h (by decide)⟩
theorem f_X7_226 : FL RX7 226 1 5 (.boolean) false := ⟨RX0, TX0, 11, "NuggetCamp$Claim", tyX0, rfl, inA_RX0, by decide, Or.inr ⟨rfl, "NuggetCamp", (qn3 104 rfl rfl)⟩, tyX0_ok, nmX0, rfl, rfl, fun h => absurd h (by decide)⟩
theorem f_X7_246 : FL RX7 246 1 10 (.boolean) false := ⟨RX0, TX0, 11, "NuggetCamp$Claim", tyX0, rfl, inA_RX0, by decide, Or.inr ⟨rfl, "NuggetCamp", (qn3 114 rfl rfl)⟩, tyX0_ok, nmX0, rfl, rfl, fun h => absurd h (by decide)⟩
theorem f_X7_252 : FL RX7 252 1 9 (.boolean) false := ⟨RX0, TX0, 11, "NuggetCamp$Claim", tyX0, rfl, inA_RX0, by decide, Or.inr ⟨rfl, "NuggetCamp", (qn3 112 rfl rfl)⟩, tyX0_ok, nmX0, rfl, rfl, fun h => absurd h (by decide)⟩
