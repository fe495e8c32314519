theorem qm1 {x : Cond} (h : x ∈ tables_1_1) : x ∈ tables_1 := List.mem_append_left _ h
theorem q1 {x : Cond} (i : Nat) (h : tables_1_1[i]? = some x) (g : goodWord x = true) : x ∈ wA := List.mem_filter.mpr ⟨List.mem_append_right _ (qm1 (List.mem_of_getElem? h)), g⟩
theorem qn1 {x : Cond} (i : Nat) (h : tables_1_1[i]? = some x) (g : isN x = true) : x ∈ wN := List.mem_filter.mpr ⟨qm1 (List.mem_of_getElem? h), g⟩
theorem qm2 {x : Cond} (h : x ∈ tables_1_2) : x ∈ tables_1 := List.mem_append_right _ (List.mem_append_left _ h)
theorem q2 {x : Cond} (i : Nat) (h : tables_1_2[i]? = some x) (g : goodWord x = true) : x ∈ wA := List.mem_filter.mpr ⟨List.mem_append_right _ (qm2 (List.mem_of_getElem? h)), g⟩
theorem qn2 {x : Cond} (i : Nat) (h : tables_1_2[i]? = some x) (g : isN x = true) : x ∈ wN := List.mem_filter.mpr ⟨qm2 (List.mem_of_getElem? h), g⟩
theorem qm3 {x : Cond} (h : x ∈ tables_1_3) : x ∈ tables_1 := List.mem_append_right _ (List.mem_append_right _ (List.mem_append_left _ h))
theorem q3 {x : Cond} (i : Nat) (h : tables_1_3[i]? = some x) (g : goodWord x = true) : x ∈ wA := List.mem_filter.mpr ⟨List.mem_append_right _ (qm3 (List.mem_of_getElem? h)), g⟩
theorem qn3 {x : Cond} (i : Nat) (h : tables_1_3[i]? = some x) (g : isN x = true) : x ∈ wN := List.mem_filter.mpr ⟨qm3 (List.mem_of_getElem? h), g⟩
theorem qm4 {x : Cond} (h : x ∈ tables_1_4) : x ∈ tables_1 := List.mem_append_right _ (List.mem_append_right _ (List.mem_append_right _ (List.mem_append_left _ h)))
theorem q4 {x : Cond} (i : Nat) (h : tables_1_4[i]? = some x) (g : goodWord x = true) : x ∈ wA := List.mem_filter.mpr ⟨List.mem_append_right _ (qm4 (List.mem_of_getElem? h)), g⟩
theorem qn4 {x : Cond} (i : Nat) (h : tables_1_4[i]? = some x) (g : isN x = true) : x ∈ wN := List.mem_filter.mpr ⟨qm4 (List.mem_of_getElem? h), g⟩
theorem qm5 {x : Cond} (h : x ∈ tables_1_5) : x ∈ tables_1 := List.mem_append_right _ (List.mem_append_right _ (List.mem_append_right _ (List.mem_append_right _ (List.mem_append_left _ h))))
theorem q5 {x : Cond} (i : Nat) (h : tables_1_5[i]? = some x) (g : goodWord x = true) : x ∈ wA := List.mem_filter.mpr ⟨List.mem_append_right _ (qm5 (List.mem_of_getElem? h)), g⟩
theorem qn5 {x : Cond} (i : Nat) (h : tables_1_5[i]? = some x) (g : isN x = true) : x ∈ wN := List.mem_filter.mpr ⟨qm5 (List.mem_of_getElem? h), g⟩
theorem qm6 {x : Cond} (h : x ∈ tables_1_6) : x ∈ tables_1 := List.mem_append_right _ (List.mem_append_right _ (List.mem_append_right _ (List.mem_append_right _ (List.mem_append_right _ (h)))))
theorem q6 {x : Cond} (i : Nat) (h : tables_1_6[i]? = some x) (g : goodWord x = true) : x ∈ wA := List.mem_filter.mpr ⟨List.mem_append_right _ (qm6 (List.mem_of_getElem? h)), g⟩
theorem qn6 {x : Cond} (i : Nat) (h : tables_1_6[i]? = some x) (g : isN x = true) : x ∈ wN := List.mem_filter.mpr ⟨qm6 (List.mem_of_getElem? h), g⟩
theorem qs1 {y : MethodName} {N : Nat} (i : Nat) (h0 : lw_privs_1[i]? = some (y, N)) : Cond.selects y.cls y y ∈ wA := by
  have h := List.mem_of_getElem? h0
  exact List.mem_filter.mpr ⟨List.mem_append_left _ (List.mem_map.mpr ⟨(y, N), List.mem_append_left _ h, rfl⟩), rfl⟩
theorem qs2 {y : MethodName} {N : Nat} (i : Nat) (h0 : lw_privs_2[i]? = some (y, N)) : Cond.selects y.cls y y ∈ wA := by
  have h := List.mem_of_getElem? h0
  exact List.mem_filter.mpr ⟨List.mem_append_left _ (List.mem_map.mpr ⟨(y, N), List.mem_append_right _ (List.mem_append_left _ h), rfl⟩), rfl⟩
theorem qs3 {y : MethodName} {N : Nat} (i : Nat) (h0 : lw_privs_3[i]? = some (y, N)) : Cond.selects y.cls y y ∈ wA := by
  have h := List.mem_of_getElem? h0
  exact List.mem_filter.mpr ⟨List.mem_append_left _ (List.mem_map.mpr ⟨(y, N), List.mem_append_right _ (List.mem_append_right _ h), rfl⟩), rfl⟩
theorem ina {ws : List Cond} (ps : List Nat) (hp : ws = ps.filterMap (fun i => tables_1[i]?)) (h : ws.all goodWord = true) : ∀ x ∈ ws, x ∈ wA := by
  intro x hx
  have h1 := List.all_eq_true.mp h x hx
  rw [hp] at hx
  obtain ⟨i, -, hi⟩ := List.mem_filterMap.mp hx
  exact List.mem_filter.mpr ⟨List.mem_append_right _ (List.mem_of_getElem? hi), h1⟩
theorem inA_RJx4a65c : ∀ x ∈ u_ws RJx4a65c TJx4a65c 3, x ∈ wA := ina [106, 102, 104] (by decide +kernel) (by decide +kernel)
theorem inA_RX0 : ∀ x ∈ u_ws RX0 TX0 11, x ∈ wA := ina [527, 529, 531, 533, 535, 537, 539, 541, 543, 545, 547] (by decide +kernel) (by decide +kernel)
theorem inA_RX1 : ∀ x ∈ u_ws RX1 TX1 4, x ∈ wA := ina [46, 48, 50, 52] (by decide +kernel) (by decide +kernel)
theorem inA_RX3 : ∀ x ∈ u_ws RX3 TX3 9, x ∈ wA := ina [328, 330, 332, 334, 336, 338, 340, 342, 344] (by decide +kernel) (by decide +kernel)
theorem inA_RX4 : ∀ x ∈ u_ws RX4 TX4 2, x ∈ wA := ina [567, 569] (by decide +kernel) (by decide +kernel)
theorem inA_RX5 : ∀ x ∈ u_ws RX5 TX5 1, x ∈ wA := ina [80] (by decide +kernel) (by decide +kernel)
theorem inA_RX6 : ∀ x ∈ u_ws RX6 TX6 3, x ∈ wA := ina [66, 68, 70] (by decide +kernel) (by decide +kernel)
theorem inA_RX7 : ∀ x ∈ u_ws RX7 TX7 12, x ∈ wA := ina [121, 123, 125, 127, 129, 131, 133, 135, 137, 139, 141, 143] (by decide +kernel) (by decide +kernel)
theorem inA_RX8 : ∀ x ∈ u_ws RX8 TX8 46, x ∈ wA := ina [902, 904, 906, 908, 910, 912, 914, 916, 918, 920, 922, 924, 926, 928, 930, 932, 934, 936, 938, 940, 942, 944, 946, 948, 950, 952, 954, 956, 958, 960, 962, 964, 966, 968, 970, 972, 974, 976, 978, 980, 982, 984, 986, 988, 990, 992] (by decide +kernel) (by decide +kernel)
theorem L_J15_105 : LkS RJ15 105 yJ3_checkIndex_8e157 cJ3_checkIndex_8e157 3 (Option.some Jvm.ClassFile.FieldType.int) 3 := ⟨⟨(q1 21 rfl rfl), (q2 187 rfl rfl), by decide, by decide, by decide +kernel⟩, (q2 185 rfl rfl), (q2 186 rfl rfl)⟩
theorem K_J7_2 : Cond.classLink RJ7 2 "java/lang/Object" ∈ wA := (q2 158 rfl rfl)
theorem K_J7_110 : Cond.classLink RJ7 110 "[Ljava/lang/Object;" ∈ wA := (q2 156 rfl rfl)
theorem L_J7_300 : LkS RJ7 300 yJ7_copyOf_6403c cJ7_copyOf_6403c 4 (Option.some (Jvm.ClassFile.FieldType.array (Jvm.ClassFile.FieldType.object "java/lang/Object"))) 3 := ⟨⟨(q1 18 rfl rfl), (q2 155 rfl rfl), by decide, by decide, by decide +kernel⟩, (q2 153 rfl rfl), (q2 154 rfl rfl)⟩
theorem L_J7_304 : LkS RJ7 304 yJ9_min_7cf53 cJ9_min_7cf53 2 (Option.some Jvm.ClassFile.FieldType.int) 2 := ⟨⟨(q1 17 rfl rfl), (q2 161 rfl rfl), by decide, by decide, by decide +kernel⟩, (q2 159 rfl rfl), (q2 160 rfl rfl)⟩
theorem L_J8_194 : LkS RJ8 194 yJ9_max_7cf53 cJ9_max_7cf53 2 (Option.some Jvm.ClassFile.FieldType.int) 2 := ⟨⟨(q1 17 rfl rfl), (q2 128 rfl rfl), by decide, by decide, by decide +kernel⟩, (q2 126 rfl rfl), (q2 127 rfl rfl)⟩
theorem L_J8_201 : LkS RJ8 201 yJ8_hugeLength_7cf53 cJ8_hugeLength_7cf53 3 (Option.some Jvm.ClassFile.FieldType.int) 2 := ⟨⟨(q1 16 rfl rfl), (q2 132 rfl rfl), by decide, by decide, by decide +kernel⟩, (q2 130 rfl rfl), (q2 131 rfl rfl)⟩
theorem N_J8_200 : Cond.constant RJ8 200 2147483639 ∈ wA := (q2 129 rfl rfl)
theorem K_Jx4a65c_7 : Cond.classLink RJx4a65c 7 "java/lang/Object" ∈ wA := (q2 166 rfl rfl)
theorem g_Jx4a65c_9 : FG RJx4a65c 9 0 1 := ⟨RJx4a65c, TJx4a65c, 3, "java/util/ArrayList", rfl, inA_RJx4a65c, by decide, Or.inl ⟨(q1 97 rfl rfl), Or.inl rfl⟩⟩
theorem g_Jx4a65c_48 : FG RJx4a65c 48 0 2 := ⟨RJx4a65c, TJx4a65c, 3, "java/util/ArrayList", rfl, inA_RJx4a65c, by decide, Or.inl ⟨(q1 98 rfl rfl), Or.inl rfl⟩⟩
theorem g_Jx4a65c_63 : FG RJx4a65c 63 0 0 := ⟨RJx4a65c, TJx4a65c, 3, "java/util/ArrayList", rfl, inA_RJx4a65c, by decide, Or.inl ⟨(q1 100 rfl rfl), Or.inr (q1 101 rfl rfl)⟩⟩
theorem S_Jx4a65c_39 : Cond.fieldLink RJx4a65c 39 "java/util/ArrayList" "DEFAULTCAPACITY_EMPTY_ELEMENTDATA" "[Ljava/lang/Object;" ∈ wA := (q1 95 rfl rfl)
theorem L_Jx4a65c_1 : LkI RJx4a65c 1 yJxc12de_init_da8c8 cJxc12de_init_da8c8 1 0 := ⟨⟨(q1 6 rfl rfl), (q1 90 rfl rfl), by decide, by decide, by decide +kernel⟩, Or.inl (q1 88 rfl rfl), (q1 89 rfl rfl), rfl⟩
theorem L_Jx4a65c_66 : LkS RJx4a65c 66 yJ7_copyOf_1904c cJ7_copyOf_1904c 2 (Option.some (Jvm.ClassFile.FieldType.array (Jvm.ClassFile.FieldType.object "java/lang/Object"))) 2 := ⟨⟨(q1 18 rfl rfl), (q2 135 rfl rfl), by decide, by decide, by decide +kernel⟩, (q2 133 rfl rfl), (q2 134 rfl rfl)⟩
theorem L_Jx4a65c_73 : LkS RJx4a65c 73 yJ8_newLength_cabcc cJ8_newLength_cabcc 4 (Option.some Jvm.ClassFile.FieldType.int) 3 := ⟨⟨(q1 16 rfl rfl), (q2 125 rfl rfl), by decide, by decide, by decide +kernel⟩, (q2 123 rfl rfl), (q2 124 rfl rfl)⟩
theorem L_Jx4a65c_79 : LkS RJx4a65c 79 yJ9_max_7cf53 cJ9_max_7cf53 2 (Option.some Jvm.ClassFile.FieldType.int) 2 := ⟨⟨(q1 17 rfl rfl), (q2 128 rfl rfl), by decide, by decide, by decide +kernel⟩, (q2 165 rfl rfl), (q2 127 rfl rfl)⟩
theorem L_Jx4a65c_118 : LkS RJx4a65c 118 yJ15_checkIndex_7cf53 cJ15_checkIndex_7cf53 2 (Option.some Jvm.ClassFile.FieldType.int) 2 := ⟨⟨(q1 20 rfl rfl), (q2 184 rfl rfl), by decide, by decide, by decide +kernel⟩, (q2 182 rfl rfl), (q2 183 rfl rfl)⟩
theorem L_Jx4a65c_69 : LkV RJx4a65c 69 yJx4a65c_grow_92f84 cJx4a65c_grow_92f84 4 (Option.some (Jvm.ClassFile.FieldType.array (Jvm.ClassFile.FieldType.object "java/lang/Object"))) 1 := ⟨⟨(q1 7 rfl rfl), (q2 122 rfl rfl), by decide, by decide, by decide +kernel⟩, (q2 119 rfl rfl), (q2 121 rfl rfl), (qs1 3 rfl)⟩
theorem L_Jx4a65c_123 : LkV RJx4a65c 123 yJx4a65c_elementData_915e3 cJx4a65c_elementData_915e3 2 (Option.some (Jvm.ClassFile.FieldType.object "java/lang/Object")) 1 := ⟨⟨(q1 7 rfl rfl), (q2 191 rfl rfl), by decide, by decide, by decide +kernel⟩, (q2 188 rfl rfl), (q2 189 rfl rfl), (q2 190 rfl rfl)⟩
theorem L_Jx4a65c_129 : LkV RJx4a65c 129 yJx4a65c_grow_d5877 cJx4a65c_grow_d5877 1 (Option.some (Jvm.ClassFile.FieldType.array (Jvm.ClassFile.FieldType.object "java/lang/Object"))) 0 := ⟨⟨(q1 7 rfl rfl), (q2 118 rfl rfl), by decide, by decide, by decide +kernel⟩, (q2 115 rfl rfl), (q2 117 rfl rfl), (qs1 2 rfl)⟩
theorem L_Jx4a65c_131 : LkV RJx4a65c 131 yJx4a65c_add_72be8 cJx4a65c_add_72be8 4 (Option.none : Option Jvm.ClassFile.FieldType) 3 := ⟨⟨(q1 7 rfl rfl), (q2 114 rfl rfl), by decide, by decide, by decide +kernel⟩, (q2 111 rfl rfl), (q2 113 rfl rfl), (qs1 1 rfl)⟩
theorem f_Jx4a65c_9 : FL RJx4a65c 9 0 1 (.array (.object "java/lang/Object")) false := ⟨RJx4a65c, TJx4a65c, 3, "java/util/ArrayList", tyJx4a65c, rfl, inA_RJx4a65c, by decide, Or.inl ⟨(q1 97 rfl rfl), Or.inl rfl⟩, tyJx4a65c_ok, nmJx4a65c, rfl, rfl, fun h => absurd h (by decide)⟩
theorem f_Jx4a65c_48 : FL RJx4a65c 48 0 2 (.int) false := ⟨RJx4a65c, TJx4a65c, 3, "java/util/ArrayList", tyJx4a65c, rfl, inA_RJx4a65c, by decide, Or.inl ⟨(q1 98 rfl rfl), Or.inl rfl⟩, tyJx4a65c_ok, nmJx4a65c, rfl, rfl, fun h => absurd h (by decide)⟩
theorem f_Jx4a65c_63 : FL RJx4a65c 63 0 0 (.int) false := ⟨RJx4a65c, TJx4a65c, 3, "java/util/ArrayList", tyJx4a65c, rfl, inA_RJx4a65c, by decide, Or.inl ⟨(q1 100 rfl rfl), Or.inr (q1 101 rfl rfl)⟩, tyJx4a65c_ok, nmJx4a65c, rfl, rfl, fun h => absurd h (by decide)⟩
theorem L_Jxa1e45_1 : Cond.methodLink RJxa1e45 1 objectInit ∈ wA := (q1 94 rfl rfl)
theorem L_Jxc12de_1 : LkI RJxc12de 1 yJxa1e45_init_da8c8 cJxa1e45_init_da8c8 1 0 := ⟨⟨(q1 5 rfl rfl), (q1 93 rfl rfl), by decide, by decide, by decide +kernel⟩, Or.inl (q1 91 rfl rfl), (q1 92 rfl rfl), rfl⟩
theorem f_Jxc12de_7 : FL RJxc12de 7 0 0 (.int) false := ⟨RJx4a65c, TJx4a65c, 3, "java/util/AbstractList", tyJx4a65c, rfl, inA_RJx4a65c, by decide, Or.inl ⟨(q1 99 rfl rfl), Or.inl rfl⟩, tyJx4a65c_ok, nmJx4a65c, rfl, rfl, fun h => absurd h (by decide)⟩
theorem L_L_108 : LkI RL 108 yX7_init cX7_init 1 0 := ⟨⟨(q1 1 rfl rfl), (q1 30 rfl rfl), by decide, by decide, by decide +kernel⟩, Or.inl (q1 28 rfl rfl), (q1 29 rfl rfl), rfl⟩
theorem L_L_111 : LkI RL 111 yX8_init cX8_init 1 0 := ⟨⟨(q1 8 rfl rfl), (q4 134 rfl rfl), by decide, by decide, by decide +kernel⟩, Or.inl (q4 132 rfl rfl), (q4 133 rfl rfl), rfl⟩
theorem L_L_112 : Cond.methodLink RL 112 yL_ground ∈ wA := (q1 150 rfl rfl)
theorem L_L_122 : Cond.methodLink RL 122 yL_flow ∈ wA := (q2 48 rfl rfl)
theorem L_L_126 : Cond.methodLink RL 126 yL_miner ∈ wA := (q2 55 rfl rfl)
theorem L_L_130 : Cond.methodLink RL 130 yL_pass ∈ wA := (q2 167 rfl rfl)
theorem L_L_133 : Cond.methodLink RL 133 yL_meet ∈ wA := (q2 225 rfl rfl)
theorem L_L_137 : Cond.methodLink RL 137 yL_peg ∈ wA := (q2 236 rfl rfl)
theorem L_L_140 : Cond.methodLink RL 140 yL_right ∈ wA := (q3 70 rfl rfl)
theorem L_L_143 : Cond.methodLink RL 143 yL_work ∈ wA := (q3 92 rfl rfl)
theorem L_L_146 : Cond.methodLink RL 146 yL_sample ∈ wA := (q3 151 rfl rfl)
theorem L_L_149 : Cond.methodLink RL 149 yL_salt ∈ wA := (q3 158 rfl rfl)
theorem L_L_152 : Cond.methodLink RL 152 yL_brass ∈ wA := (q3 174 rfl rfl)
theorem L_L_155 : Cond.methodLink RL 155 yL_sell ∈ wA := (q3 181 rfl rfl)
theorem L_L_158 : Cond.methodLink RL 158 yL_rate ∈ wA := (q3 202 rfl rfl)
theorem L_L_161 : Cond.methodLink RL 161 yL_freight ∈ wA := (q3 209 rfl rfl)
theorem L_L_165 : Cond.methodLink RL 165 yL_buy ∈ wA := (q3 224 rfl rfl)
theorem L_L_168 : Cond.methodLink RL 168 yL_back ∈ wA := (q3 235 rfl rfl)
theorem L_L_172 : Cond.methodLink RL 172 yL_end ∈ wA := (q4 10 rfl rfl)
theorem L_L_175 : Cond.methodLink RL 175 yL_trade ∈ wA := (q4 17 rfl rfl)
theorem L_L_178 : Cond.methodLink RL 178 yL_suit ∈ wA := (q4 32 rfl rfl)
theorem L_L_181 : Cond.methodLink RL 181 yL_rumour ∈ wA := (q4 39 rfl rfl)
theorem L_L_188 : Cond.methodLink RL 188 yL_holds ∈ wA := (q4 55 rfl rfl)
theorem L_L_191 : Cond.methodLink RL 191 yL_ofClaim ∈ wA := (q4 62 rfl rfl)
theorem L_L_194 : Cond.methodLink RL 194 yL_ofMiner ∈ wA := (q4 69 rfl rfl)
theorem L_L_197 : Cond.methodLink RL 197 yL_gets ∈ wA := (q4 76 rfl rfl)
theorem L_L_200 : Cond.methodLink RL 200 yL_gold ∈ wA := (q4 83 rfl rfl)
theorem L_L_203 : Cond.methodLink RL 203 yL_camp ∈ wA := (q4 98 rfl rfl)
theorem L_L_206 : Cond.methodLink RL 206 yL_belief ∈ wA := (q4 105 rfl rfl)
theorem L_L_209 : Cond.methodLink RL 209 yL_plan ∈ wA := (q4 112 rfl rfl)
theorem L_L_212 : Cond.methodLink RL 212 yL_planCell ∈ wA := (q4 123 rfl rfl)
theorem L_L_7 : LkV RL 7 yX7_ground cX7_ground 5 (Option.some Jvm.ClassFile.FieldType.int) 3 := ⟨⟨(q1 1 rfl rfl), (q1 159 rfl rfl), by decide, by decide, by decide +kernel⟩, (q1 156 rfl rfl), (q1 157 rfl rfl), (q1 158 rfl rfl)⟩
theorem L_L_19 : LkV RL 19 yX7_flow cX7_flow 3 (Option.some Jvm.ClassFile.FieldType.int) 1 := ⟨⟨(q1 1 rfl rfl), (q2 54 rfl rfl), by decide, by decide, by decide +kernel⟩, (q2 51 rfl rfl), (q2 52 rfl rfl), (q2 53 rfl rfl)⟩
theorem L_L_23 : LkV RL 23 yX7_miner cX7_miner 3 (Option.some Jvm.ClassFile.FieldType.int) 2 := ⟨⟨(q1 1 rfl rfl), (q2 61 rfl rfl), by decide, by decide, by decide +kernel⟩, (q2 58 rfl rfl), (q2 59 rfl rfl), (q2 60 rfl rfl)⟩
theorem L_L_27 : LkV RL 27 yX7_pass cX7_pass 3 (Option.some Jvm.ClassFile.FieldType.int) 1 := ⟨⟨(q1 1 rfl rfl), (q2 173 rfl rfl), by decide, by decide, by decide +kernel⟩, (q2 170 rfl rfl), (q2 171 rfl rfl), (q2 172 rfl rfl)⟩
theorem L_L_30 : LkV RL 30 yX7_meet cX7_meet 6 (Option.some Jvm.ClassFile.FieldType.boolean) 4 := ⟨⟨(q1 1 rfl rfl), (q2 231 rfl rfl), by decide, by decide, by decide +kernel⟩, (q2 228 rfl rfl), (q2 229 rfl rfl), (q2 230 rfl rfl)⟩
theorem L_L_34 : LkV RL 34 yX7_peg cX7_peg 5 (Option.some Jvm.ClassFile.FieldType.int) 3 := ⟨⟨(q1 1 rfl rfl), (q3 2 rfl rfl), by decide, by decide, by decide +kernel⟩, (q2 239 rfl rfl), (q3 0 rfl rfl), (q3 1 rfl rfl)⟩
theorem L_L_37 : LkV RL 37 yX7_right cX7_right 4 (Option.some Jvm.ClassFile.FieldType.int) 2 := ⟨⟨(q1 1 rfl rfl), (q3 76 rfl rfl), by decide, by decide, by decide +kernel⟩, (q3 73 rfl rfl), (q3 74 rfl rfl), (q3 75 rfl rfl)⟩
theorem L_L_40 : LkV RL 40 yX7_work cX7_work 8 (Option.some Jvm.ClassFile.FieldType.int) 3 := ⟨⟨(q1 1 rfl rfl), (q3 98 rfl rfl), by decide, by decide, by decide +kernel⟩, (q3 95 rfl rfl), (q3 96 rfl rfl), (q3 97 rfl rfl)⟩
theorem L_L_43 : LkV RL 43 yX7_sample cX7_sample 2 (Option.some Jvm.ClassFile.FieldType.int) 1 := ⟨⟨(q1 1 rfl rfl), (q3 157 rfl rfl), by decide, by decide, by decide +kernel⟩, (q3 154 rfl rfl), (q3 155 rfl rfl), (q3 156 rfl rfl)⟩
theorem L_L_46 : LkV RL 46 yX7_salt cX7_salt 5 (Option.some Jvm.ClassFile.FieldType.int) 3 := ⟨⟨(q1 1 rfl rfl), (q3 164 rfl rfl), by decide, by decide, by decide +kernel⟩, (q3 161 rfl rfl), (q3 162 rfl rfl), (q3 163 rfl rfl)⟩
theorem L_L_49 : LkV RL 49 yX7_brass cX7_brass 4 (Option.some Jvm.ClassFile.FieldType.int) 2 := ⟨⟨(q1 1 rfl rfl), (q3 180 rfl rfl), by decide, by decide, by decide +kernel⟩, (q3 177 rfl rfl), (q3 178 rfl rfl), (q3 179 rfl rfl)⟩
theorem L_L_52 : LkV RL 52 yX7_sell cX7_sell 7 (Option.some Jvm.ClassFile.FieldType.int) 2 := ⟨⟨(q1 1 rfl rfl), (q3 187 rfl rfl), by decide, by decide, by decide +kernel⟩, (q3 184 rfl rfl), (q3 185 rfl rfl), (q3 186 rfl rfl)⟩
theorem L_L_55 : LkV RL 55 yX7_rate cX7_rate 3 (Option.some Jvm.ClassFile.FieldType.int) 1 := ⟨⟨(q1 1 rfl rfl), (q3 208 rfl rfl), by decide, by decide, by decide +kernel⟩, (q3 205 rfl rfl), (q3 206 rfl rfl), (q3 207 rfl rfl)⟩
theorem L_L_58 : LkV RL 58 yX7_freight cX7_freight 3 (Option.none : Option Jvm.ClassFile.FieldType) 2 := ⟨⟨(q1 1 rfl rfl), (q3 215 rfl rfl), by decide, by decide, by decide +kernel⟩, (q3 212 rfl rfl), (q3 213 rfl rfl), (q3 214 rfl rfl)⟩
theorem L_L_62 : LkV RL 62 yX7_buy cX7_buy 5 (Option.some Jvm.ClassFile.FieldType.int) 2 := ⟨⟨(q1 1 rfl rfl), (q3 230 rfl rfl), by decide, by decide, by decide +kernel⟩, (q3 227 rfl rfl), (q3 228 rfl rfl), (q3 229 rfl rfl)⟩
theorem L_L_65 : LkV RL 65 yX7_back cX7_back 7 (Option.none : Option Jvm.ClassFile.FieldType) 4 := ⟨⟨(q1 1 rfl rfl), (q4 1 rfl rfl), by decide, by decide, by decide +kernel⟩, (q3 238 rfl rfl), (q3 239 rfl rfl), (q4 0 rfl rfl)⟩
theorem L_L_69 : LkV RL 69 yX7_end cX7_end 5 (Option.some Jvm.ClassFile.FieldType.int) 2 := ⟨⟨(q1 1 rfl rfl), (q4 16 rfl rfl), by decide, by decide, by decide +kernel⟩, (q4 13 rfl rfl), (q4 14 rfl rfl), (q4 15 rfl rfl)⟩
theorem L_L_72 : LkV RL 72 yX7_trade cX7_trade 9 (Option.some Jvm.ClassFile.FieldType.int) 3 := ⟨⟨(q1 1 rfl rfl), (q4 23 rfl rfl), by decide, by decide, by decide +kernel⟩, (q4 20 rfl rfl), (q4 21 rfl rfl), (q4 22 rfl rfl)⟩
theorem L_L_75 : LkV RL 75 yX7_suit cX7_suit 6 (Option.some Jvm.ClassFile.FieldType.int) 1 := ⟨⟨(q1 1 rfl rfl), (q4 38 rfl rfl), by decide, by decide, by decide +kernel⟩, (q4 35 rfl rfl), (q4 36 rfl rfl), (q4 37 rfl rfl)⟩
theorem L_L_78 : LkV RL 78 yX7_rumour cX7_rumour 4 (Option.some Jvm.ClassFile.FieldType.int) 2 := ⟨⟨(q1 1 rfl rfl), (q4 45 rfl rfl), by decide, by decide, by decide +kernel⟩, (q4 42 rfl rfl), (q4 43 rfl rfl), (q4 44 rfl rfl)⟩
theorem L_L_81 : LkV RL 81 yX7_holds cX7_holds 2 (Option.some Jvm.ClassFile.FieldType.int) 1 := ⟨⟨(q1 1 rfl rfl), (q4 61 rfl rfl), by decide, by decide, by decide +kernel⟩, (q4 58 rfl rfl), (q4 59 rfl rfl), (q4 60 rfl rfl)⟩
theorem L_L_84 : LkV RL 84 yX7_ofClaim cX7_ofClaim 4 (Option.some Jvm.ClassFile.FieldType.int) 2 := ⟨⟨(q1 1 rfl rfl), (q4 68 rfl rfl), by decide, by decide, by decide +kernel⟩, (q4 65 rfl rfl), (q4 66 rfl rfl), (q4 67 rfl rfl)⟩
theorem L_L_87 : LkV RL 87 yX7_ofMiner cX7_ofMiner 4 (Option.some Jvm.ClassFile.FieldType.int) 2 := ⟨⟨(q1 1 rfl rfl), (q4 75 rfl rfl), by decide, by decide, by decide +kernel⟩, (q4 72 rfl rfl), (q4 73 rfl rfl), (q4 74 rfl rfl)⟩
theorem L_L_90 : LkV RL 90 yX7_gets cX7_gets 2 (Option.some Jvm.ClassFile.FieldType.int) 1 := ⟨⟨(q1 1 rfl rfl), (q4 82 rfl rfl), by decide, by decide, by decide +kernel⟩, (q4 79 rfl rfl), (q4 80 rfl rfl), (q4 81 rfl rfl)⟩
theorem L_L_93 : LkV RL 93 yX7_gold cX7_gold 2 (Option.some Jvm.ClassFile.FieldType.int) 1 := ⟨⟨(q1 1 rfl rfl), (q4 89 rfl rfl), by decide, by decide, by decide +kernel⟩, (q4 86 rfl rfl), (q4 87 rfl rfl), (q4 88 rfl rfl)⟩
theorem L_L_96 : LkV RL 96 yX7_camp cX7_camp 2 (Option.some Jvm.ClassFile.FieldType.int) 1 := ⟨⟨(q1 1 rfl rfl), (q4 104 rfl rfl), by decide, by decide, by decide +kernel⟩, (q4 101 rfl rfl), (q4 102 rfl rfl), (q4 103 rfl rfl)⟩
theorem L_L_99 : LkV RL 99 yX7_belief cX7_belief 2 (Option.some Jvm.ClassFile.FieldType.int) 1 := ⟨⟨(q1 1 rfl rfl), (q4 111 rfl rfl), by decide, by decide, by decide +kernel⟩, (q4 108 rfl rfl), (q4 109 rfl rfl), (q4 110 rfl rfl)⟩
theorem L_L_102 : LkV RL 102 yX7_plan cX7_plan 5 (Option.some Jvm.ClassFile.FieldType.int) 2 := ⟨⟨(q1 1 rfl rfl), (q4 118 rfl rfl), by decide, by decide, by decide +kernel⟩, (q4 115 rfl rfl), (q4 116 rfl rfl), (q4 117 rfl rfl)⟩
theorem L_L_105 : LkV RL 105 yX7_planCell cX7_planCell 5 (Option.some Jvm.ClassFile.FieldType.int) 3 := ⟨⟨(q1 1 rfl rfl), (q4 129 rfl rfl), by decide, by decide, by decide +kernel⟩, (q4 126 rfl rfl), (q4 127 rfl rfl), (q4 128 rfl rfl)⟩
theorem L_L_117 : LkV RL 117 yX8_ground cX8_ground 6 (Option.some Jvm.ClassFile.FieldType.int) 3 := ⟨⟨(q1 8 rfl rfl), (q5 43 rfl rfl), by decide, by decide, by decide +kernel⟩, (q5 40 rfl rfl), (q5 41 rfl rfl), (q5 42 rfl rfl)⟩
theorem L_L_118 : LkV RL 118 yX8_thrown cX8_thrown 1 (Option.some Jvm.ClassFile.FieldType.int) 0 := ⟨⟨(q1 8 rfl rfl), (q5 39 rfl rfl), by decide, by decide, by decide +kernel⟩, (q5 36 rfl rfl), (q5 37 rfl rfl), (q5 38 rfl rfl)⟩
theorem L_L_125 : LkV RL 125 yX8_flow cX8_flow 3 (Option.some Jvm.ClassFile.FieldType.int) 1 := ⟨⟨(q1 8 rfl rfl), (q5 58 rfl rfl), by decide, by decide, by decide +kernel⟩, (q5 55 rfl rfl), (q5 56 rfl rfl), (q5 57 rfl rfl)⟩
theorem L_L_129 : LkV RL 129 yX8_miner cX8_miner 4 (Option.some Jvm.ClassFile.FieldType.int) 2 := ⟨⟨(q1 8 rfl rfl), (q5 62 rfl rfl), by decide, by decide, by decide +kernel⟩, (q5 59 rfl rfl), (q5 60 rfl rfl), (q5 61 rfl rfl)⟩
theorem L_L_132 : LkV RL 132 yX8_pass cX8_pass 4 (Option.some Jvm.ClassFile.FieldType.int) 1 := ⟨⟨(q1 8 rfl rfl), (q5 66 rfl rfl), by decide, by decide, by decide +kernel⟩, (q5 63 rfl rfl), (q5 64 rfl rfl), (q5 65 rfl rfl)⟩
theorem L_L_136 : LkV RL 136 yX8_meet cX8_meet 6 (Option.some Jvm.ClassFile.FieldType.boolean) 4 := ⟨⟨(q1 8 rfl rfl), (q5 89 rfl rfl), by decide, by decide, by decide +kernel⟩, (q5 86 rfl rfl), (q5 87 rfl rfl), (q5 88 rfl rfl)⟩
theorem L_L_139 : LkV RL 139 yX8_peg cX8_peg 6 (Option.some Jvm.ClassFile.FieldType.int) 3 := ⟨⟨(q1 8 rfl rfl), (q5 97 rfl rfl), by decide, by decide, by decide +kernel⟩, (q5 94 rfl rfl), (q5 95 rfl rfl), (q5 96 rfl rfl)⟩
theorem L_L_142 : LkV RL 142 yX8_right cX8_right 4 (Option.some Jvm.ClassFile.FieldType.int) 2 := ⟨⟨(q1 8 rfl rfl), (q5 113 rfl rfl), by decide, by decide, by decide +kernel⟩, (q5 110 rfl rfl), (q5 111 rfl rfl), (q5 112 rfl rfl)⟩
theorem L_L_145 : LkV RL 145 yX8_work cX8_work 9 (Option.some Jvm.ClassFile.FieldType.int) 3 := ⟨⟨(q1 8 rfl rfl), (q5 117 rfl rfl), by decide, by decide, by decide +kernel⟩, (q5 114 rfl rfl), (q5 115 rfl rfl), (q5 116 rfl rfl)⟩
theorem L_L_148 : LkV RL 148 yX8_sample cX8_sample 2 (Option.some Jvm.ClassFile.FieldType.int) 1 := ⟨⟨(q1 8 rfl rfl), (q5 149 rfl rfl), by decide, by decide, by decide +kernel⟩, (q5 146 rfl rfl), (q5 147 rfl rfl), (q5 148 rfl rfl)⟩
theorem L_L_151 : LkV RL 151 yX8_salt cX8_salt 5 (Option.some Jvm.ClassFile.FieldType.int) 3 := ⟨⟨(q1 8 rfl rfl), (q5 153 rfl rfl), by decide, by decide, by decide +kernel⟩, (q5 150 rfl rfl), (q5 151 rfl rfl), (q5 152 rfl rfl)⟩
theorem L_L_154 : LkV RL 154 yX8_brass cX8_brass 4 (Option.some Jvm.ClassFile.FieldType.int) 2 := ⟨⟨(q1 8 rfl rfl), (q5 157 rfl rfl), by decide, by decide, by decide +kernel⟩, (q5 154 rfl rfl), (q5 155 rfl rfl), (q5 156 rfl rfl)⟩
theorem L_L_157 : LkV RL 157 yX8_sell cX8_sell 7 (Option.some Jvm.ClassFile.FieldType.int) 2 := ⟨⟨(q1 8 rfl rfl), (q5 161 rfl rfl), by decide, by decide, by decide +kernel⟩, (q5 158 rfl rfl), (q5 159 rfl rfl), (q5 160 rfl rfl)⟩
theorem L_L_160 : LkV RL 160 yX8_rate cX8_rate 3 (Option.some Jvm.ClassFile.FieldType.int) 1 := ⟨⟨(q1 8 rfl rfl), (q5 167 rfl rfl), by decide, by decide, by decide +kernel⟩, (q5 164 rfl rfl), (q5 165 rfl rfl), (q5 166 rfl rfl)⟩
theorem L_L_164 : LkV RL 164 yX8_freight cX8_freight 4 (Option.none : Option Jvm.ClassFile.FieldType) 2 := ⟨⟨(q1 8 rfl rfl), (q5 171 rfl rfl), by decide, by decide, by decide +kernel⟩, (q5 168 rfl rfl), (q5 169 rfl rfl), (q5 170 rfl rfl)⟩
theorem L_L_167 : LkV RL 167 yX8_buy cX8_buy 6 (Option.some Jvm.ClassFile.FieldType.int) 2 := ⟨⟨(q1 8 rfl rfl), (q5 175 rfl rfl), by decide, by decide, by decide +kernel⟩, (q5 172 rfl rfl), (q5 173 rfl rfl), (q5 174 rfl rfl)⟩
theorem L_L_171 : LkV RL 171 yX8_back cX8_back 8 (Option.none : Option Jvm.ClassFile.FieldType) 4 := ⟨⟨(q1 8 rfl rfl), (q5 183 rfl rfl), by decide, by decide, by decide +kernel⟩, (q5 180 rfl rfl), (q5 181 rfl rfl), (q5 182 rfl rfl)⟩
theorem L_L_174 : LkV RL 174 yX8_end cX8_end 5 (Option.some Jvm.ClassFile.FieldType.int) 2 := ⟨⟨(q1 8 rfl rfl), (q5 191 rfl rfl), by decide, by decide, by decide +kernel⟩, (q5 188 rfl rfl), (q5 189 rfl rfl), (q5 190 rfl rfl)⟩
theorem L_L_177 : LkV RL 177 yX8_trade cX8_trade 6 (Option.some Jvm.ClassFile.FieldType.int) 3 := ⟨⟨(q1 8 rfl rfl), (q5 195 rfl rfl), by decide, by decide, by decide +kernel⟩, (q5 192 rfl rfl), (q5 193 rfl rfl), (q5 194 rfl rfl)⟩
theorem L_L_180 : LkV RL 180 yX8_suit cX8_suit 4 (Option.some Jvm.ClassFile.FieldType.int) 1 := ⟨⟨(q1 8 rfl rfl), (q5 203 rfl rfl), by decide, by decide, by decide +kernel⟩, (q5 200 rfl rfl), (q5 201 rfl rfl), (q5 202 rfl rfl)⟩
theorem L_L_183 : LkV RL 183 yX8_rumour cX8_rumour 4 (Option.some Jvm.ClassFile.FieldType.int) 2 := ⟨⟨(q1 8 rfl rfl), (q5 211 rfl rfl), by decide, by decide, by decide +kernel⟩, (q5 208 rfl rfl), (q5 209 rfl rfl), (q5 210 rfl rfl)⟩
theorem L_L_184 : LkV RL 184 yX7_day cX7_day 1 (Option.some Jvm.ClassFile.FieldType.int) 0 := ⟨⟨(q1 1 rfl rfl), (q1 149 rfl rfl), by decide, by decide, by decide +kernel⟩, (q1 146 rfl rfl), (q1 147 rfl rfl), (q1 148 rfl rfl)⟩
theorem L_L_187 : LkV RL 187 yX8_day cX8_day 1 (Option.some Jvm.ClassFile.FieldType.int) 0 := ⟨⟨(q1 8 rfl rfl), (q5 215 rfl rfl), by decide, by decide, by decide +kernel⟩, (q5 212 rfl rfl), (q5 213 rfl rfl), (q5 214 rfl rfl)⟩
theorem L_L_190 : LkV RL 190 yX8_holds cX8_holds 2 (Option.some Jvm.ClassFile.FieldType.int) 1 := ⟨⟨(q1 8 rfl rfl), (q5 219 rfl rfl), by decide, by decide, by decide +kernel⟩, (q5 216 rfl rfl), (q5 217 rfl rfl), (q5 218 rfl rfl)⟩
theorem L_L_193 : LkV RL 193 yX8_ofClaim cX8_ofClaim 3 (Option.some Jvm.ClassFile.FieldType.int) 2 := ⟨⟨(q1 8 rfl rfl), (q5 223 rfl rfl), by decide, by decide, by decide +kernel⟩, (q5 220 rfl rfl), (q5 221 rfl rfl), (q5 222 rfl rfl)⟩
theorem L_L_196 : LkV RL 196 yX8_ofMiner cX8_ofMiner 3 (Option.some Jvm.ClassFile.FieldType.int) 2 := ⟨⟨(q1 8 rfl rfl), (q5 227 rfl rfl), by decide, by decide, by decide +kernel⟩, (q5 224 rfl rfl), (q5 225 rfl rfl), (q5 226 rfl rfl)⟩
theorem L_L_199 : LkV RL 199 yX8_gets cX8_gets 2 (Option.some Jvm.ClassFile.FieldType.int) 1 := ⟨⟨(q1 8 rfl rfl), (q5 231 rfl rfl), by decide, by decide, by decide +kernel⟩, (q5 228 rfl rfl), (q5 229 rfl rfl), (q5 230 rfl rfl)⟩
theorem L_L_202 : LkV RL 202 yX8_gold cX8_gold 2 (Option.some Jvm.ClassFile.FieldType.int) 1 := ⟨⟨(q1 8 rfl rfl), (q5 235 rfl rfl), by decide, by decide, by decide +kernel⟩, (q5 232 rfl rfl), (q5 233 rfl rfl), (q5 234 rfl rfl)⟩
theorem L_L_205 : LkV RL 205 yX8_camp cX8_camp 2 (Option.some Jvm.ClassFile.FieldType.int) 1 := ⟨⟨(q1 8 rfl rfl), (q6 7 rfl rfl), by decide, by decide, by decide +kernel⟩, (q6 4 rfl rfl), (q6 5 rfl rfl), (q6 6 rfl rfl)⟩
theorem L_L_208 : LkV RL 208 yX8_belief cX8_belief 2 (Option.some Jvm.ClassFile.FieldType.int) 1 := ⟨⟨(q1 8 rfl rfl), (q6 11 rfl rfl), by decide, by decide, by decide +kernel⟩, (q6 8 rfl rfl), (q6 9 rfl rfl), (q6 10 rfl rfl)⟩
theorem L_L_211 : LkV RL 211 yX8_plan cX8_plan 3 (Option.some Jvm.ClassFile.FieldType.int) 2 := ⟨⟨(q1 8 rfl rfl), (q6 15 rfl rfl), by decide, by decide, by decide +kernel⟩, (q6 12 rfl rfl), (q6 13 rfl rfl), (q6 14 rfl rfl)⟩
theorem L_L_214 : LkV RL 214 yX8_planCell cX8_planCell 4 (Option.some Jvm.ClassFile.FieldType.int) 3 := ⟨⟨(q1 8 rfl rfl), (q6 38 rfl rfl), by decide, by decide, by decide +kernel⟩, (q6 35 rfl rfl), (q6 36 rfl rfl), (q6 37 rfl rfl)⟩
theorem K_L_8 : Cond.classLink RL 8 "NuggetCamp" ∈ wA := (q1 26 rfl rfl)
theorem K_L_109 : Cond.classLink RL 109 "NuggetCampModel" ∈ wA := (q4 130 rfl rfl)
theorem g_X0_31 : FG RX0 31 1 3 := ⟨RX0, TX0, 11, "NuggetCamp$Claim", rfl, inA_RX0, by decide, Or.inl ⟨(q3 31 rfl rfl), Or.inl rfl⟩⟩
theorem g_X0_34 : FG RX0 34 1 0 := ⟨RX0, TX0, 11, "NuggetCamp$Claim", rfl, inA_RX0, by decide, Or.inl ⟨(q3 25 rfl rfl), Or.inl rfl⟩⟩
theorem g_X0_37 : FG RX0 37 1 1 := ⟨RX0, TX0, 11, "NuggetCamp$Claim", rfl, inA_RX0, by decide, Or.inl ⟨(q3 27 rfl rfl), Or.inl rfl⟩⟩
theorem L_X0_3 : Cond.methodLink RX0 3 objectInit ∈ wA := (q3 24 rfl rfl)
theorem f_X0_9 : FL RX0 9 1 5 (.boolean) false := ⟨RX0, TX0, 11, "NuggetCamp$Claim", tyX0, rfl, inA_RX0, by decide, Or.inl ⟨(q3 35 rfl rfl), Or.inl rfl⟩, tyX0_ok, nmX0, rfl, rfl, fun h => absurd h (by decide)⟩
theorem f_X0_15 : FL RX0 15 1 6 (.int) false := ⟨RX0, TX0, 11, "NuggetCamp$Claim", tyX0, rfl, inA_RX0, by decide, Or.inl ⟨(q3 37 rfl rfl), Or.inl rfl⟩, tyX0_ok, nmX0, rfl, rfl, fun h => absurd h (by decide)⟩
theorem f_X0_19 : FL RX0 19 1 7 (.int) false := ⟨RX0, TX0, 11, "NuggetCamp$Claim", tyX0, rfl, inA_RX0, by decide, Or.inl ⟨(q3 39 rfl rfl), Or.inl rfl⟩, tyX0_ok, nmX0, rfl, rfl, fun h => absurd h (by decide)⟩
theorem f_X0_22 : FL RX0 22 1 8 (.int) false := ⟨RX0, TX0, 11, "NuggetCamp$Claim", tyX0, rfl, inA_RX0, by decide, Or.inl ⟨(q3 41 rfl rfl), Or.inl rfl⟩, tyX0_ok, nmX0, rfl, rfl, fun h => absurd h (by decide)⟩
theorem f_X0_25 : FL RX0 25 1 9 (.boolean) false := ⟨RX0, TX0, 11, "NuggetCamp$Claim", tyX0, rfl, inA_RX0, by decide, Or.inl ⟨(q3 43 rfl rfl), Or.inl rfl⟩, tyX0_ok, nmX0, rfl, rfl, fun h => absurd h (by decide)⟩
theorem f_X0_28 : FL RX0 28 1 10 (.boolean) false := ⟨RX0, TX0, 11, "NuggetCamp$Claim", tyX0, rfl, inA_RX0, by decide, Or.inl ⟨(q3 45 rfl rfl), Or.inl rfl⟩, tyX0_ok, nmX0, rfl, rfl, fun h => absurd h (by decide)⟩
theorem f_X0_31 : FL RX0 31 1 3 (.int) false := ⟨RX0, TX0, 11, "NuggetCamp$Claim", tyX0, rfl, inA_RX0, by decide, Or.inl ⟨(q3 31 rfl rfl), Or.inl rfl⟩, tyX0_ok, nmX0, rfl, rfl, fun h => absurd h (by decide)⟩
theorem f_X0_34 : FL RX0 34 1 0 (.int) true := ⟨RX0, TX0, 11, "NuggetCamp$Claim", tyX0, rfl, inA_RX0, by decide, Or.inl ⟨(q3 25 rfl rfl), Or.inl rfl⟩, tyX0_ok, nmX0, rfl, rfl, fun _ => rfl⟩
theorem f_X0_37 : FL RX0 37 1 1 (.int) true := ⟨RX0, TX0, 11, "NuggetCamp$Claim", tyX0, rfl, inA_RX0, by decide, Or.inl ⟨(q3 27 rfl rfl), Or.inl rfl⟩, tyX0_ok, nmX0, rfl, rfl, fun _ => rfl⟩
theorem f_X0_40 : FL RX0 40 1 2 (.int) true := ⟨RX0, TX0, 11, "NuggetCamp$Claim", tyX0, rfl, inA_RX0, by decide, Or.inl ⟨(q3 29 rfl rfl), Or.inl rfl⟩, tyX0_ok, nmX0, rfl, rfl, fun _ => rfl⟩
theorem f_X0_43 : FL RX0 43 1 4 (.int) false := ⟨RX0, TX0, 11, "NuggetCamp$Claim", tyX0, rfl, inA_RX0, by decide, Or.inl ⟨(q3 33 rfl rfl), Or.inl rfl⟩, tyX0_ok, nmX0, rfl, rfl, fun h => absurd h (by decide)⟩
theorem g_X1_9 : FG RX1 9 2 0 := ⟨RX1, TX1, 4, "NuggetCamp$Creek", rfl, inA_RX1, by decide, Or.inl ⟨(q1 40 rfl rfl), Or.inl rfl⟩⟩
theorem g_X1_15 : FG RX1 15 2 1 := ⟨RX1, TX1, 4, "NuggetCamp$Creek", rfl, inA_RX1, by decide, Or.inl ⟨(q1 41 rfl rfl), Or.inl rfl⟩⟩
theorem g_X1_18 : FG RX1 18 2 2 := ⟨RX1, TX1, 4, "NuggetCamp$Creek", rfl, inA_RX1, by decide, Or.inl ⟨(q1 42 rfl rfl), Or.inl rfl⟩⟩
theorem L_X1_3 : Cond.methodLink RX1 3 objectInit ∈ wA := (q1 39 rfl rfl)
theorem L_X1_26 : LkSN RX1 26 yX7_isCell cX7_isCell 1 (Option.some Jvm.ClassFile.FieldType.boolean) 1 := ⟨⟨(q1 1 rfl rfl), (q1 165 rfl rfl), by decide, by decide, by decide +kernel⟩, ⟨"NuggetCamp", (qn2 43 rfl rfl)⟩, (q1 164 rfl rfl)⟩
theorem L_X1_39 : LkS RX1 39 yJ9_min_7cf53 cJ9_min_7cf53 2 (Option.some Jvm.ClassFile.FieldType.int) 2 := ⟨⟨(q1 17 rfl rfl), (q2 161 rfl rfl), by decide, by decide, by decide +kernel⟩, (q3 130 rfl rfl), (q2 160 rfl rfl)⟩
theorem L_X1_30 : LkV RX1 30 yX1_grainsAt cX1_grainsAt 2 (Option.some Jvm.ClassFile.FieldType.int) 1 := ⟨⟨(q1 2 rfl rfl), (q2 42 rfl rfl), by decide, by decide, by decide +kernel⟩, (q3 129 rfl rfl), (q2 40 rfl rfl), (q2 41 rfl rfl)⟩
theorem L_X1_45 : LkV RX1 45 yX1_clayAt cX1_clayAt 2 (Option.some Jvm.ClassFile.FieldType.int) 1 := ⟨⟨(q1 2 rfl rfl), (q3 134 rfl rfl), by decide, by decide, by decide +kernel⟩, (q3 131 rfl rfl), (q3 132 rfl rfl), (q3 133 rfl rfl)⟩
theorem L_X1_48 : LkV RX1 48 yX2_recoveredOf cX2_recoveredOf 3 (Option.some Jvm.ClassFile.FieldType.int) 2 := ⟨⟨(q1 25 rfl rfl), (q3 138 rfl rfl), by decide, by decide, by decide +kernel⟩, (q3 135 rfl rfl), (q3 136 rfl rfl), (q3 137 rfl rfl)⟩
theorem L_X1_51 : LkV RX1 51 yX1_drop cX1_drop 3 (Option.none : Option Jvm.ClassFile.FieldType) 2 := ⟨⟨(q1 2 rfl rfl), (q3 142 rfl rfl), by decide, by decide, by decide +kernel⟩, (q3 139 rfl rfl), (q3 140 rfl rfl), (q3 141 rfl rfl)⟩
theorem f_X1_9 : FL RX1 9 2 0 (.array .int) true := ⟨RX1, TX1, 4, "NuggetCamp$Creek", tyX1, rfl, inA_RX1, by decide, Or.inl ⟨(q1 40 rfl rfl), Or.inl rfl⟩, tyX1_ok, nmX1, rfl, rfl, fun _ => rfl⟩
theorem f_X1_15 : FL RX1 15 2 1 (.array .int) true := ⟨RX1, TX1, 4, "NuggetCamp$Creek", tyX1, rfl, inA_RX1, by decide, Or.inl ⟨(q1 41 rfl rfl), Or.inl rfl⟩, tyX1_ok, nmX1, rfl, rfl, fun _ => rfl⟩
theorem f_X1_18 : FL RX1 18 2 2 (.int) false := ⟨RX1, TX1, 4, "NuggetCamp$Creek", tyX1, rfl, inA_RX1, by decide, Or.inl ⟨(q1 42 rfl rfl), Or.inl rfl⟩, tyX1_ok, nmX1, rfl, rfl, fun h => absurd h (by decide)⟩
theorem f_X1_22 : FL RX1 22 2 3 (.boolean) false := ⟨RX1, TX1, 4, "NuggetCamp$Creek", tyX1, rfl, inA_RX1, by decide, Or.inl ⟨(q1 44 rfl rfl), Or.inl rfl⟩, tyX1_ok, nmX1, rfl, rfl, fun h => absurd h (by decide)⟩
theorem g_X3_9 : FG RX3 9 3 0 := ⟨RX3, TX3, 9, "NuggetCamp$Miner", rfl, inA_RX3, by decide, Or.inl ⟨(q2 72 rfl rfl), Or.inl rfl⟩⟩
theorem g_X3_15 : FG RX3 15 3 1 := ⟨RX3, TX3, 9, "NuggetCamp$Miner", rfl, inA_RX3, by decide, Or.inl ⟨(q2 73 rfl rfl), Or.inl rfl⟩⟩
theorem g_X3_18 : FG RX3 18 3 2 := ⟨RX3, TX3, 9, "NuggetCamp$Miner", rfl, inA_RX3, by decide, Or.inl ⟨(q2 74 rfl rfl), Or.inl rfl⟩⟩
theorem g_X3_22 : FG RX3 22 3 3 := ⟨RX3, TX3, 9, "NuggetCamp$Miner", rfl, inA_RX3, by decide, Or.inl ⟨(q2 76 rfl rfl), Or.inl rfl⟩⟩
theorem g_X3_25 : FG RX3 25 3 6 := ⟨RX3, TX3, 9, "NuggetCamp$Miner", rfl, inA_RX3, by decide, Or.inl ⟨(q2 82 rfl rfl), Or.inl rfl⟩⟩
theorem g_X3_34 : FG RX3 34 3 4 := ⟨RX3, TX3, 9, "NuggetCamp$Miner", rfl, inA_RX3, by decide, Or.inl ⟨(q2 78 rfl rfl), Or.inl rfl⟩⟩
theorem L_X3_3 : Cond.methodLink RX3 3 objectInit ∈ wA := (q2 71 rfl rfl)
theorem L_X3_44 : LkS RX3 44 yJ9_min_7cf53 cJ9_min_7cf53 2 (Option.some Jvm.ClassFile.FieldType.int) 2 := ⟨⟨(q1 17 rfl rfl), (q2 161 rfl rfl), by decide, by decide, by decide +kernel⟩, (q2 200 rfl rfl), (q2 160 rfl rfl)⟩
theorem L_X3_50 : LkS RX3 50 yJ9_max_7cf53 cJ9_max_7cf53 2 (Option.some Jvm.ClassFile.FieldType.int) 2 := ⟨⟨(q1 17 rfl rfl), (q2 128 rfl rfl), by decide, by decide, by decide +kernel⟩, (q2 201 rfl rfl), (q2 127 rfl rfl)⟩
theorem L_X3_40 : LkV RX3 40 yX3_isDead cX3_isDead 1 (Option.some Jvm.ClassFile.FieldType.boolean) 0 := ⟨⟨(q1 15 rfl rfl), (q2 199 rfl rfl), by decide, by decide, by decide +kernel⟩, (q2 196 rfl rfl), (q2 197 rfl rfl), (q2 198 rfl rfl)⟩
theorem L_X3_53 : LkV RX3 53 yX3_dust cX3_dust 1 (Option.some Jvm.ClassFile.FieldType.int) 0 := ⟨⟨(q1 15 rfl rfl), (q3 192 rfl rfl), by decide, by decide, by decide +kernel⟩, (q3 197 rfl rfl), (q3 190 rfl rfl), (q3 191 rfl rfl)⟩
theorem f_X3_9 : FL RX3 9 3 0 (.array .int) true := ⟨RX3, TX3, 9, "NuggetCamp$Miner", tyX3, rfl, inA_RX3, by decide, Or.inl ⟨(q2 72 rfl rfl), Or.inl rfl⟩, tyX3_ok, nmX3, rfl, rfl, fun _ => rfl⟩
theorem f_X3_15 : FL RX3 15 3 1 (.array .int) true := ⟨RX3, TX3, 9, "NuggetCamp$Miner", tyX3, rfl, inA_RX3, by decide, Or.inl ⟨(q2 73 rfl rfl), Or.inl rfl⟩, tyX3_ok, nmX3, rfl, rfl, fun _ => rfl⟩
theorem f_X3_18 : FL RX3 18 3 2 (.int) false := ⟨RX3, TX3, 9, "NuggetCamp$Miner", tyX3, rfl, inA_RX3, by decide, Or.inl ⟨(q2 74 rfl rfl), Or.inl rfl⟩, tyX3_ok, nmX3, rfl, rfl, fun h => absurd h (by decide)⟩
theorem f_X3_22 : FL RX3 22 3 3 (.int) false := ⟨RX3, TX3, 9, "NuggetCamp$Miner", tyX3, rfl, inA_RX3, by decide, Or.inl ⟨(q2 76 rfl rfl), Or.inl rfl⟩, tyX3_ok, nmX3, rfl, rfl, fun h => absurd h (by decide)⟩
theorem f_X3_25 : FL RX3 25 3 6 (.int) false := ⟨RX3, TX3, 9, "NuggetCamp$Miner", tyX3, rfl, inA_RX3, by decide, Or.inl ⟨(q2 82 rfl rfl), Or.inl rfl⟩, tyX3_ok, nmX3, rfl, rfl, fun h => absurd h (by decide)⟩
theorem f_X3_28 : FL RX3 28 3 7 (.int) false := ⟨RX3, TX3, 9, "NuggetCamp$Miner", tyX3, rfl, inA_RX3, by decide, Or.inl ⟨(q2 84 rfl rfl), Or.inl rfl⟩, tyX3_ok, nmX3, rfl, rfl, fun h => absurd h (by decide)⟩
theorem f_X3_31 : FL RX3 31 3 8 (.int) false := ⟨RX3, TX3, 9, "NuggetCamp$Miner", tyX3, rfl, inA_RX3, by decide, Or.inl ⟨(q2 86 rfl rfl), Or.inl rfl⟩, tyX3_ok, nmX3, rfl, rfl, fun h => absurd h (by decide)⟩
theorem f_X3_34 : FL RX3 34 3 4 (.int) false := ⟨RX3, TX3, 9, "NuggetCamp$Miner", tyX3, rfl, inA_RX3, by decide, Or.inl ⟨(q2 78 rfl rfl), Or.inl rfl⟩, tyX3_ok, nmX3, rfl, rfl, fun h => absurd h (by decide)⟩
theorem f_X3_37 : FL RX3 37 3 5 (.int) false := ⟨RX3, TX3, 9, "NuggetCamp$Miner", tyX3, rfl, inA_RX3, by decide, Or.inl ⟨(q2 80 rfl rfl), Or.inl rfl⟩, tyX3_ok, nmX3, rfl, rfl, fun h => absurd h (by decide)⟩
theorem L_X4_1 : Cond.methodLink RX4 1 objectInit ∈ wA := (q3 82 rfl rfl)
theorem f_X4_7 : FL RX4 7 4 0 (.int) true := ⟨RX4, TX4, 2, "NuggetCamp$Right", tyX4, rfl, inA_RX4, by decide, Or.inl ⟨(q3 83 rfl rfl), Or.inl rfl⟩, tyX4_ok, nmX4, rfl, rfl, fun _ => rfl⟩
theorem f_X4_13 : FL RX4 13 4 1 (.int) true := ⟨RX4, TX4, 2, "NuggetCamp$Right", tyX4, rfl, inA_RX4, by decide, Or.inl ⟨(q3 85 rfl rfl), Or.inl rfl⟩, tyX4_ok, nmX4, rfl, rfl, fun _ => rfl⟩
theorem g_X5_9 : FG RX5 9 5 0 := ⟨RX5, TX5, 1, "NuggetCamp$Rumours", rfl, inA_RX5, by decide, Or.inl ⟨(q1 79 rfl rfl), Or.inl rfl⟩⟩
theorem L_X5_3 : Cond.methodLink RX5 3 objectInit ∈ wA := (q1 78 rfl rfl)
theorem L_X5_15 : LkSN RX5 15 yX7_isCell cX7_isCell 1 (Option.some Jvm.ClassFile.FieldType.boolean) 1 := ⟨⟨(q1 1 rfl rfl), (q1 165 rfl rfl), by decide, by decide, by decide +kernel⟩, ⟨"NuggetCamp", (qn4 50 rfl rfl)⟩, (q1 164 rfl rfl)⟩
theorem L_X5_19 : LkS RX5 19 yJ9_max_7cf53 cJ9_max_7cf53 2 (Option.some Jvm.ClassFile.FieldType.int) 2 := ⟨⟨(q1 17 rfl rfl), (q2 128 rfl rfl), by decide, by decide, by decide +kernel⟩, (q2 210 rfl rfl), (q2 127 rfl rfl)⟩
theorem f_X5_9 : FL RX5 9 5 0 (.array .int) true := ⟨RX5, TX5, 1, "NuggetCamp$Rumours", tyX5, rfl, inA_RX5, by decide, Or.inl ⟨(q1 79 rfl rfl), Or.inl rfl⟩, tyX5_ok, nmX5, rfl, rfl, fun _ => rfl⟩
theorem g_X6_9 : FG RX6 9 6 0 := ⟨RX6, TX6, 3, "NuggetCamp$Store", rfl, inA_RX6, by decide, Or.inl ⟨(q1 62 rfl rfl), Or.inl rfl⟩⟩
theorem g_X6_15 : FG RX6 15 6 1 := ⟨RX6, TX6, 3, "NuggetCamp$Store", rfl, inA_RX6, by decide, Or.inl ⟨(q1 63 rfl rfl), Or.inl rfl⟩⟩
theorem g_X6_18 : FG RX6 18 6 2 := ⟨RX6, TX6, 3, "NuggetCamp$Store", rfl, inA_RX6, by decide, Or.inl ⟨(q1 64 rfl rfl), Or.inl rfl⟩⟩
theorem L_X6_3 : Cond.methodLink RX6 3 objectInit ∈ wA := (q1 61 rfl rfl)
theorem f_X6_9 : FL RX6 9 6 0 (.array .int) true := ⟨RX6, TX6, 3, "NuggetCamp$Store", tyX6, rfl, inA_RX6, by decide, Or.inl ⟨(q1 62 rfl rfl), Or.inl rfl⟩, tyX6_ok, nmX6, rfl, rfl, fun _ => rfl⟩
theorem f_X6_15 : FL RX6 15 6 1 (.array .int) true := ⟨RX6, TX6, 3, "NuggetCamp$Store", tyX6, rfl, inA_RX6, by decide, Or.inl ⟨(q1 63 rfl rfl), Or.inl rfl⟩, tyX6_ok, nmX6, rfl, rfl, fun _ => rfl⟩
theorem f_X6_18 : FL RX6 18 6 2 (.int) false := ⟨RX6, TX6, 3, "NuggetCamp$Store", tyX6, rfl, inA_RX6, by decide, Or.inl ⟨(q1 64 rfl rfl), Or.inl rfl⟩, tyX6_ok, nmX6, rfl, rfl, fun h => absurd h (by decide)⟩
theorem K_X7_90 : Cond.classLink RX7 90 "NuggetCamp$Miner" ∈ wA := (q2 66 rfl rfl)
theorem K_X7_123 : Cond.classLink RX7 123 "NuggetCamp$Claim" ∈ wA := (q2 211 rfl rfl)
theorem K_X7_128 : Cond.classLink RX7 128 "NuggetCamp$Right" ∈ wA := (q3 77 rfl rfl)
theorem g_X7_10 : FG RX7 10 7 0 := ⟨RX7, TX7, 12, "NuggetCamp", rfl, inA_RX7, by decide, Or.inl ⟨(q1 109 rfl rfl), Or.inl rfl⟩⟩
theorem g_X7_19 : FG RX7 19 7 1 := ⟨RX7, TX7, 12, "NuggetCamp", rfl, inA_RX7, by decide, Or.inl ⟨(q1 110 rfl rfl), Or.inl rfl⟩⟩
theorem g_X7_26 : FG RX7 26 7 2 := ⟨RX7, TX7, 12, "NuggetCamp", rfl, inA_RX7, by decide, Or.inl ⟨(q1 111 rfl rfl), Or.inl rfl⟩⟩
theorem g_X7_33 : FG RX7 33 7 3 := ⟨RX7, TX7, 12, "NuggetCamp", rfl, inA_RX7, by decide, Or.inl ⟨(q1 112 rfl rfl), Or.inl rfl⟩⟩
theorem g_X7_37 : FG RX7 37 7 4 := ⟨RX7, TX7, 12, "NuggetCamp", rfl, inA_RX7, by decide, Or.inl ⟨(q1 113 rfl rfl), Or.inl rfl⟩⟩
theorem g_X7_40 : FG RX7 40 7 5 := ⟨RX7, TX7, 12, "NuggetCamp", rfl, inA_RX7, by decide, Or.inl ⟨(q1 114 rfl rfl), Or.inl rfl⟩⟩
theorem g_X7_43 : FG RX7 43 7 6 := ⟨RX7, TX7, 12, "NuggetCamp", rfl, inA_RX7, by decide, Or.inl ⟨(q1 115 rfl rfl), Or.inl rfl⟩⟩
theorem g_X7_47 : FG RX7 47 7 7 := ⟨RX7, TX7, 12, "NuggetCamp", rfl, inA_RX7, by decide, Or.inl ⟨(q1 116 rfl rfl), Or.inl rfl⟩⟩
theorem g_X7_50 : FG RX7 50 7 8 := ⟨RX7, TX7, 12, "NuggetCamp", rfl, inA_RX7, by decide, Or.inl ⟨(q1 117 rfl rfl), Or.inl rfl⟩⟩
theorem g_X7_53 : FG RX7 53 7 9 := ⟨RX7, TX7, 12, "NuggetCamp", rfl, inA_RX7, by decide, Or.inl ⟨(q1 118 rfl rfl), Or.inl rfl⟩⟩
theorem g_X7_56 : FG RX7 56 7 10 := ⟨RX7, TX7, 12, "NuggetCamp", rfl, inA_RX7, by decide, Or.inl ⟨(q1 119 rfl rfl), Or.inl rfl⟩⟩
theorem g_X7_59 : FG RX7 59 7 11 := ⟨RX7, TX7, 12, "NuggetCamp", rfl, inA_RX7, by decide, Or.inl ⟨(q1 120 rfl rfl), Or.inl rfl⟩⟩
theorem g_X7_71 : FG RX7 71 2 3 := ⟨RX1, TX1, 4, "NuggetCamp$Creek", rfl, inA_RX1, by decide, Or.inr ⟨"NuggetCamp", (qn1 45 rfl rfl)⟩⟩
theorem g_X7_138 : FG RX7 138 3 8 := ⟨RX3, TX3, 9, "NuggetCamp$Miner", rfl, inA_RX3, by decide, Or.inr ⟨"NuggetCamp", (qn2 87 rfl rfl)⟩⟩
theorem g_X7_161 : FG RX7 161 1 4 := ⟨RX0, TX0, 11, "NuggetCamp$Claim", rfl, inA_RX0, by decide, Or.inr ⟨"NuggetCamp", (qn3 34 rfl rfl)⟩⟩
theorem g_X7_166 : FG RX7 166 3 2 := ⟨RX3, TX3, 9, "NuggetCamp$Miner", rfl, inA_RX3, by decide, Or.inr ⟨"NuggetCamp", (qn2 75 rfl rfl)⟩⟩
theorem g_X7_178 : FG RX7 178 3 3 := ⟨RX3, TX3, 9, "NuggetCamp$Miner", rfl, inA_RX3, by decide, Or.inr ⟨"NuggetCamp", (qn2 77 rfl rfl)⟩⟩
theorem g_X7_188 : FG RX7 188 3 7 := ⟨RX3, TX3, 9, "NuggetCamp$Miner", rfl, inA_RX3, by decide, Or.inr ⟨"NuggetCamp", (qn2 85 rfl rfl)⟩⟩
theorem g_X7_194 : FG RX7 194 3 5 := ⟨RX3, TX3, 9, "NuggetCamp$Miner", rfl, inA_RX3, by decide, Or.inr ⟨"NuggetCamp", (qn2 81 rfl rfl)⟩⟩
theorem g_X7_206 : FG RX7 206 6 2 := ⟨RX6, TX6, 3, "NuggetCamp$Store", rfl, inA_RX6, by decide, Or.inr ⟨"NuggetCamp", (qn1 65 rfl rfl)⟩⟩
theorem g_X7_209 : FG RX7 209 3 4 := ⟨RX3, TX3, 9, "NuggetCamp$Miner", rfl, inA_RX3, by decide, Or.inr ⟨"NuggetCamp", (qn2 79 rfl rfl)⟩⟩
theorem g_X7_223 : FG RX7 223 1 3 := ⟨RX0, TX0, 11, "NuggetCamp$Claim", rfl, inA_RX0, by decide, Or.inr ⟨"NuggetCamp", (qn3 32 rfl rfl)⟩⟩
theorem g_X7_226 : FG RX7 226 1 5 := ⟨RX0, TX0, 11, "NuggetCamp$Claim", rfl, inA_RX0, by decide, Or.inr ⟨"NuggetCamp", (qn3 36 rfl rfl)⟩⟩
theorem g_X7_229 : FG RX7 229 1 0 := ⟨RX0, TX0, 11, "NuggetCamp$Claim", rfl, inA_RX0, by decide, Or.inr ⟨"NuggetCamp", (qn3 26 rfl rfl)⟩⟩
theorem g_X7_232 : FG RX7 232 1 1 := ⟨RX0, TX0, 11, "NuggetCamp$Claim", rfl, inA_RX0, by decide, Or.inr ⟨"NuggetCamp", (qn3 28 rfl rfl)⟩⟩
theorem g_X7_243 : FG RX7 243 1 6 := ⟨RX0, TX0, 11, "NuggetCamp$Claim", rfl, inA_RX0, by decide, Or.inr ⟨"NuggetCamp", (qn3 38 rfl rfl)⟩⟩
theorem g_X7_246 : FG RX7 246 1 10 := ⟨RX0, TX0, 11, "NuggetCamp$Claim", rfl, inA_RX0, by decide, Or.inr ⟨"NuggetCamp", (qn3 46 rfl rfl)⟩⟩
theorem g_X7_249 : FG RX7 249 1 7 := ⟨RX0, TX0, 11, "NuggetCamp$Claim", rfl, inA_RX0, by decide, Or.inr ⟨"NuggetCamp", (qn3 40 rfl rfl)⟩⟩
theorem g_X7_252 : FG RX7 252 1 9 := ⟨RX0, TX0, 11, "NuggetCamp$Claim", rfl, inA_RX0, by decide, Or.inr ⟨"NuggetCamp", (qn3 44 rfl rfl)⟩⟩
theorem g_X7_255 : FG RX7 255 1 8 := ⟨RX0, TX0, 11, "NuggetCamp$Claim", rfl, inA_RX0, by decide, Or.inr ⟨"NuggetCamp", (qn3 42 rfl rfl)⟩⟩
theorem g_X7_270 : FG RX7 270 1 2 := ⟨RX0, TX0, 11, "NuggetCamp$Claim", rfl, inA_RX0, by decide, Or.inr ⟨"NuggetCamp", (qn3 30 rfl rfl)⟩⟩
theorem g_X7_273 : FG RX7 273 3 6 := ⟨RX3, TX3, 9, "NuggetCamp$Miner", rfl, inA_RX3, by decide, Or.inr ⟨"NuggetCamp", (qn2 83 rfl rfl)⟩⟩
theorem g_X7_282 : FG RX7 282 2 2 := ⟨RX1, TX1, 4, "NuggetCamp$Creek", rfl, inA_RX1, by decide, Or.inr ⟨"NuggetCamp", (qn1 43 rfl rfl)⟩⟩
theorem g_X7_348 : FG RX7 348 4 0 := ⟨RX4, TX4, 2, "NuggetCamp$Right", rfl, inA_RX4, by decide, Or.inr ⟨"NuggetCamp", (qn3 84 rfl rfl)⟩⟩
theorem g_X7_349 : FG RX7 349 4 1 := ⟨RX4, TX4, 2, "NuggetCamp$Right", rfl, inA_RX4, by decide, Or.inr ⟨"NuggetCamp", (qn3 86 rfl rfl)⟩⟩
theorem S_X7_320 : Cond.fieldLink RX7 320 "NuggetCamp" "GEARS" "[LNuggetCamp$Gear;" ∈ wA := (q3 102 rfl rfl)
theorem S_X7_344 : Cond.fieldLink RX7 344 "NuggetCamp$Gear" "PAN" "LNuggetCamp$Gear;" ∈ wA := (q3 109 rfl rfl)
theorem L_X7_1 : Cond.methodLink RX7 1 objectInit ∈ wA := (q1 31 rfl rfl)
theorem L_X7_9 : LkI RX7 9 yX1_init cX1_init 1 0 := ⟨⟨(q1 2 rfl rfl), (q1 38 rfl rfl), by decide, by decide, by decide +kernel⟩, Or.inr ⟨"NuggetCamp", (qn1 36 rfl rfl)⟩, (q1 37 rfl rfl), rfl⟩
theorem L_X7_18 : LkI RX7 18 yX6_init cX6_init 1 0 := ⟨⟨(q1 3 rfl rfl), (q1 60 rfl rfl), by decide, by decide, by decide +kernel⟩, Or.inr ⟨"NuggetCamp", (qn1 58 rfl rfl)⟩, (q1 59 rfl rfl), rfl⟩
theorem L_X7_25 : LkI RX7 25 yX5_init cX5_init 1 0 := ⟨⟨(q1 4 rfl rfl), (q1 77 rfl rfl), by decide, by decide, by decide +kernel⟩, Or.inr ⟨"NuggetCamp", (qn1 75 rfl rfl)⟩, (q1 76 rfl rfl), rfl⟩
theorem L_X7_32 : LkI RX7 32 yJx4a65c_init_da8c8 cJx4a65c_init_da8c8 1 0 := ⟨⟨(q1 7 rfl rfl), (q1 87 rfl rfl), by decide, by decide, by decide +kernel⟩, Or.inl (q1 85 rfl rfl), (q1 86 rfl rfl), rfl⟩
theorem L_X7_92 : LkI RX7 92 yX3_init cX3_init 4 2 := ⟨⟨(q1 15 rfl rfl), (q2 70 rfl rfl), by decide, by decide, by decide +kernel⟩, Or.inl (q2 68 rfl rfl), (q2 69 rfl rfl), rfl⟩
theorem L_X7_125 : LkI RX7 125 yX0_init cX0_init 6 5 := ⟨⟨(q1 22 rfl rfl), (q3 23 rfl rfl), by decide, by decide, by decide +kernel⟩, Or.inl (q3 21 rfl rfl), (q3 22 rfl rfl), rfl⟩
theorem L_X7_130 : LkI RX7 130 yX4_init cX4_init 3 2 := ⟨⟨(q1 23 rfl rfl), (q3 81 rfl rfl), by decide, by decide, by decide +kernel⟩, Or.inl (q3 79 rfl rfl), (q3 80 rfl rfl), rfl⟩
theorem L_X7_62 : LkS RX7 62 yX7_checkCell cX7_checkCell 1 (Option.none : Option Jvm.ClassFile.FieldType) 1 := ⟨⟨(q1 1 rfl rfl), (q1 162 rfl rfl), by decide, by decide, by decide +kernel⟩, (q1 160 rfl rfl), (q1 161 rfl rfl)⟩
theorem L_X7_67 : LkS RX7 67 yX7_checkRange cX7_checkRange 3 (Option.none : Option Jvm.ClassFile.FieldType) 3 := ⟨⟨(q1 1 rfl rfl), (q2 0 rfl rfl), by decide, by decide, by decide +kernel⟩, (q1 238 rfl rfl), (q1 239 rfl rfl)⟩
theorem L_X7_75 : LkS RX7 75 yX7_checkState cX7_checkState 1 (Option.none : Option Jvm.ClassFile.FieldType) 1 := ⟨⟨(q1 1 rfl rfl), (q2 22 rfl rfl), by decide, by decide, by decide +kernel⟩, (q2 20 rfl rfl), (q2 21 rfl rfl)⟩
theorem L_X7_105 : LkS RX7 105 yX7_checkArgument cX7_checkArgument 1 (Option.none : Option Jvm.ClassFile.FieldType) 1 := ⟨⟨(q1 1 rfl rfl), (q2 3 rfl rfl), by decide, by decide, by decide +kernel⟩, (q2 1 rfl rfl), (q2 2 rfl rfl)⟩
theorem L_X7_112 : LkS RX7 112 yX7_checkIndex cX7_checkIndex 1 (Option.none : Option Jvm.ClassFile.FieldType) 1 := ⟨⟨(q1 1 rfl rfl), (q1 168 rfl rfl), by decide, by decide, by decide +kernel⟩, (q1 166 rfl rfl), (q1 167 rfl rfl)⟩
theorem L_X7_131 : LkS RX7 131 yX7_gearAt cX7_gearAt 1 (Option.some (Jvm.ClassFile.FieldType.object "NuggetCamp$Gear")) 1 := ⟨⟨(q1 1 rfl rfl), (q3 101 rfl rfl), by decide, by decide, by decide +kernel⟩, (q3 99 rfl rfl), (q3 100 rfl rfl)⟩
theorem L_X7_258 : LkS RX7 258 yJ9_min_7cf53 cJ9_min_7cf53 2 (Option.some Jvm.ClassFile.FieldType.int) 2 := ⟨⟨(q1 17 rfl rfl), (q2 161 rfl rfl), by decide, by decide, by decide +kernel⟩, (q3 124 rfl rfl), (q2 160 rfl rfl)⟩
theorem L_X7_309 : LkS RX7 309 yX7_isCell cX7_isCell 1 (Option.some Jvm.ClassFile.FieldType.boolean) 1 := ⟨⟨(q1 1 rfl rfl), (q1 165 rfl rfl), by decide, by decide, by decide +kernel⟩, (q1 163 rfl rfl), (q1 164 rfl rfl)⟩
theorem L_X7_79 : LkV RX7 79 yX1_grainsAt cX1_grainsAt 2 (Option.some Jvm.ClassFile.FieldType.int) 1 := ⟨⟨(q1 2 rfl rfl), (q2 42 rfl rfl), by decide, by decide, by decide +kernel⟩, (q2 39 rfl rfl), (q2 40 rfl rfl), (q2 41 rfl rfl)⟩
theorem L_X7_83 : LkV RX7 83 yX1_lay cX1_lay 4 (Option.none : Option Jvm.ClassFile.FieldType) 3 := ⟨⟨(q1 2 rfl rfl), (q2 47 rfl rfl), by decide, by decide, by decide +kernel⟩, (q2 44 rfl rfl), (q2 45 rfl rfl), (q2 46 rfl rfl)⟩
theorem L_X7_86 : LkV RX7 86 yJx4a65c_size_8abf5 cJx4a65c_size_8abf5 1 (Option.some Jvm.ClassFile.FieldType.int) 0 := ⟨⟨(q1 7 rfl rfl), (q2 65 rfl rfl), by decide, by decide, by decide +kernel⟩, (q2 62 rfl rfl), (q2 63 rfl rfl), (q2 64 rfl rfl)⟩
theorem L_X7_95 : LkV RX7 95 yJx4a65c_add_9ea2d cJx4a65c_add_9ea2d 2 (Option.some Jvm.ClassFile.FieldType.boolean) 1 := ⟨⟨(q1 7 rfl rfl), (q2 110 rfl rfl), by decide, by decide, by decide +kernel⟩, (q2 107 rfl rfl), (q2 108 rfl rfl), (q2 109 rfl rfl)⟩
theorem L_X7_99 : LkV RX7 99 yX7_passOneDay cX7_passOneDay 2 (Option.none : Option Jvm.ClassFile.FieldType) 0 := ⟨⟨(q1 1 rfl rfl), (q2 177 rfl rfl), by decide, by decide, by decide +kernel⟩, (q2 174 rfl rfl), (q2 176 rfl rfl), (qs1 4 rfl)⟩
theorem L_X7_102 : LkV RX7 102 yX7_livingMiners cX7_livingMiners 3 (Option.some Jvm.ClassFile.FieldType.int) 0 := ⟨⟨(q1 1 rfl rfl), (q2 235 rfl rfl), by decide, by decide, by decide +kernel⟩, (q2 232 rfl rfl), (q2 234 rfl rfl), (qs1 8 rfl)⟩
theorem L_X7_108 : LkV RX7 108 yX7_minerAt cX7_minerAt 2 (Option.some (Jvm.ClassFile.FieldType.object "NuggetCamp$Miner")) 1 := ⟨⟨(q1 1 rfl rfl), (q3 6 rfl rfl), by decide, by decide, by decide +kernel⟩, (q3 3 rfl rfl), (q3 5 rfl rfl), (qs1 9 rfl)⟩
theorem L_X7_115 : LkV RX7 115 yX3_isDead cX3_isDead 1 (Option.some Jvm.ClassFile.FieldType.boolean) 0 := ⟨⟨(q1 15 rfl rfl), (q2 199 rfl rfl), by decide, by decide, by decide +kernel⟩, (q2 224 rfl rfl), (q2 197 rfl rfl), (q2 198 rfl rfl)⟩
theorem L_X7_119 : LkV RX7 119 yX7_areFree cX7_areFree 4 (Option.some Jvm.ClassFile.FieldType.boolean) 2 := ⟨⟨(q1 1 rfl rfl), (q3 11 rfl rfl), by decide, by decide, by decide +kernel⟩, (q3 8 rfl rfl), (q3 10 rfl rfl), (qs1 10 rfl)⟩
theorem L_X7_135 : LkV RX7 135 yX7_claimHolding cX7_claimHolding 4 (Option.some Jvm.ClassFile.FieldType.int) 1 := ⟨⟨(q1 1 rfl rfl), (q3 15 rfl rfl), by decide, by decide, by decide +kernel⟩, (q3 12 rfl rfl), (q3 14 rfl rfl), (qs1 11 rfl)⟩
theorem L_X7_141 : LkV RX7 141 yX7_mayUse cX7_mayUse 4 (Option.some Jvm.ClassFile.FieldType.boolean) 3 := ⟨⟨(q1 1 rfl rfl), (q3 108 rfl rfl), by decide, by decide, by decide +kernel⟩, (q3 105 rfl rfl), (q3 107 rfl rfl), (qs1 12 rfl)⟩
theorem L_X7_145 : LkV RX7 145 yX7_inchesOfMiner cX7_inchesOfMiner 4 (Option.some Jvm.ClassFile.FieldType.int) 1 := ⟨⟨(q1 1 rfl rfl), (q3 119 rfl rfl), by decide, by decide, by decide +kernel⟩, (q3 116 rfl rfl), (q3 118 rfl rfl), (qs1 14 rfl)⟩
theorem L_X7_153 : LkV RX7 153 yX1_dig cX1_dig 5 (Option.some Jvm.ClassFile.FieldType.int) 2 := ⟨⟨(q1 2 rfl rfl), (q3 128 rfl rfl), by decide, by decide, by decide +kernel⟩, (q3 125 rfl rfl), (q3 126 rfl rfl), (q3 127 rfl rfl)⟩
theorem L_X7_157 : LkV RX7 157 yX7_claimAt cX7_claimAt 2 (Option.some (Jvm.ClassFile.FieldType.object "NuggetCamp$Claim")) 1 := ⟨⟨(q1 1 rfl rfl), (q3 114 rfl rfl), by decide, by decide, by decide +kernel⟩, (q3 111 rfl rfl), (q3 113 rfl rfl), (qs1 13 rfl)⟩
theorem L_X7_162 : LkV RX7 162 yX7_shareOut cX7_shareOut 6 (Option.none : Option Jvm.ClassFile.FieldType) 2 := ⟨⟨(q1 1 rfl rfl), (q3 146 rfl rfl), by decide, by decide, by decide +kernel⟩, (q3 143 rfl rfl), (q3 145 rfl rfl), (qs2 0 rfl)⟩
theorem L_X7_169 : LkV RX7 169 yX1_drop cX1_drop 3 (Option.none : Option Jvm.ClassFile.FieldType) 2 := ⟨⟨(q1 2 rfl rfl), (q3 142 rfl rfl), by decide, by decide, by decide +kernel⟩, (q3 165 rfl rfl), (q3 140 rfl rfl), (q3 141 rfl rfl)⟩
theorem L_X7_172 : LkV RX7 172 yX3_noteSalting cX3_noteSalting 3 (Option.none : Option Jvm.ClassFile.FieldType) 2 := ⟨⟨(q1 15 rfl rfl), (q3 169 rfl rfl), by decide, by decide, by decide +kernel⟩, (q3 166 rfl rfl), (q3 167 rfl rfl), (q3 168 rfl rfl)⟩
theorem L_X7_175 : LkV RX7 175 yX7_spoilSalesOfToday cX7_spoilSalesOfToday 5 (Option.none : Option Jvm.ClassFile.FieldType) 2 := ⟨⟨(q1 1 rfl rfl), (q3 173 rfl rfl), by decide, by decide, by decide +kernel⟩, (q3 170 rfl rfl), (q3 172 rfl rfl), (qs2 1 rfl)⟩
theorem L_X7_182 : LkV RX7 182 yX3_dust cX3_dust 1 (Option.some Jvm.ClassFile.FieldType.int) 0 := ⟨⟨(q1 15 rfl rfl), (q3 192 rfl rfl), by decide, by decide, by decide +kernel⟩, (q3 189 rfl rfl), (q3 190 rfl rfl), (q3 191 rfl rfl)⟩
theorem L_X7_185 : LkV RX7 185 yX3_isSuspect cX3_isSuspect 1 (Option.some Jvm.ClassFile.FieldType.boolean) 0 := ⟨⟨(q1 15 rfl rfl), (q3 196 rfl rfl), by decide, by decide, by decide +kernel⟩, (q3 193 rfl rfl), (q3 194 rfl rfl), (q3 195 rfl rfl)⟩
theorem L_X7_191 : LkV RX7 191 yX3_brassIn cX3_brassIn 3 (Option.some Jvm.ClassFile.FieldType.int) 1 := ⟨⟨(q1 15 rfl rfl), (q3 201 rfl rfl), by decide, by decide, by decide +kernel⟩, (q3 198 rfl rfl), (q3 199 rfl rfl), (q3 200 rfl rfl)⟩
theorem L_X7_197 : LkV RX7 197 yX6_freightsUnderWay cX6_freightsUnderWay 3 (Option.some Jvm.ClassFile.FieldType.int) 0 := ⟨⟨(q1 3 rfl rfl), (q3 219 rfl rfl), by decide, by decide, by decide +kernel⟩, (q3 216 rfl rfl), (q3 217 rfl rfl), (q3 218 rfl rfl)⟩
theorem L_X7_200 : LkV RX7 200 yX6_send cX6_send 4 (Option.none : Option Jvm.ClassFile.FieldType) 2 := ⟨⟨(q1 3 rfl rfl), (q3 223 rfl rfl), by decide, by decide, by decide +kernel⟩, (q3 220 rfl rfl), (q3 221 rfl rfl), (q3 222 rfl rfl)⟩
theorem L_X7_203 : LkV RX7 203 yX6_price cX6_price 1 (Option.some Jvm.ClassFile.FieldType.int) 0 := ⟨⟨(q1 3 rfl rfl), (q3 234 rfl rfl), by decide, by decide, by decide +kernel⟩, (q3 231 rfl rfl), (q3 232 rfl rfl), (q3 233 rfl rfl)⟩
theorem L_X7_210 : LkV RX7 210 yX3_percentOf cX3_percentOf 2 (Option.some Jvm.ClassFile.FieldType.int) 1 := ⟨⟨(q1 15 rfl rfl), (q3 150 rfl rfl), by decide, by decide, by decide +kernel⟩, (q3 147 rfl rfl), (q3 148 rfl rfl), (q3 149 rfl rfl)⟩
theorem L_X7_213 : LkV RX7 213 yX3_percentBacked cX3_percentBacked 3 (Option.some Jvm.ClassFile.FieldType.int) 0 := ⟨⟨(q1 15 rfl rfl), (q4 5 rfl rfl), by decide, by decide, by decide +kernel⟩, (q4 2 rfl rfl), (q4 3 rfl rfl), (q4 4 rfl rfl)⟩
theorem L_X7_216 : LkV RX7 216 yX3_setPercent cX3_setPercent 3 (Option.none : Option Jvm.ClassFile.FieldType) 2 := ⟨⟨(q1 15 rfl rfl), (q4 9 rfl rfl), by decide, by decide, by decide +kernel⟩, (q4 6 rfl rfl), (q4 7 rfl rfl), (q4 8 rfl rfl)⟩
theorem L_X7_219 : LkV RX7 219 yX7_isMiner cX7_isMiner 2 (Option.some Jvm.ClassFile.FieldType.boolean) 1 := ⟨⟨(q1 1 rfl rfl), (q2 223 rfl rfl), by decide, by decide, by decide +kernel⟩, (q2 220 rfl rfl), (q2 222 rfl rfl), (qs1 7 rfl)⟩
theorem L_X7_235 : LkV RX7 235 yX3_saltedLately cX3_saltedLately 5 (Option.some Jvm.ClassFile.FieldType.boolean) 3 := ⟨⟨(q1 15 rfl rfl), (q4 27 rfl rfl), by decide, by decide, by decide +kernel⟩, (q4 24 rfl rfl), (q4 25 rfl rfl), (q4 26 rfl rfl)⟩
theorem L_X7_239 : LkV RX7 239 yX0_sellTo cX0_sellTo 5 (Option.none : Option Jvm.ClassFile.FieldType) 4 := ⟨⟨(q1 22 rfl rfl), (q4 31 rfl rfl), by decide, by decide, by decide +kernel⟩, (q4 28 rfl rfl), (q4 29 rfl rfl), (q4 30 rfl rfl)⟩
theorem L_X7_264 : LkV RX7 264 yX5_beliefOf cX5_beliefOf 2 (Option.some Jvm.ClassFile.FieldType.int) 1 := ⟨⟨(q1 4 rfl rfl), (q4 49 rfl rfl), by decide, by decide, by decide +kernel⟩, (q4 46 rfl rfl), (q4 47 rfl rfl), (q4 48 rfl rfl)⟩
theorem L_X7_267 : LkV RX7 267 yX5_tell cX5_tell 3 (Option.none : Option Jvm.ClassFile.FieldType) 2 := ⟨⟨(q1 4 rfl rfl), (q4 54 rfl rfl), by decide, by decide, by decide +kernel⟩, (q4 51 rfl rfl), (q4 52 rfl rfl), (q4 53 rfl rfl)⟩
theorem L_X7_276 : LkV RX7 276 yX7_inchesOfRight cX7_inchesOfRight 6 (Option.some Jvm.ClassFile.FieldType.int) 1 := ⟨⟨(q1 1 rfl rfl), (q3 123 rfl rfl), by decide, by decide, by decide +kernel⟩, (q3 120 rfl rfl), (q3 122 rfl rfl), (qs1 15 rfl)⟩
theorem L_X7_279 : LkV RX7 279 yX1_goldInGround cX1_goldInGround 3 (Option.some Jvm.ClassFile.FieldType.int) 0 := ⟨⟨(q1 2 rfl rfl), (q4 93 rfl rfl), by decide, by decide, by decide +kernel⟩, (q4 90 rfl rfl), (q4 91 rfl rfl), (q4 92 rfl rfl)⟩
theorem L_X7_285 : LkV RX7 285 yX7_goldOfMiners cX7_goldOfMiners 3 (Option.some Jvm.ClassFile.FieldType.int) 0 := ⟨⟨(q1 1 rfl rfl), (q4 97 rfl rfl), by decide, by decide, by decide +kernel⟩, (q4 94 rfl rfl), (q4 96 rfl rfl), (qs2 2 rfl)⟩
theorem L_X7_288 : LkV RX7 288 yX1_yieldDownwards cX1_yieldDownwards 9 (Option.some Jvm.ClassFile.FieldType.int) 3 := ⟨⟨(q1 2 rfl rfl), (q4 122 rfl rfl), by decide, by decide, by decide +kernel⟩, (q4 119 rfl rfl), (q4 120 rfl rfl), (q4 121 rfl rfl)⟩
theorem L_X7_314 : LkV RX7 314 yJx4a65c_get_915e3 cJx4a65c_get_915e3 2 (Option.some (Jvm.ClassFile.FieldType.object "java/lang/Object")) 1 := ⟨⟨(q1 7 rfl rfl), (q2 181 rfl rfl), by decide, by decide, by decide +kernel⟩, (q2 178 rfl rfl), (q2 179 rfl rfl), (q2 180 rfl rfl)⟩
theorem L_X7_326 : LkV RX7 326 yX3_liveOneDay cX3_liveOneDay 1 (Option.none : Option Jvm.ClassFile.FieldType) 0 := ⟨⟨(q1 15 rfl rfl), (q2 195 rfl rfl), by decide, by decide, by decide +kernel⟩, (q2 192 rfl rfl), (q2 193 rfl rfl), (q2 194 rfl rfl)⟩
theorem L_X7_329 : LkV RX7 329 yX6_unload cX6_unload 3 (Option.none : Option Jvm.ClassFile.FieldType) 1 := ⟨⟨(q1 3 rfl rfl), (q2 205 rfl rfl), by decide, by decide, by decide +kernel⟩, (q2 202 rfl rfl), (q2 203 rfl rfl), (q2 204 rfl rfl)⟩
theorem L_X7_332 : LkV RX7 332 yX5_fade cX5_fade 2 (Option.none : Option Jvm.ClassFile.FieldType) 0 := ⟨⟨(q1 4 rfl rfl), (q2 209 rfl rfl), by decide, by decide, by decide +kernel⟩, (q2 206 rfl rfl), (q2 207 rfl rfl), (q2 208 rfl rfl)⟩
theorem L_X7_335 : LkV RX7 335 yX7_lapseIfDue cX7_lapseIfDue 2 (Option.none : Option Jvm.ClassFile.FieldType) 1 := ⟨⟨(q1 1 rfl rfl), (q2 215 rfl rfl), by decide, by decide, by decide +kernel⟩, (q2 212 rfl rfl), (q2 214 rfl rfl), (qs1 5 rfl)⟩
theorem L_X7_339 : LkV RX7 339 yX7_isDead cX7_isDead 2 (Option.some Jvm.ClassFile.FieldType.boolean) 1 := ⟨⟨(q1 1 rfl rfl), (q2 219 rfl rfl), by decide, by decide, by decide +kernel⟩, (q2 216 rfl rfl), (q2 218 rfl rfl), (qs1 6 rfl)⟩
theorem L_X7_341 : LkV RX7 341 yX0_covers cX0_covers 2 (Option.some Jvm.ClassFile.FieldType.boolean) 1 := ⟨⟨(q1 22 rfl rfl), (q3 19 rfl rfl), by decide, by decide, by decide +kernel⟩, (q3 16 rfl rfl), (q3 17 rfl rfl), (q3 18 rfl rfl)⟩
theorem N_X7_66 : Cond.constant RX7 66 100000 ∈ wA := (q1 237 rfl rfl)
theorem N_X7_181 : Cond.constant RX7 181 1000000 ∈ wA := (q3 188 rfl rfl)
theorem K_X7_7 : Cond.classLink RX7 7 "NuggetCamp$Creek" ∈ wA := (q1 34 rfl rfl)
theorem K_X7_16 : Cond.classLink RX7 16 "NuggetCamp$Store" ∈ wA := (q1 56 rfl rfl)
theorem K_X7_23 : Cond.classLink RX7 23 "NuggetCamp$Rumours" ∈ wA := (q1 73 rfl rfl)
theorem K_X7_30 : Cond.classLink RX7 30 "java/util/ArrayList" ∈ wA := (q1 83 rfl rfl)
theorem K_X7_292 : Cond.classLink RX7 292 "java/lang/IndexOutOfBoundsException" ∈ wA := (q1 169 rfl rfl)
theorem K_X7_299 : Cond.classLink RX7 299 "java/lang/IllegalArgumentException" ∈ wA := (q2 4 rfl rfl)
theorem K_X7_304 : Cond.classLink RX7 304 "java/lang/IllegalStateException" ∈ wA := (q2 23 rfl rfl)
theorem f_X7_10 : FL RX7 10 7 0 (.object "NuggetCamp$Creek") true := ⟨RX7, TX7, 12, "NuggetCamp", tyX7, rfl, inA_RX7, by decide, Or.inl ⟨(q1 109 rfl rfl), Or.inl rfl⟩, tyX7_ok, nmX7, rfl, rfl, fun _ => rfl⟩
theorem f_X7_19 : FL RX7 19 7 1 (.object "NuggetCamp$Store") true := ⟨RX7, TX7, 12, "NuggetCamp", tyX7, rfl, inA_RX7, by decide, Or.inl ⟨(q1 110 rfl rfl), Or.inl rfl⟩, tyX7_ok, nmX7, rfl, rfl, fun _ => rfl⟩
theorem f_X7_26 : FL RX7 26 7 2 (.object "NuggetCamp$Rumours") true := ⟨RX7, TX7, 12, "NuggetCamp", tyX7, rfl, inA_RX7, by decide, Or.inl ⟨(q1 111 rfl rfl), Or.inl rfl⟩, tyX7_ok, nmX7, rfl, rfl, fun _ => rfl⟩
theorem f_X7_33 : FL RX7 33 7 3 (.object "java/util/ArrayList") true := ⟨RX7, TX7, 12, "NuggetCamp", tyX7, rfl, inA_RX7, by decide, Or.inl ⟨(q1 112 rfl rfl), Or.inl rfl⟩, tyX7_ok, nmX7, rfl, rfl, fun _ => rfl⟩
theorem f_X7_37 : FL RX7 37 7 4 (.object "java/util/ArrayList") true := ⟨RX7, TX7, 12, "NuggetCamp", tyX7, rfl, inA_RX7, by decide, Or.inl ⟨(q1 113 rfl rfl), Or.inl rfl⟩, tyX7_ok, nmX7, rfl, rfl, fun _ => rfl⟩
theorem f_X7_40 : FL RX7 40 7 5 (.object "java/util/ArrayList") true := ⟨RX7, TX7, 12, "NuggetCamp", tyX7, rfl, inA_RX7, by decide, Or.inl ⟨(q1 114 rfl rfl), Or.inl rfl⟩, tyX7_ok, nmX7, rfl, rfl, fun _ => rfl⟩
theorem f_X7_43 : FL RX7 43 7 6 (.int) false := ⟨RX7, TX7, 12, "NuggetCamp", tyX7, rfl, inA_RX7, by decide, Or.inl ⟨(q1 115 rfl rfl), Or.inl rfl⟩, tyX7_ok, nmX7, rfl, rfl, fun h => absurd h (by decide)⟩
theorem f_X7_47 : FL RX7 47 7 7 (.int) false := ⟨RX7, TX7, 12, "NuggetCamp", tyX7, rfl, inA_RX7, by decide, Or.inl ⟨(q1 116 rfl rfl), Or.inl rfl⟩, tyX7_ok, nmX7, rfl, rfl, fun h => absurd h (by decide)⟩
theorem f_X7_50 : FL RX7 50 7 8 (.int) false := ⟨RX7, TX7, 12, "NuggetCamp", tyX7, rfl, inA_RX7, by decide, Or.inl ⟨(q1 117 rfl rfl), Or.inl rfl⟩, tyX7_ok, nmX7, rfl, rfl, fun h => absurd h (by decide)⟩
theorem f_X7_53 : FL RX7 53 7 9 (.int) false := ⟨RX7, TX7, 12, "NuggetCamp", tyX7, rfl, inA_RX7, by decide, Or.inl ⟨(q1 118 rfl rfl), Or.inl rfl⟩, tyX7_ok, nmX7, rfl, rfl, fun h => absurd h (by decide)⟩
theorem f_X7_56 : FL RX7 56 7 10 (.int) false := ⟨RX7, TX7, 12, "NuggetCamp", tyX7, rfl, inA_RX7, by decide, Or.inl ⟨(q1 119 rfl rfl), Or.inl rfl⟩, tyX7_ok, nmX7, rfl, rfl, fun h => absurd h (by decide)⟩
theorem f_X7_59 : FL RX7 59 7 11 (.int) false := ⟨RX7, TX7, 12, "NuggetCamp", tyX7, rfl, inA_RX7, by decide, Or.inl ⟨(q1 120 rfl rfl), Or.inl rfl⟩, tyX7_ok, nmX7, rfl, rfl, fun h => absurd h (by decide)⟩
theorem f_X7_71 : FL RX7 71 2 3 (.boolean) false := ⟨RX1, TX1, 4, "NuggetCamp$Creek", tyX1, rfl, inA_RX1, by decide, Or.inr ⟨rfl, "NuggetCamp", (qn1 45 rfl rfl)⟩, tyX1_ok, nmX1, rfl, rfl, fun h => absurd h (by decide)⟩
theorem f_X7_138 : FL RX7 138 3 8 (.int) false := ⟨RX3, TX3, 9, "NuggetCamp$Miner", tyX3, rfl, inA_RX3, by decide, Or.inr ⟨rfl, "NuggetCamp", (qn2 87 rfl rfl)⟩, tyX3_ok, nmX3, rfl, rfl, fun h => absurd h (by decide)⟩
theorem f_X7_161 : FL RX7 161 1 4 (.int) false := ⟨RX0, TX0, 11, "NuggetCamp$Claim", tyX0, rfl, inA_RX0, by decide, Or.inr ⟨rfl, "NuggetCamp", (qn3 34 rfl rfl)⟩, tyX0_ok, nmX0, rfl, rfl, fun h => absurd h (by decide)⟩
theorem f_X7_166 : FL RX7 166 3 2 (.int) false := ⟨RX3, TX3, 9, "NuggetCamp$Miner", tyX3, rfl, inA_RX3, by decide, Or.inr ⟨rfl, "NuggetCamp", (qn2 75 rfl rfl)⟩, tyX3_ok, nmX3, rfl, rfl, fun h => absurd h (by decide)⟩
theorem f_X7_178 : FL RX7 178 3 3 (.int) false := ⟨RX3, TX3, 9, "NuggetCamp$Miner", tyX3, rfl, inA_RX3, by decide, Or.inr ⟨rfl, "NuggetCamp", (qn2 77 rfl rfl)⟩, tyX3_ok, nmX3, rfl, rfl, fun h => absurd h (by decide)⟩
theorem f_X7_188 : FL RX7 188 3 7 (.int) false := ⟨RX3, TX3, 9, "NuggetCamp$Miner", tyX3, rfl, inA_RX3, by decide, Or.inr ⟨rfl, "NuggetCamp", (qn2 85 rfl rfl)⟩, tyX3_ok, nmX3, rfl, rfl, fun h => absurd h (by decide)⟩
theorem f_X7_194 : FL RX7 194 3 5 (.int) false := ⟨RX3, TX3, 9, "NuggetCamp$Miner", tyX3, rfl, inA_RX3, by decide, Or.inr ⟨rfl, "NuggetCamp", (qn2 81 rfl rfl)⟩, tyX3_ok, nmX3, rfl, rfl, fun h => absurd h (by decide)⟩
theorem f_X7_206 : FL RX7 206 6 2 (.int) false := ⟨RX6, TX6, 3, "NuggetCamp$Store", tyX6, rfl, inA_RX6, by decide, Or.inr ⟨rfl, "NuggetCamp", (qn1 65 rfl rfl)⟩, tyX6_ok, nmX6, rfl, rfl, fun h => absurd h (by decide)⟩
theorem f_X7_209 : FL RX7 209 3 4 (.int) false := ⟨RX3, TX3, 9, "NuggetCamp$Miner", tyX3, rfl, inA_RX3, by decide, Or.inr ⟨rfl, "NuggetCamp", (qn2 79 rfl rfl)⟩, tyX3_ok, nmX3, rfl, rfl, fun h => absurd h (by decide)⟩
theorem f_X7_226 : FL RX7 226 1 5 (.boolean) false := ⟨RX0, TX0, 11, "NuggetCamp$Claim", tyX0, rfl, inA_RX0, by decide, Or.inr ⟨rfl, "NuggetCamp", (qn3 36 rfl rfl)⟩, tyX0_ok, nmX0, rfl, rfl, fun h => absurd h (by decide)⟩
theorem f_X7_246 : FL RX7 246 1 10 (.boolean) false := ⟨RX0, TX0, 11, "NuggetCamp$Claim", tyX0, rfl, inA_RX0, by decide, Or.inr ⟨rfl, "NuggetCamp", (qn3 46 rfl rfl)⟩, tyX0_ok, nmX0, rfl, rfl, fun h => absurd h (by decide)⟩
theorem f_X7_252 : FL RX7 252 1 9 (.boolean) false := ⟨RX0, TX0, 11, "NuggetCamp$Claim", tyX0, rfl, inA_RX0, by decide, Or.inr ⟨rfl, "NuggetCamp", (qn3 44 rfl rfl)⟩, tyX0_ok, nmX0, rfl, rfl, fun h => absurd h (by decide)⟩
theorem g_X8_7 : FG RX8 7 8 1 := ⟨RX8, TX8, 46, "NuggetCampModel", rfl, inA_RX8, by decide, Or.inl ⟨(q4 137 rfl rfl), Or.inl rfl⟩⟩
theorem g_X8_13 : FG RX8 13 8 2 := ⟨RX8, TX8, 46, "NuggetCampModel", rfl, inA_RX8, by decide, Or.inl ⟨(q4 138 rfl rfl), Or.inl rfl⟩⟩
theorem g_X8_16 : FG RX8 16 8 3 := ⟨RX8, TX8, 46, "NuggetCampModel", rfl, inA_RX8, by decide, Or.inl ⟨(q4 139 rfl rfl), Or.inl rfl⟩⟩
theorem g_X8_19 : FG RX8 19 8 4 := ⟨RX8, TX8, 46, "NuggetCampModel", rfl, inA_RX8, by decide, Or.inl ⟨(q4 140 rfl rfl), Or.inl rfl⟩⟩
theorem g_X8_22 : FG RX8 22 8 5 := ⟨RX8, TX8, 46, "NuggetCampModel", rfl, inA_RX8, by decide, Or.inl ⟨(q4 141 rfl rfl), Or.inl rfl⟩⟩
theorem g_X8_25 : FG RX8 25 8 9 := ⟨RX8, TX8, 46, "NuggetCampModel", rfl, inA_RX8, by decide, Or.inl ⟨(q4 145 rfl rfl), Or.inl rfl⟩⟩
theorem g_X8_29 : FG RX8 29 8 10 := ⟨RX8, TX8, 46, "NuggetCampModel", rfl, inA_RX8, by decide, Or.inl ⟨(q4 146 rfl rfl), Or.inl rfl⟩⟩
theorem g_X8_32 : FG RX8 32 8 11 := ⟨RX8, TX8, 46, "NuggetCampModel", rfl, inA_RX8, by decide, Or.inl ⟨(q4 147 rfl rfl), Or.inl rfl⟩⟩
theorem g_X8_35 : FG RX8 35 8 13 := ⟨RX8, TX8, 46, "NuggetCampModel", rfl, inA_RX8, by decide, Or.inl ⟨(q4 149 rfl rfl), Or.inl rfl⟩⟩
theorem g_X8_38 : FG RX8 38 8 14 := ⟨RX8, TX8, 46, "NuggetCampModel", rfl, inA_RX8, by decide, Or.inl ⟨(q4 150 rfl rfl), Or.inl rfl⟩⟩
theorem g_X8_41 : FG RX8 41 8 15 := ⟨RX8, TX8, 46, "NuggetCampModel", rfl, inA_RX8, by decide, Or.inl ⟨(q4 151 rfl rfl), Or.inl rfl⟩⟩
theorem g_X8_44 : FG RX8 44 8 16 := ⟨RX8, TX8, 46, "NuggetCampModel", rfl, inA_RX8, by decide, Or.inl ⟨(q4 152 rfl rfl), Or.inl rfl⟩⟩
theorem g_X8_47 : FG RX8 47 8 17 := ⟨RX8, TX8, 46, "NuggetCampModel", rfl, inA_RX8, by decide, Or.inl ⟨(q4 153 rfl rfl), Or.inl rfl⟩⟩
theorem g_X8_50 : FG RX8 50 8 18 := ⟨RX8, TX8, 46, "NuggetCampModel", rfl, inA_RX8, by decide, Or.inl ⟨(q4 154 rfl rfl), Or.inl rfl⟩⟩
theorem g_X8_53 : FG RX8 53 8 19 := ⟨RX8, TX8, 46, "NuggetCampModel", rfl, inA_RX8, by decide, Or.inl ⟨(q4 155 rfl rfl), Or.inl rfl⟩⟩
theorem g_X8_56 : FG RX8 56 8 20 := ⟨RX8, TX8, 46, "NuggetCampModel", rfl, inA_RX8, by decide, Or.inl ⟨(q4 156 rfl rfl), Or.inl rfl⟩⟩
theorem g_X8_59 : FG RX8 59 8 22 := ⟨RX8, TX8, 46, "NuggetCampModel", rfl, inA_RX8, by decide, Or.inl ⟨(q4 158 rfl rfl), Or.inl rfl⟩⟩
theorem g_X8_62 : FG RX8 62 8 23 := ⟨RX8, TX8, 46, "NuggetCampModel", rfl, inA_RX8, by decide, Or.inl ⟨(q4 159 rfl rfl), Or.inl rfl⟩⟩
theorem g_X8_65 : FG RX8 65 8 24 := ⟨RX8, TX8, 46, "NuggetCampModel", rfl, inA_RX8, by decide, Or.inl ⟨(q4 160 rfl rfl), Or.inl rfl⟩⟩
theorem g_X8_68 : FG RX8 68 8 25 := ⟨RX8, TX8, 46, "NuggetCampModel", rfl, inA_RX8, by decide, Or.inl ⟨(q4 161 rfl rfl), Or.inl rfl⟩⟩
theorem g_X8_72 : FG RX8 72 8 26 := ⟨RX8, TX8, 46, "NuggetCampModel", rfl, inA_RX8, by decide, Or.inl ⟨(q4 162 rfl rfl), Or.inl rfl⟩⟩
theorem g_X8_75 : FG RX8 75 8 27 := ⟨RX8, TX8, 46, "NuggetCampModel", rfl, inA_RX8, by decide, Or.inl ⟨(q4 163 rfl rfl), Or.inl rfl⟩⟩
theorem g_X8_78 : FG RX8 78 8 28 := ⟨RX8, TX8, 46, "NuggetCampModel", rfl, inA_RX8, by decide, Or.inl ⟨(q4 164 rfl rfl), Or.inl rfl⟩⟩
theorem g_X8_81 : FG RX8 81 8 29 := ⟨RX8, TX8, 46, "NuggetCampModel", rfl, inA_RX8, by decide, Or.inl ⟨(q4 165 rfl rfl), Or.inl rfl⟩⟩
theorem g_X8_84 : FG RX8 84 8 30 := ⟨RX8, TX8, 46, "NuggetCampModel", rfl, inA_RX8, by decide, Or.inl ⟨(q4 166 rfl rfl), Or.inl rfl⟩⟩
theorem g_X8_87 : FG RX8 87 8 31 := ⟨RX8, TX8, 46, "NuggetCampModel", rfl, inA_RX8, by decide, Or.inl ⟨(q4 167 rfl rfl), Or.inl rfl⟩⟩
theorem g_X8_90 : FG RX8 90 8 32 := ⟨RX8, TX8, 46, "NuggetCampModel", rfl, inA_RX8, by decide, Or.inl ⟨(q4 168 rfl rfl), Or.inl rfl⟩⟩
theorem g_X8_93 : FG RX8 93 8 34 := ⟨RX8, TX8, 46, "NuggetCampModel", rfl, inA_RX8, by decide, Or.inl ⟨(q4 170 rfl rfl), Or.inl rfl⟩⟩
theorem g_X8_96 : FG RX8 96 8 35 := ⟨RX8, TX8, 46, "NuggetCampModel", rfl, inA_RX8, by decide, Or.inl ⟨(q4 171 rfl rfl), Or.inl rfl⟩⟩
theorem g_X8_99 : FG RX8 99 8 37 := ⟨RX8, TX8, 46, "NuggetCampModel", rfl, inA_RX8, by decide, Or.inl ⟨(q4 173 rfl rfl), Or.inl rfl⟩⟩
theorem g_X8_102 : FG RX8 102 8 38 := ⟨RX8, TX8, 46, "NuggetCampModel", rfl, inA_RX8, by decide, Or.inl ⟨(q4 174 rfl rfl), Or.inl rfl⟩⟩
theorem g_X8_105 : FG RX8 105 8 40 := ⟨RX8, TX8, 46, "NuggetCampModel", rfl, inA_RX8, by decide, Or.inl ⟨(q4 176 rfl rfl), Or.inl rfl⟩⟩
theorem g_X8_108 : FG RX8 108 8 41 := ⟨RX8, TX8, 46, "NuggetCampModel", rfl, inA_RX8, by decide, Or.inl ⟨(q4 177 rfl rfl), Or.inl rfl⟩⟩
theorem g_X8_111 : FG RX8 111 8 42 := ⟨RX8, TX8, 46, "NuggetCampModel", rfl, inA_RX8, by decide, Or.inl ⟨(q4 178 rfl rfl), Or.inl rfl⟩⟩
theorem g_X8_114 : FG RX8 114 8 43 := ⟨RX8, TX8, 46, "NuggetCampModel", rfl, inA_RX8, by decide, Or.inl ⟨(q4 179 rfl rfl), Or.inl rfl⟩⟩
theorem g_X8_117 : FG RX8 117 8 44 := ⟨RX8, TX8, 46, "NuggetCampModel", rfl, inA_RX8, by decide, Or.inl ⟨(q4 180 rfl rfl), Or.inl rfl⟩⟩
theorem g_X8_120 : FG RX8 120 8 45 := ⟨RX8, TX8, 46, "NuggetCampModel", rfl, inA_RX8, by decide, Or.inl ⟨(q4 181 rfl rfl), Or.inl rfl⟩⟩
theorem g_X8_127 : FG RX8 127 8 12 := ⟨RX8, TX8, 46, "NuggetCampModel", rfl, inA_RX8, by decide, Or.inl ⟨(q4 148 rfl rfl), Or.inl rfl⟩⟩
theorem g_X8_130 : FG RX8 130 8 21 := ⟨RX8, TX8, 46, "NuggetCampModel", rfl, inA_RX8, by decide, Or.inl ⟨(q4 157 rfl rfl), Or.inl rfl⟩⟩
theorem g_X8_138 : FG RX8 138 8 0 := ⟨RX8, TX8, 46, "NuggetCampModel", rfl, inA_RX8, by decide, Or.inl ⟨(q4 136 rfl rfl), Or.inl rfl⟩⟩
theorem g_X8_141 : FG RX8 141 8 8 := ⟨RX8, TX8, 46, "NuggetCampModel", rfl, inA_RX8, by decide, Or.inl ⟨(q4 144 rfl rfl), Or.inl rfl⟩⟩
theorem g_X8_152 : FG RX8 152 8 36 := ⟨RX8, TX8, 46, "NuggetCampModel", rfl, inA_RX8, by decide, Or.inl ⟨(q4 172 rfl rfl), Or.inl rfl⟩⟩
theorem g_X8_183 : FG RX8 183 8 33 := ⟨RX8, TX8, 46, "NuggetCampModel", rfl, inA_RX8, by decide, Or.inl ⟨(q4 169 rfl rfl), Or.inl rfl⟩⟩
theorem g_X8_208 : FG RX8 208 8 6 := ⟨RX8, TX8, 46, "NuggetCampModel", rfl, inA_RX8, by decide, Or.inl ⟨(q4 142 rfl rfl), Or.inl rfl⟩⟩
theorem g_X8_215 : FG RX8 215 8 39 := ⟨RX8, TX8, 46, "NuggetCampModel", rfl, inA_RX8, by decide, Or.inl ⟨(q4 175 rfl rfl), Or.inl rfl⟩⟩
theorem g_X8_219 : FG RX8 219 8 7 := ⟨RX8, TX8, 46, "NuggetCampModel", rfl, inA_RX8, by decide, Or.inl ⟨(q4 143 rfl rfl), Or.inl rfl⟩⟩
theorem L_X8_1 : Cond.methodLink RX8 1 objectInit ∈ wA := (q4 135 rfl rfl)
theorem L_X8_123 : LkS RX8 123 yX8_isIn cX8_isIn 3 (Option.some Jvm.ClassFile.FieldType.boolean) 3 := ⟨⟨(q1 8 rfl rfl), (q5 47 rfl rfl), by decide, by decide, by decide +kernel⟩, (q5 45 rfl rfl), (q5 46 rfl rfl)⟩
theorem L_X8_134 : LkS RX8 134 yX8_isCell cX8_isCell 1 (Option.some Jvm.ClassFile.FieldType.boolean) 1 := ⟨⟨(q1 8 rfl rfl), (q5 50 rfl rfl), by decide, by decide, by decide +kernel⟩, (q5 48 rfl rfl), (q5 49 rfl rfl)⟩
theorem L_X8_148 : LkS RX8 148 yX8_lesser cX8_lesser 2 (Option.some Jvm.ClassFile.FieldType.int) 2 := ⟨⟨(q1 8 rfl rfl), (q5 81 rfl rfl), by decide, by decide, by decide +kernel⟩, (q5 79 rfl rfl), (q5 80 rfl rfl)⟩
theorem L_X8_189 : LkS RX8 189 yX8_isMethod cX8_isMethod 1 (Option.some Jvm.ClassFile.FieldType.boolean) 1 := ⟨⟨(q1 8 rfl rfl), (q5 120 rfl rfl), by decide, by decide, by decide +kernel⟩, (q5 118 rfl rfl), (q5 119 rfl rfl)⟩
theorem L_X8_198 : LkS RX8 198 yX8_needed cX8_needed 1 (Option.some Jvm.ClassFile.FieldType.int) 1 := ⟨⟨(q1 8 rfl rfl), (q5 135 rfl rfl), by decide, by decide, by decide +kernel⟩, (q5 133 rfl rfl), (q5 134 rfl rfl)⟩
theorem L_X8_201 : LkS RX8 201 yX8_takes cX8_takes 2 (Option.some Jvm.ClassFile.FieldType.int) 2 := ⟨⟨(q1 8 rfl rfl), (q5 138 rfl rfl), by decide, by decide, by decide +kernel⟩, (q5 136 rfl rfl), (q5 137 rfl rfl)⟩
theorem L_X8_204 : LkS RX8 204 yX8_recovers cX8_recovers 5 (Option.some Jvm.ClassFile.FieldType.int) 3 := ⟨⟨(q1 8 rfl rfl), (q5 141 rfl rfl), by decide, by decide, by decide +kernel⟩, (q5 139 rfl rfl), (q5 140 rfl rfl)⟩
theorem L_X8_242 : LkS RX8 242 yX8_orders cX8_orders 3 (Option.some Jvm.ClassFile.FieldType.int) 1 := ⟨⟨(q1 8 rfl rfl), (q6 26 rfl rfl), by decide, by decide, by decide +kernel⟩, (q6 24 rfl rfl), (q6 25 rfl rfl)⟩
theorem L_X8_145 : LkV RX8 145 yX8_holdsTo cX8_holdsTo 2 (Option.some Jvm.ClassFile.FieldType.boolean) 1 := ⟨⟨(q1 8 rfl rfl), (q5 54 rfl rfl), by decide, by decide, by decide +kernel⟩, (q5 51 rfl rfl), (q5 53 rfl rfl), (qs2 3 rfl)⟩
theorem L_X8_155 : LkV RX8 155 yX8_isDead cX8_isDead 2 (Option.some Jvm.ClassFile.FieldType.boolean) 1 := ⟨⟨(q1 8 rfl rfl), (q5 74 rfl rfl), by decide, by decide, by decide +kernel⟩, (q5 71 rfl rfl), (q5 73 rfl rfl), (qs2 5 rfl)⟩
theorem L_X8_158 : LkV RX8 158 yX8_eats cX8_eats 2 (Option.none : Option Jvm.ClassFile.FieldType) 1 := ⟨⟨(q1 8 rfl rfl), (q5 78 rfl rfl), by decide, by decide, by decide +kernel⟩, (q5 75 rfl rfl), (q5 77 rfl rfl), (qs2 6 rfl)⟩
theorem L_X8_162 : LkV RX8 162 yX8_arrives cX8_arrives 3 (Option.none : Option Jvm.ClassFile.FieldType) 0 := ⟨⟨(q1 8 rfl rfl), (q5 85 rfl rfl), by decide, by decide, by decide +kernel⟩, (q5 82 rfl rfl), (q5 84 rfl rfl), (qs2 7 rfl)⟩
theorem L_X8_165 : LkV RX8 165 yX8_goesBy cX8_goesBy 3 (Option.none : Option Jvm.ClassFile.FieldType) 0 := ⟨⟨(q1 8 rfl rfl), (q5 70 rfl rfl), by decide, by decide, by decide +kernel⟩, (q5 67 rfl rfl), (q5 69 rfl rfl), (qs2 4 rfl)⟩
theorem L_X8_168 : LkV RX8 168 yX8_living cX8_living 3 (Option.some Jvm.ClassFile.FieldType.int) 0 := ⟨⟨(q1 8 rfl rfl), (q5 93 rfl rfl), by decide, by decide, by decide +kernel⟩, (q5 90 rfl rfl), (q5 92 rfl rfl), (qs2 8 rfl)⟩
theorem L_X8_172 : LkV RX8 172 yX8_heldAt cX8_heldAt 4 (Option.some Jvm.ClassFile.FieldType.int) 1 := ⟨⟨(q1 8 rfl rfl), (q5 109 rfl rfl), by decide, by decide, by decide +kernel⟩, (q5 106 rfl rfl), (q5 108 rfl rfl), (qs2 11 rfl)⟩
theorem L_X8_176 : LkV RX8 176 yX8_isMiner cX8_isMiner 2 (Option.some Jvm.ClassFile.FieldType.boolean) 1 := ⟨⟨(q1 8 rfl rfl), (q5 101 rfl rfl), by decide, by decide, by decide +kernel⟩, (q5 98 rfl rfl), (q5 100 rfl rfl), (qs2 9 rfl)⟩
theorem L_X8_179 : LkV RX8 179 yX8_areFree cX8_areFree 5 (Option.some Jvm.ClassFile.FieldType.boolean) 2 := ⟨⟨(q1 8 rfl rfl), (q5 105 rfl rfl), by decide, by decide, by decide +kernel⟩, (q5 102 rfl rfl), (q5 104 rfl rfl), (qs2 10 rfl)⟩
theorem L_X8_186 : LkV RX8 186 yX8_getsOf cX8_getsOf 5 (Option.some Jvm.ClassFile.FieldType.int) 1 := ⟨⟨(q1 8 rfl rfl), (q5 132 rfl rfl), by decide, by decide, by decide +kernel⟩, (q5 129 rfl rfl), (q5 131 rfl rfl), (qs2 14 rfl)⟩
theorem L_X8_192 : LkV RX8 192 yX8_mayWork cX8_mayWork 5 (Option.some Jvm.ClassFile.FieldType.boolean) 3 := ⟨⟨(q1 8 rfl rfl), (q5 124 rfl rfl), by decide, by decide, by decide +kernel⟩, (q5 121 rfl rfl), (q5 123 rfl rfl), (qs2 12 rfl)⟩
theorem L_X8_195 : LkV RX8 195 yX8_inchesOf cX8_inchesOf 4 (Option.some Jvm.ClassFile.FieldType.int) 1 := ⟨⟨(q1 8 rfl rfl), (q5 128 rfl rfl), by decide, by decide, by decide +kernel⟩, (q5 125 rfl rfl), (q5 127 rfl rfl), (qs2 13 rfl)⟩
theorem L_X8_211 : LkV RX8 211 yX8_shares cX8_shares 6 (Option.none : Option Jvm.ClassFile.FieldType) 2 := ⟨⟨(q1 8 rfl rfl), (q5 145 rfl rfl), by decide, by decide, by decide +kernel⟩, (q5 142 rfl rfl), (q5 144 rfl rfl), (qs2 15 rfl)⟩
theorem L_X8_224 : LkV RX8 224 yX8_price cX8_price 1 (Option.some Jvm.ClassFile.FieldType.int) 0 := ⟨⟨(q1 8 rfl rfl), (q5 179 rfl rfl), by decide, by decide, by decide +kernel⟩, (q5 176 rfl rfl), (q5 178 rfl rfl), (qs3 0 rfl)⟩
theorem L_X8_227 : LkV RX8 227 yX8_backed cX8_backed 4 (Option.some Jvm.ClassFile.FieldType.int) 1 := ⟨⟨(q1 8 rfl rfl), (q5 187 rfl rfl), by decide, by decide, by decide +kernel⟩, (q5 184 rfl rfl), (q5 186 rfl rfl), (qs3 1 rfl)⟩
theorem L_X8_230 : LkV RX8 230 yX8_isClaim cX8_isClaim 2 (Option.some Jvm.ClassFile.FieldType.boolean) 1 := ⟨⟨(q1 8 rfl rfl), (q5 199 rfl rfl), by decide, by decide, by decide +kernel⟩, (q5 196 rfl rfl), (q5 198 rfl rfl), (qs3 2 rfl)⟩
theorem L_X8_233 : LkV RX8 233 yX8_isSalted cX8_isSalted 5 (Option.some Jvm.ClassFile.FieldType.boolean) 1 := ⟨⟨(q1 8 rfl rfl), (q5 207 rfl rfl), by decide, by decide, by decide +kernel⟩, (q5 204 rfl rfl), (q5 206 rfl rfl), (qs3 3 rfl)⟩
theorem L_X8_236 : LkV RX8 236 yX8_inGround cX8_inGround 3 (Option.some Jvm.ClassFile.FieldType.int) 0 := ⟨⟨(q1 8 rfl rfl), (q5 239 rfl rfl), by decide, by decide, by decide +kernel⟩, (q5 236 rfl rfl), (q5 238 rfl rfl), (qs3 4 rfl)⟩
theorem L_X8_239 : LkV RX8 239 yX8_withMiners cX8_withMiners 3 (Option.some Jvm.ClassFile.FieldType.int) 0 := ⟨⟨(q1 8 rfl rfl), (q6 3 rfl rfl), by decide, by decide, by decide +kernel⟩, (q6 0 rfl rfl), (q6 2 rfl rfl), (qs3 5 rfl)⟩
theorem L_X8_245 : LkV RX8 245 yX8_laysOrder cX8_laysOrder 9 (Option.none : Option Jvm.ClassFile.FieldType) 2 := ⟨⟨(q1 8 rfl rfl), (q6 30 rfl rfl), by decide, by decide, by decide +kernel⟩, (q6 27 rfl rfl), (q6 29 rfl rfl), (qs3 8 rfl)⟩
theorem L_X8_248 : LkV RX8 248 yX8_digs cX8_digs 9 (Option.some Jvm.ClassFile.FieldType.int) 2 := ⟨⟨(q1 8 rfl rfl), (q6 34 rfl rfl), by decide, by decide, by decide +kernel⟩, (q6 31 rfl rfl), (q6 33 rfl rfl), (qs3 9 rfl)⟩
theorem L_X8_251 : LkV RX8 251 yX8_asksPlan cX8_asksPlan 5 (Option.some Jvm.ClassFile.FieldType.boolean) 3 := ⟨⟨(q1 8 rfl rfl), (q6 19 rfl rfl), by decide, by decide, by decide +kernel⟩, (q6 16 rfl rfl), (q6 18 rfl rfl), (qs3 6 rfl)⟩
theorem L_X8_255 : LkV RX8 255 yX8_bestOrder cX8_bestOrder 7 (Option.some Jvm.ClassFile.FieldType.int) 2 := ⟨⟨(q1 8 rfl rfl), (q6 23 rfl rfl), by decide, by decide, by decide +kernel⟩, (q6 20 rfl rfl), (q6 22 rfl rfl), (qs3 7 rfl)⟩
theorem N_X8_133 : Cond.constant RX8 133 100000 ∈ wA := (q5 44 rfl rfl)
theorem N_X8_218 : Cond.constant RX8 218 1000000 ∈ wA := (q5 162 rfl rfl)
theorem N_X8_222 : Cond.constantLong RX8 222 10 ∈ wA := (q5 163 rfl rfl)
theorem f_X8_7 : FL RX8 7 8 1 (.int) false := ⟨RX8, TX8, 46, "NuggetCampModel", tyX8, rfl, inA_RX8, by decide, Or.inl ⟨(q4 137 rfl rfl), Or.inl rfl⟩, tyX8_ok, nmX8, rfl, rfl, fun h => absurd h (by decide)⟩
theorem f_X8_13 : FL RX8 13 8 2 (.int) false := ⟨RX8, TX8, 46, "NuggetCampModel", tyX8, rfl, inA_RX8, by decide, Or.inl ⟨(q4 138 rfl rfl), Or.inl rfl⟩, tyX8_ok, nmX8, rfl, rfl, fun h => absurd h (by decide)⟩
theorem f_X8_16 : FL RX8 16 8 3 (.int) false := ⟨RX8, TX8, 46, "NuggetCampModel", tyX8, rfl, inA_RX8, by decide, Or.inl ⟨(q4 139 rfl rfl), Or.inl rfl⟩, tyX8_ok, nmX8, rfl, rfl, fun h => absurd h (by decide)⟩
theorem f_X8_19 : FL RX8 19 8 4 (.int) false := ⟨RX8, TX8, 46, "NuggetCampModel", tyX8, rfl, inA_RX8, by decide, Or.inl ⟨(q4 140 rfl rfl), Or.inl rfl⟩, tyX8_ok, nmX8, rfl, rfl, fun h => absurd h (by decide)⟩
theorem f_X8_22 : FL RX8 22 8 5 (.int) false := ⟨RX8, TX8, 46, "NuggetCampModel", tyX8, rfl, inA_RX8, by decide, Or.inl ⟨(q4 141 rfl rfl), Or.inl rfl⟩, tyX8_ok, nmX8, rfl, rfl, fun h => absurd h (by decide)⟩
theorem f_X8_25 : FL RX8 25 8 9 (.array .int) true := ⟨RX8, TX8, 46, "NuggetCampModel", tyX8, rfl, inA_RX8, by decide, Or.inl ⟨(q4 145 rfl rfl), Or.inl rfl⟩, tyX8_ok, nmX8, rfl, rfl, fun _ => rfl⟩
theorem f_X8_29 : FL RX8 29 8 10 (.array .int) true := ⟨RX8, TX8, 46, "NuggetCampModel", tyX8, rfl, inA_RX8, by decide, Or.inl ⟨(q4 146 rfl rfl), Or.inl rfl⟩, tyX8_ok, nmX8, rfl, rfl, fun _ => rfl⟩
theorem f_X8_32 : FL RX8 32 8 11 (.array .int) true := ⟨RX8, TX8, 46, "NuggetCampModel", tyX8, rfl, inA_RX8, by decide, Or.inl ⟨(q4 147 rfl rfl), Or.inl rfl⟩, tyX8_ok, nmX8, rfl, rfl, fun _ => rfl⟩
theorem f_X8_35 : FL RX8 35 8 13 (.array .int) true := ⟨RX8, TX8, 46, "NuggetCampModel", tyX8, rfl, inA_RX8, by decide, Or.inl ⟨(q4 149 rfl rfl), Or.inl rfl⟩, tyX8_ok, nmX8, rfl, rfl, fun _ => rfl⟩
theorem f_X8_38 : FL RX8 38 8 14 (.array .int) true := ⟨RX8, TX8, 46, "NuggetCampModel", tyX8, rfl, inA_RX8, by decide, Or.inl ⟨(q4 150 rfl rfl), Or.inl rfl⟩, tyX8_ok, nmX8, rfl, rfl, fun _ => rfl⟩
theorem f_X8_41 : FL RX8 41 8 15 (.array .int) true := ⟨RX8, TX8, 46, "NuggetCampModel", tyX8, rfl, inA_RX8, by decide, Or.inl ⟨(q4 151 rfl rfl), Or.inl rfl⟩, tyX8_ok, nmX8, rfl, rfl, fun _ => rfl⟩
theorem f_X8_44 : FL RX8 44 8 16 (.array .int) true := ⟨RX8, TX8, 46, "NuggetCampModel", tyX8, rfl, inA_RX8, by decide, Or.inl ⟨(q4 152 rfl rfl), Or.inl rfl⟩, tyX8_ok, nmX8, rfl, rfl, fun _ => rfl⟩
theorem f_X8_47 : FL RX8 47 8 17 (.array .int) true := ⟨RX8, TX8, 46, "NuggetCampModel", tyX8, rfl, inA_RX8, by decide, Or.inl ⟨(q4 153 rfl rfl), Or.inl rfl⟩, tyX8_ok, nmX8, rfl, rfl, fun _ => rfl⟩
theorem f_X8_50 : FL RX8 50 8 18 (.array .int) true := ⟨RX8, TX8, 46, "NuggetCampModel", tyX8, rfl, inA_RX8, by decide, Or.inl ⟨(q4 154 rfl rfl), Or.inl rfl⟩, tyX8_ok, nmX8, rfl, rfl, fun _ => rfl⟩
theorem f_X8_53 : FL RX8 53 8 19 (.array .int) true := ⟨RX8, TX8, 46, "NuggetCampModel", tyX8, rfl, inA_RX8, by decide, Or.inl ⟨(q4 155 rfl rfl), Or.inl rfl⟩, tyX8_ok, nmX8, rfl, rfl, fun _ => rfl⟩
theorem f_X8_56 : FL RX8 56 8 20 (.array .int) true := ⟨RX8, TX8, 46, "NuggetCampModel", tyX8, rfl, inA_RX8, by decide, Or.inl ⟨(q4 156 rfl rfl), Or.inl rfl⟩, tyX8_ok, nmX8, rfl, rfl, fun _ => rfl⟩
theorem f_X8_59 : FL RX8 59 8 22 (.array .int) true := ⟨RX8, TX8, 46, "NuggetCampModel", tyX8, rfl, inA_RX8, by decide, Or.inl ⟨(q4 158 rfl rfl), Or.inl rfl⟩, tyX8_ok, nmX8, rfl, rfl, fun _ => rfl⟩
theorem f_X8_62 : FL RX8 62 8 23 (.array .int) true := ⟨RX8, TX8, 46, "NuggetCampModel", tyX8, rfl, inA_RX8, by decide, Or.inl ⟨(q4 159 rfl rfl), Or.inl rfl⟩, tyX8_ok, nmX8, rfl, rfl, fun _ => rfl⟩
theorem f_X8_65 : FL RX8 65 8 24 (.array .int) true := ⟨RX8, TX8, 46, "NuggetCampModel", tyX8, rfl, inA_RX8, by decide, Or.inl ⟨(q4 160 rfl rfl), Or.inl rfl⟩, tyX8_ok, nmX8, rfl, rfl, fun _ => rfl⟩
theorem f_X8_68 : FL RX8 68 8 25 (.array .boolean) true := ⟨RX8, TX8, 46, "NuggetCampModel", tyX8, rfl, inA_RX8, by decide, Or.inl ⟨(q4 161 rfl rfl), Or.inl rfl⟩, tyX8_ok, nmX8, rfl, rfl, fun _ => rfl⟩
theorem f_X8_72 : FL RX8 72 8 26 (.array .int) true := ⟨RX8, TX8, 46, "NuggetCampModel", tyX8, rfl, inA_RX8, by decide, Or.inl ⟨(q4 162 rfl rfl), Or.inl rfl⟩, tyX8_ok, nmX8, rfl, rfl, fun _ => rfl⟩
theorem f_X8_75 : FL RX8 75 8 27 (.array .int) true := ⟨RX8, TX8, 46, "NuggetCampModel", tyX8, rfl, inA_RX8, by decide, Or.inl ⟨(q4 163 rfl rfl), Or.inl rfl⟩, tyX8_ok, nmX8, rfl, rfl, fun _ => rfl⟩
theorem f_X8_78 : FL RX8 78 8 28 (.array .boolean) true := ⟨RX8, TX8, 46, "NuggetCampModel", tyX8, rfl, inA_RX8, by decide, Or.inl ⟨(q4 164 rfl rfl), Or.inl rfl⟩, tyX8_ok, nmX8, rfl, rfl, fun _ => rfl⟩
theorem f_X8_81 : FL RX8 81 8 29 (.array .int) true := ⟨RX8, TX8, 46, "NuggetCampModel", tyX8, rfl, inA_RX8, by decide, Or.inl ⟨(q4 165 rfl rfl), Or.inl rfl⟩, tyX8_ok, nmX8, rfl, rfl, fun _ => rfl⟩
theorem f_X8_84 : FL RX8 84 8 30 (.array .int) true := ⟨RX8, TX8, 46, "NuggetCampModel", tyX8, rfl, inA_RX8, by decide, Or.inl ⟨(q4 166 rfl rfl), Or.inl rfl⟩, tyX8_ok, nmX8, rfl, rfl, fun _ => rfl⟩
theorem f_X8_87 : FL RX8 87 8 31 (.array .int) true := ⟨RX8, TX8, 46, "NuggetCampModel", tyX8, rfl, inA_RX8, by decide, Or.inl ⟨(q4 167 rfl rfl), Or.inl rfl⟩, tyX8_ok, nmX8, rfl, rfl, fun _ => rfl⟩
theorem f_X8_90 : FL RX8 90 8 32 (.array .int) true := ⟨RX8, TX8, 46, "NuggetCampModel", tyX8, rfl, inA_RX8, by decide, Or.inl ⟨(q4 168 rfl rfl), Or.inl rfl⟩, tyX8_ok, nmX8, rfl, rfl, fun _ => rfl⟩
theorem f_X8_93 : FL RX8 93 8 34 (.array .int) true := ⟨RX8, TX8, 46, "NuggetCampModel", tyX8, rfl, inA_RX8, by decide, Or.inl ⟨(q4 170 rfl rfl), Or.inl rfl⟩, tyX8_ok, nmX8, rfl, rfl, fun _ => rfl⟩
theorem f_X8_96 : FL RX8 96 8 35 (.array .int) true := ⟨RX8, TX8, 46, "NuggetCampModel", tyX8, rfl, inA_RX8, by decide, Or.inl ⟨(q4 171 rfl rfl), Or.inl rfl⟩, tyX8_ok, nmX8, rfl, rfl, fun _ => rfl⟩
theorem f_X8_99 : FL RX8 99 8 37 (.array .int) true := ⟨RX8, TX8, 46, "NuggetCampModel", tyX8, rfl, inA_RX8, by decide, Or.inl ⟨(q4 173 rfl rfl), Or.inl rfl⟩, tyX8_ok, nmX8, rfl, rfl, fun _ => rfl⟩
theorem f_X8_102 : FL RX8 102 8 38 (.array .int) true := ⟨RX8, TX8, 46, "NuggetCampModel", tyX8, rfl, inA_RX8, by decide, Or.inl ⟨(q4 174 rfl rfl), Or.inl rfl⟩, tyX8_ok, nmX8, rfl, rfl, fun _ => rfl⟩
theorem f_X8_105 : FL RX8 105 8 40 (.array .int) true := ⟨RX8, TX8, 46, "NuggetCampModel", tyX8, rfl, inA_RX8, by decide, Or.inl ⟨(q4 176 rfl rfl), Or.inl rfl⟩, tyX8_ok, nmX8, rfl, rfl, fun _ => rfl⟩
theorem f_X8_108 : FL RX8 108 8 41 (.array .int) true := ⟨RX8, TX8, 46, "NuggetCampModel", tyX8, rfl, inA_RX8, by decide, Or.inl ⟨(q4 177 rfl rfl), Or.inl rfl⟩, tyX8_ok, nmX8, rfl, rfl, fun _ => rfl⟩
theorem f_X8_111 : FL RX8 111 8 42 (.array .int) true := ⟨RX8, TX8, 46, "NuggetCampModel", tyX8, rfl, inA_RX8, by decide, Or.inl ⟨(q4 178 rfl rfl), Or.inl rfl⟩, tyX8_ok, nmX8, rfl, rfl, fun _ => rfl⟩
theorem f_X8_114 : FL RX8 114 8 43 (.array .int) true := ⟨RX8, TX8, 46, "NuggetCampModel", tyX8, rfl, inA_RX8, by decide, Or.inl ⟨(q4 179 rfl rfl), Or.inl rfl⟩, tyX8_ok, nmX8, rfl, rfl, fun _ => rfl⟩
theorem f_X8_117 : FL RX8 117 8 44 (.array .int) true := ⟨RX8, TX8, 46, "NuggetCampModel", tyX8, rfl, inA_RX8, by decide, Or.inl ⟨(q4 180 rfl rfl), Or.inl rfl⟩, tyX8_ok, nmX8, rfl, rfl, fun _ => rfl⟩
theorem f_X8_120 : FL RX8 120 8 45 (.int) false := ⟨RX8, TX8, 46, "NuggetCampModel", tyX8, rfl, inA_RX8, by decide, Or.inl ⟨(q4 181 rfl rfl), Or.inl rfl⟩, tyX8_ok, nmX8, rfl, rfl, fun h => absurd h (by decide)⟩
theorem f_X8_127 : FL RX8 127 8 12 (.int) false := ⟨RX8, TX8, 46, "NuggetCampModel", tyX8, rfl, inA_RX8, by decide, Or.inl ⟨(q4 148 rfl rfl), Or.inl rfl⟩, tyX8_ok, nmX8, rfl, rfl, fun h => absurd h (by decide)⟩
theorem f_X8_130 : FL RX8 130 8 21 (.int) false := ⟨RX8, TX8, 46, "NuggetCampModel", tyX8, rfl, inA_RX8, by decide, Or.inl ⟨(q4 157 rfl rfl), Or.inl rfl⟩, tyX8_ok, nmX8, rfl, rfl, fun h => absurd h (by decide)⟩
theorem f_X8_138 : FL RX8 138 8 0 (.int) false := ⟨RX8, TX8, 46, "NuggetCampModel", tyX8, rfl, inA_RX8, by decide, Or.inl ⟨(q4 136 rfl rfl), Or.inl rfl⟩, tyX8_ok, nmX8, rfl, rfl, fun h => absurd h (by decide)⟩
theorem f_X8_141 : FL RX8 141 8 8 (.boolean) false := ⟨RX8, TX8, 46, "NuggetCampModel", tyX8, rfl, inA_RX8, by decide, Or.inl ⟨(q4 144 rfl rfl), Or.inl rfl⟩, tyX8_ok, nmX8, rfl, rfl, fun h => absurd h (by decide)⟩
theorem f_X8_152 : FL RX8 152 8 36 (.int) false := ⟨RX8, TX8, 46, "NuggetCampModel", tyX8, rfl, inA_RX8, by decide, Or.inl ⟨(q4 172 rfl rfl), Or.inl rfl⟩, tyX8_ok, nmX8, rfl, rfl, fun h => absurd h (by decide)⟩
theorem f_X8_183 : FL RX8 183 8 33 (.int) false := ⟨RX8, TX8, 46, "NuggetCampModel", tyX8, rfl, inA_RX8, by decide, Or.inl ⟨(q4 169 rfl rfl), Or.inl rfl⟩, tyX8_ok, nmX8, rfl, rfl, fun h => absurd h (by decide)⟩
theorem f_X8_208 : FL RX8 208 8 6 (.int) false := ⟨RX8, TX8, 46, "NuggetCampModel", tyX8, rfl, inA_RX8, by decide, Or.inl ⟨(q4 142 rfl rfl), Or.inl rfl⟩, tyX8_ok, nmX8, rfl, rfl, fun h => absurd h (by decide)⟩
theorem f_X8_215 : FL RX8 215 8 39 (.int) false := ⟨RX8, TX8, 46, "NuggetCampModel", tyX8, rfl, inA_RX8, by decide, Or.inl ⟨(q4 175 rfl rfl), Or.inl rfl⟩, tyX8_ok, nmX8, rfl, rfl, fun h => absurd h (by decide)⟩
theorem f_X8_219 : FL RX8 219 8 7 (.int) false := ⟨RX8, TX8, 46, "NuggetCampModel", tyX8, rfl, inA_RX8, by decide, Or.inl ⟨(q4 143 rfl rfl), Or.inl rfl⟩, tyX8_ok, nmX8, rfl, rfl, fun h => absurd h (by decide)⟩
