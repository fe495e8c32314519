section
-- ===== PART A: goes FIRST, ahead of the names: the tables' words, and 'selects' of the private methods out of them =====
/-- a private method of a class that the tables say can be made, by its rows of tables_1 -/
def lw_okq (q : MethodName × Nat) : Prop := (q.1.cls ≠ "java/lang/invoke/MethodHandle" ∧ q.1.cls ≠ "java/lang/invoke/VarHandle") ∧ Cond.instantiable q.1.cls q.2 ∈ tables_1 ∧ Cond.privateMethod q.1 ∈ tables_1 ∧ Cond.instanceMethod q.1 ∈ tables_1
theorem lw_p0 : lw_okq (⟨"java/lang/Throwable", "fillInStackTrace", "(I)Ljava/lang/Throwable;"⟩, 6) := ⟨⟨by decide +kernel, by decide +kernel⟩, List.mem_of_getElem? (i := 208) (by decide +kernel), List.mem_of_getElem? (i := 206) (by decide +kernel), List.mem_of_getElem? (i := 207) (by decide +kernel)⟩
theorem lw_p1 : lw_okq (⟨"java/util/ArrayList", "add", "(Ljava/lang/Object;[Ljava/lang/Object;I)V"⟩, 3) := ⟨⟨by decide +kernel, by decide +kernel⟩, List.mem_of_getElem? (i := 84) (by decide +kernel), List.mem_of_getElem? (i := 352) (by decide +kernel), List.mem_of_getElem? (i := 353) (by decide +kernel)⟩
theorem lw_p2 : lw_okq (⟨"java/util/ArrayList", "grow", "()[Ljava/lang/Object;"⟩, 3) := ⟨⟨by decide +kernel, by decide +kernel⟩, List.mem_of_getElem? (i := 84) (by decide +kernel), List.mem_of_getElem? (i := 356) (by decide +kernel), List.mem_of_getElem? (i := 357) (by decide +kernel)⟩
theorem lw_p3 : lw_okq (⟨"java/util/ArrayList", "grow", "(I)[Ljava/lang/Object;"⟩, 3) := ⟨⟨by decide +kernel, by decide +kernel⟩, List.mem_of_getElem? (i := 84) (by decide +kernel), List.mem_of_getElem? (i := 360) (by decide +kernel), List.mem_of_getElem? (i := 361) (by decide +kernel)⟩
theorem lw_p4 : lw_okq (⟨"NuggetCamp", "passOneDay", "()V"⟩, 12) := ⟨⟨by decide +kernel, by decide +kernel⟩, List.mem_of_getElem? (i := 27) (by decide +kernel), List.mem_of_getElem? (i := 415) (by decide +kernel), List.mem_of_getElem? (i := 416) (by decide +kernel)⟩
theorem lw_p5 : lw_okq (⟨"NuggetCamp", "lapseIfDue", "(LNuggetCamp$Claim;)V"⟩, 12) := ⟨⟨by decide +kernel, by decide +kernel⟩, List.mem_of_getElem? (i := 27) (by decide +kernel), List.mem_of_getElem? (i := 453) (by decide +kernel), List.mem_of_getElem? (i := 454) (by decide +kernel)⟩
theorem lw_p6 : lw_okq (⟨"NuggetCamp", "isDead", "(I)Z"⟩, 12) := ⟨⟨by decide +kernel, by decide +kernel⟩, List.mem_of_getElem? (i := 27) (by decide +kernel), List.mem_of_getElem? (i := 457) (by decide +kernel), List.mem_of_getElem? (i := 458) (by decide +kernel)⟩
theorem lw_p7 : lw_okq (⟨"NuggetCamp", "isMiner", "(I)Z"⟩, 12) := ⟨⟨by decide +kernel, by decide +kernel⟩, List.mem_of_getElem? (i := 27) (by decide +kernel), List.mem_of_getElem? (i := 461) (by decide +kernel), List.mem_of_getElem? (i := 462) (by decide +kernel)⟩
theorem lw_p8 : lw_okq (⟨"NuggetCamp", "livingMiners", "()I"⟩, 12) := ⟨⟨by decide +kernel, by decide +kernel⟩, List.mem_of_getElem? (i := 27) (by decide +kernel), List.mem_of_getElem? (i := 473) (by decide +kernel), List.mem_of_getElem? (i := 474) (by decide +kernel)⟩
theorem lw_p9 : lw_okq (⟨"NuggetCamp", "minerAt", "(I)LNuggetCamp$Miner;"⟩, 12) := ⟨⟨by decide +kernel, by decide +kernel⟩, List.mem_of_getElem? (i := 27) (by decide +kernel), List.mem_of_getElem? (i := 484) (by decide +kernel), List.mem_of_getElem? (i := 485) (by decide +kernel)⟩
theorem lw_p10 : lw_okq (⟨"NuggetCamp", "areFree", "(II)Z"⟩, 12) := ⟨⟨by decide +kernel, by decide +kernel⟩, List.mem_of_getElem? (i := 27) (by decide +kernel), List.mem_of_getElem? (i := 489) (by decide +kernel), List.mem_of_getElem? (i := 490) (by decide +kernel)⟩
theorem lw_p11 : lw_okq (⟨"NuggetCamp", "claimHolding", "(I)I"⟩, 12) := ⟨⟨by decide +kernel, by decide +kernel⟩, List.mem_of_getElem? (i := 27) (by decide +kernel), List.mem_of_getElem? (i := 493) (by decide +kernel), List.mem_of_getElem? (i := 494) (by decide +kernel)⟩
theorem lw_p12 : lw_okq (⟨"NuggetCamp", "mayUse", "(LNuggetCamp$Gear;II)Z"⟩, 12) := ⟨⟨by decide +kernel, by decide +kernel⟩, List.mem_of_getElem? (i := 27) (by decide +kernel), List.mem_of_getElem? (i := 586) (by decide +kernel), List.mem_of_getElem? (i := 587) (by decide +kernel)⟩
theorem lw_p13 : lw_okq (⟨"NuggetCamp", "claimAt", "(I)LNuggetCamp$Claim;"⟩, 12) := ⟨⟨by decide +kernel, by decide +kernel⟩, List.mem_of_getElem? (i := 27) (by decide +kernel), List.mem_of_getElem? (i := 592) (by decide +kernel), List.mem_of_getElem? (i := 593) (by decide +kernel)⟩
theorem lw_p14 : lw_okq (⟨"NuggetCamp", "inchesOfMiner", "(I)I"⟩, 12) := ⟨⟨by decide +kernel, by decide +kernel⟩, List.mem_of_getElem? (i := 27) (by decide +kernel), List.mem_of_getElem? (i := 597) (by decide +kernel), List.mem_of_getElem? (i := 598) (by decide +kernel)⟩
theorem lw_p15 : lw_okq (⟨"NuggetCamp", "inchesOfRight", "(I)I"⟩, 12) := ⟨⟨by decide +kernel, by decide +kernel⟩, List.mem_of_getElem? (i := 27) (by decide +kernel), List.mem_of_getElem? (i := 601) (by decide +kernel), List.mem_of_getElem? (i := 602) (by decide +kernel)⟩
def lw_privs_1 : List (MethodName × Nat) := [(⟨"java/lang/Throwable", "fillInStackTrace", "(I)Ljava/lang/Throwable;"⟩, 6), (⟨"java/util/ArrayList", "add", "(Ljava/lang/Object;[Ljava/lang/Object;I)V"⟩, 3), (⟨"java/util/ArrayList", "grow", "()[Ljava/lang/Object;"⟩, 3), (⟨"java/util/ArrayList", "grow", "(I)[Ljava/lang/Object;"⟩, 3), (⟨"NuggetCamp", "passOneDay", "()V"⟩, 12), (⟨"NuggetCamp", "lapseIfDue", "(LNuggetCamp$Claim;)V"⟩, 12), (⟨"NuggetCamp", "isDead", "(I)Z"⟩, 12), (⟨"NuggetCamp", "isMiner", "(I)Z"⟩, 12), (⟨"NuggetCamp", "livingMiners", "()I"⟩, 12), (⟨"NuggetCamp", "minerAt", "(I)LNuggetCamp$Miner;"⟩, 12), (⟨"NuggetCamp", "areFree", "(II)Z"⟩, 12), (⟨"NuggetCamp", "claimHolding", "(I)I"⟩, 12), (⟨"NuggetCamp", "mayUse", "(LNuggetCamp$Gear;II)Z"⟩, 12), (⟨"NuggetCamp", "claimAt", "(I)LNuggetCamp$Claim;"⟩, 12), (⟨"NuggetCamp", "inchesOfMiner", "(I)I"⟩, 12), (⟨"NuggetCamp", "inchesOfRight", "(I)I"⟩, 12)]
theorem lw_r1 : ∀ q ∈ lw_privs_1, lw_okq q := List.forall_mem_cons.mpr ⟨lw_p0, List.forall_mem_cons.mpr ⟨lw_p1, List.forall_mem_cons.mpr ⟨lw_p2, List.forall_mem_cons.mpr ⟨lw_p3, List.forall_mem_cons.mpr ⟨lw_p4, List.forall_mem_cons.mpr ⟨lw_p5, List.forall_mem_cons.mpr ⟨lw_p6, List.forall_mem_cons.mpr ⟨lw_p7, List.forall_mem_cons.mpr ⟨lw_p8, List.forall_mem_cons.mpr ⟨lw_p9, List.forall_mem_cons.mpr ⟨lw_p10, List.forall_mem_cons.mpr ⟨lw_p11, List.forall_mem_cons.mpr ⟨lw_p12, List.forall_mem_cons.mpr ⟨lw_p13, List.forall_mem_cons.mpr ⟨lw_p14, List.forall_mem_cons.mpr ⟨lw_p15, fun _ h => absurd h List.not_mem_nil⟩⟩⟩⟩⟩⟩⟩⟩⟩⟩⟩⟩⟩⟩⟩⟩
theorem lw_p16 : lw_okq (⟨"NuggetCamp", "shareOut", "(LNuggetCamp$Miner;I)V"⟩, 12) := ⟨⟨by decide +kernel, by decide +kernel⟩, List.mem_of_getElem? (i := 27) (by decide +kernel), List.mem_of_getElem? (i := 624) (by decide +kernel), List.mem_of_getElem? (i := 625) (by decide +kernel)⟩
theorem lw_p17 : lw_okq (⟨"NuggetCamp", "spoilSalesOfToday", "(II)V"⟩, 12) := ⟨⟨by decide +kernel, by decide +kernel⟩, List.mem_of_getElem? (i := 27) (by decide +kernel), List.mem_of_getElem? (i := 651) (by decide +kernel), List.mem_of_getElem? (i := 652) (by decide +kernel)⟩
theorem lw_p18 : lw_okq (⟨"NuggetCamp", "goldOfMiners", "()I"⟩, 12) := ⟨⟨by decide +kernel, by decide +kernel⟩, List.mem_of_getElem? (i := 27) (by decide +kernel), List.mem_of_getElem? (i := 815) (by decide +kernel), List.mem_of_getElem? (i := 816) (by decide +kernel)⟩
theorem lw_p19 : lw_okq (⟨"NuggetCampModel", "holdsTo", "(I)Z"⟩, 46) := ⟨⟨by decide +kernel, by decide +kernel⟩, List.mem_of_getElem? (i := 851) (by decide +kernel), List.mem_of_getElem? (i := 1012) (by decide +kernel), List.mem_of_getElem? (i := 1013) (by decide +kernel)⟩
theorem lw_p20 : lw_okq (⟨"NuggetCampModel", "goesBy", "()V"⟩, 46) := ⟨⟨by decide +kernel, by decide +kernel⟩, List.mem_of_getElem? (i := 851) (by decide +kernel), List.mem_of_getElem? (i := 1028) (by decide +kernel), List.mem_of_getElem? (i := 1029) (by decide +kernel)⟩
theorem lw_p21 : lw_okq (⟨"NuggetCampModel", "isDead", "(I)Z"⟩, 46) := ⟨⟨by decide +kernel, by decide +kernel⟩, List.mem_of_getElem? (i := 851) (by decide +kernel), List.mem_of_getElem? (i := 1032) (by decide +kernel), List.mem_of_getElem? (i := 1033) (by decide +kernel)⟩
theorem lw_p22 : lw_okq (⟨"NuggetCampModel", "eats", "(I)V"⟩, 46) := ⟨⟨by decide +kernel, by decide +kernel⟩, List.mem_of_getElem? (i := 851) (by decide +kernel), List.mem_of_getElem? (i := 1036) (by decide +kernel), List.mem_of_getElem? (i := 1037) (by decide +kernel)⟩
theorem lw_p23 : lw_okq (⟨"NuggetCampModel", "arrives", "()V"⟩, 46) := ⟨⟨by decide +kernel, by decide +kernel⟩, List.mem_of_getElem? (i := 851) (by decide +kernel), List.mem_of_getElem? (i := 1043) (by decide +kernel), List.mem_of_getElem? (i := 1044) (by decide +kernel)⟩
theorem lw_p24 : lw_okq (⟨"NuggetCampModel", "living", "()I"⟩, 46) := ⟨⟨by decide +kernel, by decide +kernel⟩, List.mem_of_getElem? (i := 851) (by decide +kernel), List.mem_of_getElem? (i := 1051) (by decide +kernel), List.mem_of_getElem? (i := 1052) (by decide +kernel)⟩
theorem lw_p25 : lw_okq (⟨"NuggetCampModel", "isMiner", "(I)Z"⟩, 46) := ⟨⟨by decide +kernel, by decide +kernel⟩, List.mem_of_getElem? (i := 851) (by decide +kernel), List.mem_of_getElem? (i := 1059) (by decide +kernel), List.mem_of_getElem? (i := 1060) (by decide +kernel)⟩
theorem lw_p26 : lw_okq (⟨"NuggetCampModel", "areFree", "(II)Z"⟩, 46) := ⟨⟨by decide +kernel, by decide +kernel⟩, List.mem_of_getElem? (i := 851) (by decide +kernel), List.mem_of_getElem? (i := 1063) (by decide +kernel), List.mem_of_getElem? (i := 1064) (by decide +kernel)⟩
theorem lw_p27 : lw_okq (⟨"NuggetCampModel", "heldAt", "(I)I"⟩, 46) := ⟨⟨by decide +kernel, by decide +kernel⟩, List.mem_of_getElem? (i := 851) (by decide +kernel), List.mem_of_getElem? (i := 1067) (by decide +kernel), List.mem_of_getElem? (i := 1068) (by decide +kernel)⟩
theorem lw_p28 : lw_okq (⟨"NuggetCampModel", "mayWork", "(III)Z"⟩, 46) := ⟨⟨by decide +kernel, by decide +kernel⟩, List.mem_of_getElem? (i := 851) (by decide +kernel), List.mem_of_getElem? (i := 1082) (by decide +kernel), List.mem_of_getElem? (i := 1083) (by decide +kernel)⟩
theorem lw_p29 : lw_okq (⟨"NuggetCampModel", "inchesOf", "(I)I"⟩, 46) := ⟨⟨by decide +kernel, by decide +kernel⟩, List.mem_of_getElem? (i := 851) (by decide +kernel), List.mem_of_getElem? (i := 1086) (by decide +kernel), List.mem_of_getElem? (i := 1087) (by decide +kernel)⟩
theorem lw_p30 : lw_okq (⟨"NuggetCampModel", "getsOf", "(I)I"⟩, 46) := ⟨⟨by decide +kernel, by decide +kernel⟩, List.mem_of_getElem? (i := 851) (by decide +kernel), List.mem_of_getElem? (i := 1090) (by decide +kernel), List.mem_of_getElem? (i := 1091) (by decide +kernel)⟩
theorem lw_p31 : lw_okq (⟨"NuggetCampModel", "shares", "(II)V"⟩, 46) := ⟨⟨by decide +kernel, by decide +kernel⟩, List.mem_of_getElem? (i := 851) (by decide +kernel), List.mem_of_getElem? (i := 1103) (by decide +kernel), List.mem_of_getElem? (i := 1104) (by decide +kernel)⟩
def lw_privs_2 : List (MethodName × Nat) := [(⟨"NuggetCamp", "shareOut", "(LNuggetCamp$Miner;I)V"⟩, 12), (⟨"NuggetCamp", "spoilSalesOfToday", "(II)V"⟩, 12), (⟨"NuggetCamp", "goldOfMiners", "()I"⟩, 12), (⟨"NuggetCampModel", "holdsTo", "(I)Z"⟩, 46), (⟨"NuggetCampModel", "goesBy", "()V"⟩, 46), (⟨"NuggetCampModel", "isDead", "(I)Z"⟩, 46), (⟨"NuggetCampModel", "eats", "(I)V"⟩, 46), (⟨"NuggetCampModel", "arrives", "()V"⟩, 46), (⟨"NuggetCampModel", "living", "()I"⟩, 46), (⟨"NuggetCampModel", "isMiner", "(I)Z"⟩, 46), (⟨"NuggetCampModel", "areFree", "(II)Z"⟩, 46), (⟨"NuggetCampModel", "heldAt", "(I)I"⟩, 46), (⟨"NuggetCampModel", "mayWork", "(III)Z"⟩, 46), (⟨"NuggetCampModel", "inchesOf", "(I)I"⟩, 46), (⟨"NuggetCampModel", "getsOf", "(I)I"⟩, 46), (⟨"NuggetCampModel", "shares", "(II)V"⟩, 46)]
theorem lw_r2 : ∀ q ∈ lw_privs_2, lw_okq q := List.forall_mem_cons.mpr ⟨lw_p16, List.forall_mem_cons.mpr ⟨lw_p17, List.forall_mem_cons.mpr ⟨lw_p18, List.forall_mem_cons.mpr ⟨lw_p19, List.forall_mem_cons.mpr ⟨lw_p20, List.forall_mem_cons.mpr ⟨lw_p21, List.forall_mem_cons.mpr ⟨lw_p22, List.forall_mem_cons.mpr ⟨lw_p23, List.forall_mem_cons.mpr ⟨lw_p24, List.forall_mem_cons.mpr ⟨lw_p25, List.forall_mem_cons.mpr ⟨lw_p26, List.forall_mem_cons.mpr ⟨lw_p27, List.forall_mem_cons.mpr ⟨lw_p28, List.forall_mem_cons.mpr ⟨lw_p29, List.forall_mem_cons.mpr ⟨lw_p30, List.forall_mem_cons.mpr ⟨lw_p31, fun _ h => absurd h List.not_mem_nil⟩⟩⟩⟩⟩⟩⟩⟩⟩⟩⟩⟩⟩⟩⟩⟩
theorem lw_p32 : lw_okq (⟨"NuggetCampModel", "price", "()I"⟩, 46) := ⟨⟨by decide +kernel, by decide +kernel⟩, List.mem_of_getElem? (i := 851) (by decide +kernel), List.mem_of_getElem? (i := 1137) (by decide +kernel), List.mem_of_getElem? (i := 1138) (by decide +kernel)⟩
theorem lw_p33 : lw_okq (⟨"NuggetCampModel", "backed", "(I)I"⟩, 46) := ⟨⟨by decide +kernel, by decide +kernel⟩, List.mem_of_getElem? (i := 851) (by decide +kernel), List.mem_of_getElem? (i := 1145) (by decide +kernel), List.mem_of_getElem? (i := 1146) (by decide +kernel)⟩
theorem lw_p34 : lw_okq (⟨"NuggetCampModel", "isClaim", "(I)Z"⟩, 46) := ⟨⟨by decide +kernel, by decide +kernel⟩, List.mem_of_getElem? (i := 851) (by decide +kernel), List.mem_of_getElem? (i := 1157) (by decide +kernel), List.mem_of_getElem? (i := 1158) (by decide +kernel)⟩
theorem lw_p35 : lw_okq (⟨"NuggetCampModel", "isSalted", "(I)Z"⟩, 46) := ⟨⟨by decide +kernel, by decide +kernel⟩, List.mem_of_getElem? (i := 851) (by decide +kernel), List.mem_of_getElem? (i := 1165) (by decide +kernel), List.mem_of_getElem? (i := 1166) (by decide +kernel)⟩
theorem lw_p36 : lw_okq (⟨"NuggetCampModel", "inGround", "()I"⟩, 46) := ⟨⟨by decide +kernel, by decide +kernel⟩, List.mem_of_getElem? (i := 851) (by decide +kernel), List.mem_of_getElem? (i := 1197) (by decide +kernel), List.mem_of_getElem? (i := 1198) (by decide +kernel)⟩
theorem lw_p37 : lw_okq (⟨"NuggetCampModel", "withMiners", "()I"⟩, 46) := ⟨⟨by decide +kernel, by decide +kernel⟩, List.mem_of_getElem? (i := 851) (by decide +kernel), List.mem_of_getElem? (i := 1201) (by decide +kernel), List.mem_of_getElem? (i := 1202) (by decide +kernel)⟩
theorem lw_p38 : lw_okq (⟨"NuggetCampModel", "asksPlan", "(IIZ)Z"⟩, 46) := ⟨⟨by decide +kernel, by decide +kernel⟩, List.mem_of_getElem? (i := 851) (by decide +kernel), List.mem_of_getElem? (i := 1217) (by decide +kernel), List.mem_of_getElem? (i := 1218) (by decide +kernel)⟩
theorem lw_p39 : lw_okq (⟨"NuggetCampModel", "bestOrder", "(II)I"⟩, 46) := ⟨⟨by decide +kernel, by decide +kernel⟩, List.mem_of_getElem? (i := 851) (by decide +kernel), List.mem_of_getElem? (i := 1221) (by decide +kernel), List.mem_of_getElem? (i := 1222) (by decide +kernel)⟩
theorem lw_p40 : lw_okq (⟨"NuggetCampModel", "laysOrder", "(II)V"⟩, 46) := ⟨⟨by decide +kernel, by decide +kernel⟩, List.mem_of_getElem? (i := 851) (by decide +kernel), List.mem_of_getElem? (i := 1228) (by decide +kernel), List.mem_of_getElem? (i := 1229) (by decide +kernel)⟩
theorem lw_p41 : lw_okq (⟨"NuggetCampModel", "digs", "(II)I"⟩, 46) := ⟨⟨by decide +kernel, by decide +kernel⟩, List.mem_of_getElem? (i := 851) (by decide +kernel), List.mem_of_getElem? (i := 1232) (by decide +kernel), List.mem_of_getElem? (i := 1233) (by decide +kernel)⟩
def lw_privs_3 : List (MethodName × Nat) := [(⟨"NuggetCampModel", "price", "()I"⟩, 46), (⟨"NuggetCampModel", "backed", "(I)I"⟩, 46), (⟨"NuggetCampModel", "isClaim", "(I)Z"⟩, 46), (⟨"NuggetCampModel", "isSalted", "(I)Z"⟩, 46), (⟨"NuggetCampModel", "inGround", "()I"⟩, 46), (⟨"NuggetCampModel", "withMiners", "()I"⟩, 46), (⟨"NuggetCampModel", "asksPlan", "(IIZ)Z"⟩, 46), (⟨"NuggetCampModel", "bestOrder", "(II)I"⟩, 46), (⟨"NuggetCampModel", "laysOrder", "(II)V"⟩, 46), (⟨"NuggetCampModel", "digs", "(II)I"⟩, 46)]
theorem lw_r3 : ∀ q ∈ lw_privs_3, lw_okq q := List.forall_mem_cons.mpr ⟨lw_p32, List.forall_mem_cons.mpr ⟨lw_p33, List.forall_mem_cons.mpr ⟨lw_p34, List.forall_mem_cons.mpr ⟨lw_p35, List.forall_mem_cons.mpr ⟨lw_p36, List.forall_mem_cons.mpr ⟨lw_p37, List.forall_mem_cons.mpr ⟨lw_p38, List.forall_mem_cons.mpr ⟨lw_p39, List.forall_mem_cons.mpr ⟨lw_p40, List.forall_mem_cons.mpr ⟨lw_p41, fun _ h => absurd h List.not_mem_nil⟩⟩⟩⟩⟩⟩⟩⟩⟩⟩
def lw_privs : List (MethodName × Nat) := lw_privs_1 ++ (lw_privs_2 ++ (lw_privs_3))
def lw_tbl : List Cond := k2_sels lw_privs ++ tables_1
theorem lw_privs_ok : ∀ q ∈ lw_privs, lw_okq q := by
  show ∀ q ∈ lw_privs_1 ++ (lw_privs_2 ++ (lw_privs_3)), lw_okq q
  exact List.forall_mem_append.mpr ⟨lw_r1, List.forall_mem_append.mpr ⟨lw_r2, lw_r3⟩⟩
/-! ===== BEGIN words of one list among another's, by their places ===== -/
theorem goodIn_r {big : List Cond} (ws : List Cond) (ps : List Nat) (hp : ws = ps.filterMap (fun i => big[i]?)) (h : ws.all goodWord = true) : GoodIn big ws := by
  intro w hw
  have h1 := List.all_eq_true.mp h w hw
  rw [hp] at hw
  obtain ⟨i, -, hi⟩ := List.mem_filterMap.mp hw
  have hm : w ∈ big := by first | exact List.mem_of_getElem? hi | exact List.getElem?_mem hi
  exact ⟨hm, good_of_word h1⟩
theorem goodIn_app {big a b : List Cond} (ha : GoodIn big a) (hb : GoodIn big b) : GoodIn big (a ++ b) := fun w h => (List.mem_append.mp h).elim (ha w) (hb w)
theorem goodIn_ca {big a b : List Cond} {c : Cond} (ha : GoodIn big (c :: a)) (hb : GoodIn big b) : GoodIn big (c :: (a ++ b)) := fun w h => (List.mem_cons.mp h).elim (fun e => ha w (List.mem_cons.mpr (Or.inl e))) (fun h => (List.mem_append.mp h).elim (fun h => ha w (List.mem_cons.mpr (Or.inr h))) (hb w))
theorem goodIn_sub {big ws : List Cond} (hm : ∀ w ∈ ws, w ∈ big) (h : ws.all goodWord = true) : GoodIn big ws := fun w hw => ⟨hm w hw, good_of_word (List.all_eq_true.mp h w hw)⟩
/-! ===== END ===== -/

/-! ===== BEGIN exceptions that leave a method, and their catching by the caller (launches without stack traces) ===== -/
section VXA
/-! The laws vx_back, vx_callV, vx_callS, vx_callSW, vx_throw0, vx_throwS follow proofs of the library, with one case more: JvmDerived/Free/Laws.lean (Back.of_free), Shelf42/LK1.lean (callV, callS), Shelf/KitTraced.lean (throwNew0V, throwNewS). -/
/-- where a method has thrown q: the class by its name, the cell, what was written, the world -/
def vx_T (XC : String → State → State → Prop) (st : State) (q : Addr) (t : State) (mc ms : Nat) (free : Addr → Prop) : Prop :=
  ∃ (E : String) (ce : Cell) (L : List Loc), XC E st t ∧ t.heap[q]? = some ce ∧ ce.vm = .none ∧ st.vm.findClass E = some ce.cls ∧ st.WarmedH t.vm ∧ st.sameButNew ({ t with vm := st.vm } : State) L mc ms ∧ ∀ z ∈ L, free z.base
def vx_Q (Qc : Array Value → State → Outcome → State → Prop) (XC : String → State → State → Prop) (mc ms : Nat) (free : Addr → Prop) : Array Value → State → Outcome → State → Prop := fun a st o t =>
  (Qc a st o t ∧ ∃ L, FrameEnd st o t L mc ms ∧ ∀ q ∈ L, free q.base) ∨ ∃ q, o = .threw q ∧ vx_T XC st q t mc ms free
/-- a callee that returns or throws -/
def vx_Met (l : Launch) (y : MethodName) (ws : List Cond) (rm : Room) (Pc : Array Value → State → Prop) (Qc : Array Value → State → Outcome → State → Prop) (XC : String → State → State → Prop) (mc ms : Nat) (free : Addr → Prop) : Prop :=
  MetFree l y (headSpec ws rm) Pc (fun _ _ _ _ _ => True) (vx_Q Qc XC mc ms free)
def vx_Post (XC : String → State → State → Prop) (mc ms : Nat) (free : Addr → Prop) : Pt → Array Value → Addr → Pt → Prop := fun A a q B =>
  ∃ (g : JFrame) (mk : MethodId) (t : State) (L : List Loc) (E : String) (ce : Cell), B.U.heap = t.heap ∧ B.U.vm = t.vm ∧ XC E (A.U.calling g mk a) t ∧ t.heap[q]? = some ce ∧ ce.vm = .none ∧ A.U.vm.findClass E = some ce.cls ∧ B.locs = A.locs ++ L ∧ (∀ z ∈ L, free z.base) ∧ B.cells = A.cells + mc ∧ B.slots = A.slots + ms
def vx_Back (l : Launch) (R : Room) (p : Program) (e : Env) (below : List Frame) (s : State) (sargs : Array Value) (y : MethodName) (len W9 : Nat)
    (Pre : Pt → Array Value → Prop) (Post : Pt → Array Value → Option Value → Pt → Prop) (PostX : Pt → Array Value → Addr → Pt → Prop) : Prop :=
  ∀ (m : MethodId) (meth : Method) (c : Code) (A : Pt) (g : JFrame) (ig : Instr) (mk : MethodId) (a : Array Value),
    Stand p l e R s m sargs below meth c A.U A.locs A.cells A.slots → g.method = m → g.locals.size = c.maxLocals → decode c.code g.pc = .ok (ig, len) →
    2 * g.monitorRoom + (g.stack.map fun v => v.category).sum ≤ W9 → A.U.methodNamed? y = some mk → Pre A a →
    (∃ (v : Option Value) (B : Pt), Stand p l e R s m sargs below meth c B.U B.locs B.cells B.slots ∧ Post A a v B ∧
      Steps p.tables e below (doInvoke e (A.U.setTop g) [] mk a).1 (B.U.setTop { g with pc := g.pc + len, stack := v.toList ++ g.stack })) ∨
    (∃ (q : Addr) (B : Pt), Stand p l e R s m sargs below meth c B.U B.locs B.cells B.slots ∧ PostX A a q B ∧
      Steps p.tables e below (doInvoke e (A.U.setTop g) [] mk a).1 ((B.U.setTop g).pushFrame (.throwing q)))
section Payer
variable {l : Launch} {R : Room} {p : Program} {e : Env} {below : List Frame} {s : State} {sargs : Array Value} {y : MethodName} {len W9 : Nat}
theorem vx_back {ws : List Cond} {rm : Room} {Pc : Array Value → State → Prop} {Qc : Array Value → State → Outcome → State → Prop} {XC : String → State → State → Prop} {mc ms : Nat} {free : Addr → Prop} {bytes : ByteArray} {maxL : Nat} {ret : Option FieldType}
    (hM : vx_Met l y ws rm Pc Qc XC mc ms free) (hblind : FrameBlind Pc) (hrc : rm.cells = mc) (hrs : rm.slots = ms)
    (hframes : rm.frames + 1 ≤ R.frames) (hlocals : W9 + (maxL + 11) + rm.locals ≤ R.locals)
    (hws : ∀ w ∈ ws, ∀ a' U, s.WarmedH U.vm → w.before a' U = true) (hcode : Cond.code y bytes maxL ret ∈ ws) (hinit : ∀ a' U, s.WarmedH U.vm → (Cond.initialized y.cls).before a' U = true) :
    vx_Back l R p e below s sargs y len W9 (PreOf R mc ms Pc) (PostOf Qc mc ms free) (vx_Post XC mc ms free) := by
  intro m meth c A g ig mk a X hg hsize hdg hW hn hp
  have h1 : (headSpec ws rm).pre.before a A.U = true := atoms_intro fun w hw => hws w hw _ _ X.warmed
  have h2 : (Cond.code y bytes maxL ret).before a A.U = true := hws _ hcode _ _ X.warmed
  have h3 : (Cond.initialized y.cls).before a A.U = true := hinit _ _ X.warmed
  have h4 : A.cells + (headSpec ws rm).room.cells ≤ R.cells := by rw [show (headSpec ws rm).room.cells = mc from hrc]; exact hp.1
  have h5 : A.slots + (headSpec ws rm).room.slots ≤ R.slots := by rw [show (headSpec ws rm).room.slots = ms from hrs]; exact hp.2.1
  have hPc : Pc a (A.U.calling g mk a) := hblind _ _ _ _ hp.2.2
  obtain ⟨U, Ls, c0, s0⟩ := A
  dsimp only [Pt.U, Pt.locs, Pt.cells, Pt.slots] at h1 h2 h3 h4 h5 X hn hPc ⊢
  obtain ⟨methY, cY, hmY, hcY, -, hlY, -, -, -, -⟩ := Cond.code_spec hn h2
  obtain ⟨kY, hkY, -⟩ := className_of_methodNamed hn
  have hinitY : kY.init = .initialized := Cond.initialized_spec (findClass_of_methodNamed hn) hkY h3
  have h : At U g.method c below := by rw [hg]; exact X.here
  have hlocals9 : W9 + (maxL + 11) + (headSpec ws rm).room.locals ≤ R.locals := hlocals
  have happ : (headSpec ws rm).appliesLoose y e.platform (U.calling g mk a) = true :=
    Spec.appliesLoose_calling (g := g) h hdg hn hkY hinitY
      (X.room_calling (g := g) (R' := (headSpec ws rm).room) hsize hmY hcY hframes (by rw [hlY]; omega) h4 h5) h1
  obtain ⟨mid, hmid⟩ := h.above
  have hfr : (U.setTop g).frames = (.java g :: mid) ++ below := by rw [State.frames_setTop' g h.top, hmid]; rfl
  obtain ⟨o, s₂, hsteps, -, hend, hq⟩ := Steps.callFree hM p X.admits X.cas X.clock (acts := []) hfr happ hPc trivial
  have hq' : vx_Q Qc XC mc ms free a (U.calling g mk a) o s₂ := hq
  rw [State.frames_setTop' g h.top] at hend
  obtain ⟨g₀, hg0⟩ := Option.isSome_iff_exists.mp h.top
  obtain ⟨r, hr⟩ := State.topJava?_eq_some.mp hg0
  have hr' : (({ U with heap := s₂.heap, slotsUsed := s₂.slotsUsed } : State).setVm s₂.vm).frames = .java g₀ :: r := hr
  rcases hq' with ⟨hqc, L, hfe, hL⟩ | ⟨q, rfl, E, ce, L, hx, hce, hcv, hcl, hW₂, hsm, hL⟩
  · obtain ⟨⟨v, rfl⟩, hW₂, e2, q2, q3, q4, q5, q6⟩ := id hfe
    have e3 : s₂ = ({ (U.calling g mk a).setFrames s₂.frames with heap := s₂.heap, slotsUsed := s₂.slotsUsed } : State).setVm s₂.vm := by
      have : s₂ = ({ s₂ with vm := (U.calling g mk a).vm } : State).setVm s₂.vm := rfl
      rw [e2] at this
      exact this
    obtain ⟨c₂, i₂, len₂, hc₂, hd₂, hf₂⟩ := hend
    have hW' : U.WarmedH s₂.vm := hW₂
    have hcc : c₂ = c := by
      have h1 : s₂.code? g.method = U.code? g.method := by
        rw [State.code?_eq, State.code?_eq, hW'.alike.method?]
      exact Option.some.inj (hc₂.symm.trans (h1.trans h.code))
    subst hcc
    have hlen : len₂ = len := by rw [hdg] at hd₂; cases hd₂; rfl
    subst hlen
    have hs₂ : s₂ = (({ U with heap := s₂.heap, slotsUsed := s₂.slotsUsed } : State).setVm s₂.vm).setTop { g with pc := g.pc + len₂, stack := v.toList ++ g.stack } := by
      refine e3.trans ?_
      rw [hf₂, State.calling_eq h.top, State.setFrames_setFrames, State.setTop_of_frames _ hr', hr]
      rfl
    have hsame : U.sameButNew ({ U with heap := s₂.heap, slotsUsed := s₂.slotsUsed } : State) L mc ms := by
      refine ⟨?_, q2, q3, q4, q5, q6⟩
      obtain ⟨t, ht, -⟩ := State.frames_cons hr
      show ({ U with heap := s₂.heap, slotsUsed := s₂.slotsUsed } : State) = { U.setFrames U.frames with heap := s₂.heap, slotsUsed := s₂.slotsUsed }
      rw [State.setFrames_self ht]
    subst hg
    refine Or.inl ⟨v, ⟨(({ U with heap := s₂.heap, slotsUsed := s₂.slotsUsed } : State).setVm s₂.vm), Ls ++ L, c0 + mc, s0 + ms⟩,
      ⟨X.admits, X.cas, X.clock, X.frames, X.room, X.hears, X.method, X.code, (X.here.setHeapUsed s₂.heap s₂.slotsUsed).setVm hW'.alike, X.tail, State.WarmedH.trans X.warmed hW', X.limits, X.bytes, X.same.trans (hsame.setVm s.vm)⟩,
      ⟨g, mk, s₂, L, rfl, rfl, hqc, rfl, hL, rfl, rfl⟩, ?_⟩
    show Steps p.tables e below _ ((({ U with heap := s₂.heap, slotsUsed := s₂.slotsUsed } : State).setVm s₂.vm).setTop { g with pc := g.pc + len₂, stack := v.toList ++ g.stack })
    rw [← hs₂]
    exact hsteps
  · obtain ⟨e2, q2, q3, q4, q5, q6⟩ := id hsm
    have e3 : s₂ = ({ (U.calling g mk a).setFrames s₂.frames with heap := s₂.heap, slotsUsed := s₂.slotsUsed } : State).setVm s₂.vm := by
      have : s₂ = ({ s₂ with vm := (U.calling g mk a).vm } : State).setVm s₂.vm := rfl
      rw [e2] at this
      exact this
    have hf₂ : s₂.frames = .throwing q :: .java g :: U.frames.tail := hend
    have hW' : U.WarmedH s₂.vm := hW₂
    have hs₂ : s₂ = ((({ U with heap := s₂.heap, slotsUsed := s₂.slotsUsed } : State).setVm s₂.vm).setTop g).pushFrame (.throwing q) := by
      refine e3.trans ?_
      rw [hf₂, State.calling_eq h.top, State.setFrames_setFrames, State.pushFrame, State.frames_setTop _ hr', State.setTop_of_frames _ hr', State.setFrames_setFrames, hr]
      rfl
    have hsame : U.sameButNew ({ U with heap := s₂.heap, slotsUsed := s₂.slotsUsed } : State) L mc ms := by
      refine ⟨?_, q2, q3, q4, q5, q6⟩
      obtain ⟨t, ht, -⟩ := State.frames_cons hr
      show ({ U with heap := s₂.heap, slotsUsed := s₂.slotsUsed } : State) = { U.setFrames U.frames with heap := s₂.heap, slotsUsed := s₂.slotsUsed }
      rw [State.setFrames_self ht]
    subst hg
    refine Or.inr ⟨q, ⟨(({ U with heap := s₂.heap, slotsUsed := s₂.slotsUsed } : State).setVm s₂.vm), Ls ++ L, c0 + mc, s0 + ms⟩,
      ⟨X.admits, X.cas, X.clock, X.frames, X.room, X.hears, X.method, X.code, (X.here.setHeapUsed s₂.heap s₂.slotsUsed).setVm hW'.alike, X.tail, State.WarmedH.trans X.warmed hW', X.limits, X.bytes, X.same.trans (hsame.setVm s.vm)⟩,
      ⟨g, mk, s₂, L, E, ce, rfl, rfl, hx, hce, hcv, hcl, rfl, hL, rfl, rfl⟩, ?_⟩
    show Steps p.tables e below _ (((({ U with heap := s₂.heap, slotsUsed := s₂.slotsUsed } : State).setVm s₂.vm).setTop g).pushFrame (.throwing q))
    rw [← hs₂]
    exact hsteps
end Payer
section Calls
variable {p : Program} {l : Launch} {e : Env} {R : Room} {s : State} {m : MethodId} {args : Array Value} {below : List Frame} {meth : Method} {c : Code} {T : State} {locs : List Loc} {cells slots : Nat}
theorem vx_callV (X : Stand p l e R s m args below meth c T locs cells slots) (hexec : p.tables.exec = Jvm.exec) {own C : String} {index : Nat} {y : MethodName} {bytes : ByteArray} {maxL : Nat} {ret : Option FieldType}
    (hown : s.vm.findClass own = some m.cls) (hlink : (Cond.methodLink own index y).before args s = true) (hinst : (Cond.instanceMethod y).before args s = true) (hsel : (Cond.selects C y y).before args s = true)
    (hcode : (Cond.code y bytes maxL ret).before args s = true) (hy : y.cls ≠ "java/lang/invoke/MethodHandle" ∧ y.cls ≠ "java/lang/invoke/VarHandle")
    {W9 : Nat} {Pre : Pt → Array Value → Prop} {Post : Pt → Array Value → Option Value → Pt → Prop} {PostX : Pt → Array Value → Addr → Pt → Prop} (hK : vx_Back l R p e below s args y 3 W9 Pre Post PostX)
    {b : Addr} {cellB : Cell} (hcell : T.heap[b]? = some cellB) (hobj : cellB.vm.isStatics = false) (hcls : s.vm.findClass C = some cellB.cls)
    {g : JFrame} (hg : g.method = m) (hsize : g.locals.size = c.maxLocals) {argsL rest : List Value} (hlen : ∀ sig, parseMethodDescriptor y.desc = some sig → argsL.length = sig.parameters.length)
    (hstack : g.stack = argsL.reverse ++ .ref b :: rest) (hW : 2 * g.monitorRoom + (rest.map fun v => v.category).sum ≤ W9) (hdg : decode c.code g.pc = .ok (.invokevirtual index, 3))
    (hpre : ∀ vm₁, s.WarmedH vm₁ → Pre ⟨T.setVm vm₁, locs, cells, slots⟩ (Value.ref b :: argsL).toArray) :
    (∃ (v : Option Value) (vm₁ : Vm) (B : Pt), s.WarmedH vm₁ ∧ Stand p l e R s m args below meth c B.U B.locs B.cells B.slots ∧ Post ⟨T.setVm vm₁, locs, cells, slots⟩ (Value.ref b :: argsL).toArray v B ∧
      ∀ target, Steps p.tables e below (B.U.setTop { g with pc := g.pc + 3, stack := v.toList ++ rest }) target → Steps p.tables e below (T.setTop g) target) ∨
    (∃ (q : Addr) (vm₁ : Vm) (B : Pt), s.WarmedH vm₁ ∧ Stand p l e R s m args below meth c B.U B.locs B.cells B.slots ∧ PostX ⟨T.setVm vm₁, locs, cells, slots⟩ (Value.ref b :: argsL).toArray q B ∧
      Steps p.tables e below (T.setTop g) ((B.U.setTop { g with stack := rest }).pushFrame (.throwing q))) := by
  obtain ⟨mk, methM, hnamed, hmethM, hstM, habM⟩ := Cond.instanceMethod_spec hinst
  obtain ⟨methM', cM, hmethM', -, -, -, -, -, -, hsigM⟩ := Cond.code_spec hnamed hcode
  cases hmethM.symm.trans hmethM'
  obtain ⟨c2, r2, m2, q1, q2, q3, q4, kP, hkP, hkPi⟩ := Cond.selects_spec hsel
  cases hcls.symm.trans q1
  cases (State.methodFound?_of_named hnamed hy).symm.trans q2
  cases hnamed.symm.trans q3
  have hselP : selectMethod e.platform s.vm cellB.cls mk = .method mk := by rw [Launch.admits_selectMethod X.admits]; exact q4
  obtain ⟨vm₁, X₁, hstep₁⟩ := X.invokevirtual hexec hown hlink hnamed hmethM hstM hkP hkPi hy (a := b) (cell := cellB) hcell
    (fun z h => by rw [h] at hobj; cases hobj) hselP hmethM habM hkP hkPi (g := g) hg (argsL := argsL) (rest := rest) (hlen _ hsigM) hstack hdg
  rcases hK m meth c ⟨T.setVm vm₁, locs, cells, slots⟩ { g with stack := rest } (.invokevirtual index) mk (Value.ref b :: argsL).toArray X₁ hg hsize hdg hW (X₁.named hnamed) (hpre vm₁ X₁.warmed) with ⟨v, B, X', hpost, hsteps⟩ | ⟨q, B, X', hpost, hsteps⟩
  · exact Or.inl ⟨v, vm₁, B, X₁.warmed, X', hpost, fun target h => hstep₁ _ fun acts => by rw [doInvoke_state]; exact hsteps.trans h⟩
  · exact Or.inr ⟨q, vm₁, B, X₁.warmed, X', hpost, hstep₁ _ fun acts => by rw [doInvoke_state]; exact hsteps⟩
theorem vx_callS (X : Stand p l e R s m args below meth c T locs cells slots) (hexec : p.tables.exec = Jvm.exec) {own : String} {index : Nat} {y : MethodName} {bytes : ByteArray} {maxL : Nat} {ret : Option FieldType}
    (hown : s.vm.findClass own = some m.cls) (hlink : (Cond.methodLink own index y).before args s = true) (hstat : (Cond.static y).before args s = true) (hinit : (Cond.initialized y.cls).before args s = true)
    (hcode : (Cond.code y bytes maxL ret).before args s = true) (hy : y.cls ≠ "java/lang/invoke/MethodHandle" ∧ y.cls ≠ "java/lang/invoke/VarHandle")
    {W9 : Nat} {Pre : Pt → Array Value → Prop} {Post : Pt → Array Value → Option Value → Pt → Prop} {PostX : Pt → Array Value → Addr → Pt → Prop} (hK : vx_Back l R p e below s args y 3 W9 Pre Post PostX)
    {g : JFrame} (hg : g.method = m) (hsize : g.locals.size = c.maxLocals) {argsL rest : List Value} (hlen : ∀ sig, parseMethodDescriptor y.desc = some sig → argsL.length = sig.parameters.length)
    (hstack : g.stack = argsL.reverse ++ rest) (hW : 2 * g.monitorRoom + (rest.map fun v => v.category).sum ≤ W9) (hdg : decode c.code g.pc = .ok (.invokestatic index, 3))
    (hpre : ∀ vm₁, s.WarmedH vm₁ → Pre ⟨T.setVm vm₁, locs, cells, slots⟩ argsL.toArray) :
    (∃ (v : Option Value) (vm₁ : Vm) (B : Pt), s.WarmedH vm₁ ∧ Stand p l e R s m args below meth c B.U B.locs B.cells B.slots ∧ Post ⟨T.setVm vm₁, locs, cells, slots⟩ argsL.toArray v B ∧
      ∀ target, Steps p.tables e below (B.U.setTop { g with pc := g.pc + 3, stack := v.toList ++ rest }) target → Steps p.tables e below (T.setTop g) target) ∨
    (∃ (q : Addr) (vm₁ : Vm) (B : Pt), s.WarmedH vm₁ ∧ Stand p l e R s m args below meth c B.U B.locs B.cells B.slots ∧ PostX ⟨T.setVm vm₁, locs, cells, slots⟩ argsL.toArray q B ∧
      Steps p.tables e below (T.setTop g) ((B.U.setTop { g with stack := rest }).pushFrame (.throwing q))) := by
  obtain ⟨mk, hnamed⟩ := Cond.code_named hcode
  obtain ⟨methM, cM, hmethM, -, -, -, -, -, -, hsigM⟩ := Cond.code_spec hnamed hcode
  have hstatic : methM.isStatic = true := Cond.static_spec hnamed hmethM hstat
  obtain ⟨kP, hkP, -⟩ := className_of_methodNamed hnamed
  have hinitP : kP.init = .initialized := Cond.initialized_spec (findClass_of_methodNamed hnamed) hkP hinit
  obtain ⟨vm₁, X₁, hstep₁⟩ := X.invokestatic hexec hown hlink hnamed hmethM hstatic hkP hinitP hy (g := g) hg (argsL := argsL) (rest := rest) (hlen _ hsigM) hstack hdg
  rcases hK m meth c ⟨T.setVm vm₁, locs, cells, slots⟩ { g with stack := rest } (.invokestatic index) mk argsL.toArray X₁ hg hsize hdg hW (X₁.named hnamed) (hpre vm₁ X₁.warmed) with ⟨v, B, X', hpost, hsteps⟩ | ⟨q, B, X', hpost, hsteps⟩
  · exact Or.inl ⟨v, vm₁, B, X₁.warmed, X', hpost, fun target h => hstep₁ _ fun acts => by rw [doInvoke_state]; exact hsteps.trans h⟩
  · exact Or.inr ⟨q, vm₁, B, X₁.warmed, X', hpost, hstep₁ _ fun acts => by rw [doInvoke_state]; exact hsteps⟩
end Calls
theorem vx_cls {s : State} {T : State} {vm₁ : Vm} {E : String} {k : ClassId} (hW : s.WarmedH vm₁) (h : (T.setVm vm₁).vm.findClass E = some k) : s.vm.findClass E = some k := by
  have h1 : vm₁.findClass E = some k := h
  rw [hW.alike.findClass] at h1
  exact h1
/-- the method's frame g, with q thrown over it -/
def vx_W (p : Program) (l : Launch) (e : Env) (R : Room) (s : State) (m : MethodId) (args : Array Value) (below : List Frame) (meth : Method) (c : Code) (H : Heap) (locs : List Loc) (cells slots : Nat) (Q : State → Prop) (g : JFrame) (q : Addr) : Prop :=
  ∀ T : State, T.heap = H → Stand p l e R s m args below meth c T locs cells slots → ∃ t, Steps p.tables e below ((T.setTop g).pushFrame (.throwing q)) t ∧ Q t
def vx_Run (p : Program) (l : Launch) (e : Env) (R : Room) (s : State) (m : MethodId) (args : Array Value) (below : List Frame) (meth : Method) (c : Code) (H : Heap) (locs : List Loc) (cells slots mc ms : Nat) (g : JFrame) (rest : List Value) (Qa : State → Outcome → State → Prop) (XC : String → State → State → Prop) (free : Addr → Prop) : Prop :=
  ∀ T : State, T.heap = H → Stand p l e R s m args below meth c T locs cells slots →
    (∃ (v : Option Value) (st₀ t T' : State) (L : List Loc), st₀.heap = H ∧ Stand p l e R s m args below meth c T' (locs ++ L) (cells + mc) (slots + ms) ∧ (∀ q ∈ L, free q.base) ∧ T'.heap = t.heap ∧ T'.vm = t.vm ∧ Qa st₀ (.returned v) t ∧
      Goes p e below T g T' { g with pc := g.pc + 3, stack := v.toList ++ rest }) ∨
    (∃ (q : Addr) (st₀ t T' : State) (L : List Loc) (E : String) (ce : Cell), st₀.heap = H ∧ Stand p l e R s m args below meth c T' (locs ++ L) (cells + mc) (slots + ms) ∧ (∀ z ∈ L, free z.base) ∧ T'.heap = t.heap ∧ T'.vm = t.vm ∧ XC E st₀ t ∧ t.heap[q]? = some ce ∧ ce.vm = .none ∧ s.vm.findClass E = some ce.cls ∧
      Steps p.tables e below (T.setTop g) ((T'.setTop { g with stack := rest }).pushFrame (.throwing q)))
def vx_X {S : Type} (px : S → Prop) (B : String → S → State → Prop) (A : Nat → Prop) : String → State → State → Prop := fun E st t => ∃ u : S, px u ∧ B E u t ∧ va_F A st t
section Runs
variable {p : Program} {l : Launch} {e : Env} {R : Room} {s : State} {m : MethodId} {args : Array Value} {below : List Frame} {meth : Method} {c : Code} {H : Heap} {locs : List Loc} {cells slots : Nat}
variable {y : MethodName} {bytes cc : ByteArray} {maxL nL mc ms n index : Nat} {ret : Option FieldType} {ws : List Cond} {rm : Room} {Pc : Array Value → State → Prop} {Qc : Array Value → State → Outcome → State → Prop} {XC : String → State → State → Prop} {free : Addr → Prop} {Ts : List Cond} {own C : String} {b : Addr} {As rest : List Value} {g : JFrame}
theorem vx_callBack (cb : CallB R s args own index y bytes maxL ret ws rm mc ms n) (hM : vx_Met l y ws rm Pc Qc XC mc ms free) (hbl : FrameBlind Pc) : vx_Back l R p e below s args y 3 8 (PreOf R mc ms Pc) (PostOf Qc mc ms free) (vx_Post XC mc ms free) := by
  obtain ⟨hrc, hrs, hfr, hlo, hws, hcw, -, hini, -⟩ := cb
  exact vx_back (bytes := bytes) (maxL := maxL) (ret := ret) hM hbl hrc hrs hfr hlo hws hcw (fun a' U hW => word_at hW (Or.inl (by first | rfl | simp [Cond.onTables, Cond.keeps, Cond.steady])) hini)
theorem vx_runV (S : CallFix p m c cc nL s args Ts own) (hM : vx_Met l y ws rm Pc Qc XC mc ms free) (cw : CallW R s args own C index y bytes maxL ret ws rm mc ms n) (hp : PreV s H C b Pc As)
    (hg : g.method = m) (hn : As.length = n) (hsize : g.locals.size = nL) (hstack : g.stack = As.reverse ++ .ref b :: rest) (hW : 2 * g.monitorRoom + (rest.map fun v => v.category).sum ≤ 8) (hdg : decode cc g.pc = .ok (.invokevirtual index, 3)) (hf : cells + mc ≤ R.cells ∧ slots + ms ≤ R.slots) :
    vx_Run p l e R s m args below meth c H locs cells slots mc ms g rest (Qc (Value.ref b :: As).toArray) XC free := by
  have hK : vx_Back l R p e below s args y 3 8 (PreOf R mc ms Pc) (PostOf Qc mc ms free) (vx_Post XC mc ms free) := vx_callBack cw.1 hM hp.1
  obtain ⟨⟨-, -, -, -, -, -, hcode, -, hy, hlen, hl⟩, hin, hse⟩ := cw
  obtain ⟨hx, hb, hml, ho, -⟩ := S
  obtain ⟨-, ⟨cellB, hcB, hoB, hclB⟩, hPc⟩ := hp
  intro T hT X
  rcases vx_callV X hx (C := C) (bytes := bytes) (maxL := maxL) (ret := ret) ho hl hin hse hcode hy hK (by rw [hT]; exact hcB) hoB hclB hg (hsize.trans hml.symm) (argsL := As) (rest := rest) (fun sig h => hn.trans (hlen sig h)) hstack hW (by rw [hb]; exact hdg)
    (fun vm₁ hW₁ => ⟨hf.1, hf.2, hPc (T.setVm vm₁) hT hW₁⟩) with ⟨v, vm₁, ⟨U', l2, c2, s2⟩, hW₁, X', ⟨g', mk, t, L, e1, e2, hq, h1, hL, h2, h3⟩, st⟩ | ⟨q, vm₁, ⟨U', l2, c2, s2⟩, hW₁, X', ⟨g', mk, t, L, E, ce, e1, e2, hq, hce, hcv, hcl, h1, hL, h2, h3⟩, st⟩
  · dsimp only [Pt.U, Pt.locs, Pt.cells, Pt.slots] at X' e1 e2 h1 h2 h3 st
    subst h1; subst h2; subst h3
    exact Or.inl ⟨v, (T.setVm vm₁).calling g' mk (Value.ref b :: As).toArray, t, U', L, hT, X', hL, e1, e2, hq, st⟩
  · dsimp only [Pt.U, Pt.locs, Pt.cells, Pt.slots] at X' e1 e2 h1 h2 h3 st hcl
    subst h1; subst h2; subst h3
    exact Or.inr ⟨q, (T.setVm vm₁).calling g' mk (Value.ref b :: As).toArray, t, U', L, E, ce, hT, X', hL, e1, e2, hq, hce, hcv, vx_cls hW₁ hcl, st⟩
theorem vx_runS (S : CallFix p m c cc nL s args Ts own) (hM : vx_Met l y ws rm Pc Qc XC mc ms free) (cw : CallB R s args own index y bytes maxL ret ws rm mc ms n ∧ (Cond.static y).before args s = true) (hp : PreS s H Pc As)
    (hg : g.method = m) (hn : As.length = n) (hsize : g.locals.size = nL) (hstack : g.stack = As.reverse ++ rest) (hW : 2 * g.monitorRoom + (rest.map fun v => v.category).sum ≤ 8) (hdg : decode cc g.pc = .ok (.invokestatic index, 3)) (hf : cells + mc ≤ R.cells ∧ slots + ms ≤ R.slots) :
    vx_Run p l e R s m args below meth c H locs cells slots mc ms g rest (Qc As.toArray) XC free := by
  have hK : vx_Back l R p e below s args y 3 8 (PreOf R mc ms Pc) (PostOf Qc mc ms free) (vx_Post XC mc ms free) := vx_callBack cw.1 hM hp.1
  obtain ⟨⟨-, -, -, -, -, -, hcode, hini, hy, hlen, hl⟩, hstt⟩ := cw
  obtain ⟨hx, hb, hml, ho, -⟩ := S
  intro T hT X
  rcases vx_callS X hx (bytes := bytes) (maxL := maxL) (ret := ret) ho hl hstt hini hcode hy hK hg (hsize.trans hml.symm) (argsL := As) (rest := rest) (fun sig h => hn.trans (hlen sig h)) hstack hW (by rw [hb]; exact hdg)
    (fun vm₁ hW₁ => ⟨hf.1, hf.2, hp.2 (T.setVm vm₁) hT hW₁⟩) with ⟨v, vm₁, ⟨U', l2, c2, s2⟩, hW₁, X', ⟨g', mk, t, L, e1, e2, hq, h1, hL, h2, h3⟩, st⟩ | ⟨q, vm₁, ⟨U', l2, c2, s2⟩, hW₁, X', ⟨g', mk, t, L, E, ce, e1, e2, hq, hce, hcv, hcl, h1, hL, h2, h3⟩, st⟩
  · dsimp only [Pt.U, Pt.locs, Pt.cells, Pt.slots] at X' e1 e2 h1 h2 h3 st
    subst h1; subst h2; subst h3
    exact Or.inl ⟨v, (T.setVm vm₁).calling g' mk As.toArray, t, U', L, hT, X', hL, e1, e2, hq, st⟩
  · dsimp only [Pt.U, Pt.locs, Pt.cells, Pt.slots] at X' e1 e2 h1 h2 h3 st hcl
    subst h1; subst h2; subst h3
    exact Or.inr ⟨q, (T.setVm vm₁).calling g' mk As.toArray, t, U', L, E, ce, hT, X', hL, e1, e2, hq, hce, hcv, vx_cls hW₁ hcl, st⟩
end Runs
section Rows
variable {p : Program} {l : Launch} {e : Env} {R : Room} {s : State} {m : MethodId} {args : Array Value} {below : List Frame} {meth : Method} {c : Code} {H : Heap} {locs : List Loc} {cells slots : Nat} {Q : State → Prop}
variable {mc ms : Nat} {free : Addr → Prop} {A0 A1 : Nat → Prop} {H0 : Heap} {a : Array Value} {pc : Nat} {ls : Array Slot} {st0 rest : List Value}
theorem vx_keep {st₀ t T' : State} {L : List Loc} (h0 : st₀.heap = H) (e1 : T'.heap = t.heap) (hS : va_S A0 H0 H locs) (hA : ∀ q, q < H.size → A1 q → A0 q) (hf : ∀ q, free q → A0 q) (hL : ∀ q ∈ L, free q.base) (hF : va_F A1 st₀ t) :
    H.size ≤ T'.heap.size ∧ (∀ q : Nat, q < H.size → ¬ A1 q → T'.heap[q]? = H[q]?) ∧ va_S A0 H0 T'.heap (locs ++ L) := by
  obtain ⟨hz, hk⟩ := hF
  rw [h0] at hz hk
  exact ⟨by rw [e1]; exact hz, fun q h1 h2 => by rw [e1]; exact hk q h1 h2,
    ⟨Nat.le_trans hS.1 (by rw [e1]; exact hz), fun q h1 h2 => by rw [e1, hk q (Nat.lt_of_lt_of_le h1 hS.1) (fun z => h2 (hA q (Nat.lt_of_lt_of_le h1 hS.1) z))]; exact hS.2.1 q h1 h2, fun q hq => by
      rcases List.mem_append.mp hq with h | h
      · exact hS.2.2 q h
      · exact hf _ (hL q h)⟩⟩
theorem vx_calli {S SX : Type} {post : Int32 → S → Prop} {px : SX → Prop} {B : S → State → Prop} {BX : String → SX → State → Prop} {AX : Nat → Prop} (hr : vx_Run p l e R s m args below meth c H locs cells slots mc ms (F0 m pc ls st0) rest (va_Qi post B A1 a) (vx_X px BX AX) free) (hS : va_S A0 H0 H locs) (hA : ∀ q, q < H.size → A1 q → A0 q) (hf : ∀ q, free q → A0 q) (hAX : ∀ q, q < H.size → AX q → A0 q)
    (kx : ∀ (E : String) (ce : Cell) (q9 : Addr) (u : SX) (t : State) (H1 : Heap) (locs1 : List Loc), t.heap = H1 → s.vm.Alike t.vm → px u → BX E u t → H.size ≤ H1.size → (∀ q : Nat, q < H.size → ¬ AX q → H1[q]? = H[q]?) → va_S A0 H0 H1 locs1 → H1[q9]? = some ce → ce.vm = .none → s.vm.findClass E = some ce.cls → vx_W p l e R s m args below meth c H1 locs1 (cells + mc) (slots + ms) Q (F0 m pc ls rest) q9)
    (kk : ∀ (r : Int32) (u : S) (t : State) (H1 : Heap) (locs1 : List Loc), t.heap = H1 → s.vm.Alike t.vm → post r u → B u t → H.size ≤ H1.size → (∀ q : Nat, q < H.size → ¬ A1 q → H1[q]? = H[q]?) → va_S A0 H0 H1 locs1 → W p l e R s m args below meth c H1 locs1 (cells + mc) (slots + ms) Q (F0 m (pc + 3) ls (.int r :: rest))) : W p l e R s m args below meth c H locs cells slots Q (F0 m pc ls st0) := by
  intro T hT X
  rcases hr T hT X with ⟨v, st₀, t, T', L, h0, X', hL, e1, e2, ⟨⟨r, u, hv, hp, hb⟩, hF⟩, st⟩ | ⟨q, st₀, t, T', L, E, ce, h0, X', hL, e1, e2, ⟨u, hp, hb, hF⟩, hce, hcv, hcl, st⟩
  · cases hv
    obtain ⟨k1, k2, k3⟩ := vx_keep h0 e1 hS hA hf hL hF
    obtain ⟨t2, a1, b1⟩ := kk r u t T'.heap (locs ++ L) e1.symm (by rw [← e2]; exact X'.warmed.alike) hp hb k1 k2 k3 T' rfl X'
    exact ⟨t2, st t2 a1, b1⟩
  · obtain ⟨k1, k2, k3⟩ := vx_keep h0 e1 hS hAX hf hL hF
    obtain ⟨t2, a1, b1⟩ := kx E ce q u t T'.heap (locs ++ L) e1.symm (by rw [← e2]; exact X'.warmed.alike) hp hb k1 k2 k3 (by rw [e1]; exact hce) hcv hcl T' rfl X'
    exact ⟨t2, st.trans a1, b1⟩
theorem vx_calll {S SX : Type} {post : Int64 → S → Prop} {px : SX → Prop} {B : S → State → Prop} {BX : String → SX → State → Prop} {AX : Nat → Prop} (hr : vx_Run p l e R s m args below meth c H locs cells slots mc ms (F0 m pc ls st0) rest (va_Ql post B A1 a) (vx_X px BX AX) free) (hS : va_S A0 H0 H locs) (hA : ∀ q, q < H.size → A1 q → A0 q) (hf : ∀ q, free q → A0 q) (hAX : ∀ q, q < H.size → AX q → A0 q)
    (kx : ∀ (E : String) (ce : Cell) (q9 : Addr) (u : SX) (t : State) (H1 : Heap) (locs1 : List Loc), t.heap = H1 → s.vm.Alike t.vm → px u → BX E u t → H.size ≤ H1.size → (∀ q : Nat, q < H.size → ¬ AX q → H1[q]? = H[q]?) → va_S A0 H0 H1 locs1 → H1[q9]? = some ce → ce.vm = .none → s.vm.findClass E = some ce.cls → vx_W p l e R s m args below meth c H1 locs1 (cells + mc) (slots + ms) Q (F0 m pc ls rest) q9)
    (kk : ∀ (r : Int64) (u : S) (t : State) (H1 : Heap) (locs1 : List Loc), t.heap = H1 → s.vm.Alike t.vm → post r u → B u t → H.size ≤ H1.size → (∀ q : Nat, q < H.size → ¬ A1 q → H1[q]? = H[q]?) → va_S A0 H0 H1 locs1 → W p l e R s m args below meth c H1 locs1 (cells + mc) (slots + ms) Q (F0 m (pc + 3) ls (.long r :: rest))) : W p l e R s m args below meth c H locs cells slots Q (F0 m pc ls st0) := by
  intro T hT X
  rcases hr T hT X with ⟨v, st₀, t, T', L, h0, X', hL, e1, e2, ⟨⟨r, u, hv, hp, hb⟩, hF⟩, st⟩ | ⟨q, st₀, t, T', L, E, ce, h0, X', hL, e1, e2, ⟨u, hp, hb, hF⟩, hce, hcv, hcl, st⟩
  · cases hv
    obtain ⟨k1, k2, k3⟩ := vx_keep h0 e1 hS hA hf hL hF
    obtain ⟨t2, a1, b1⟩ := kk r u t T'.heap (locs ++ L) e1.symm (by rw [← e2]; exact X'.warmed.alike) hp hb k1 k2 k3 T' rfl X'
    exact ⟨t2, st t2 a1, b1⟩
  · obtain ⟨k1, k2, k3⟩ := vx_keep h0 e1 hS hAX hf hL hF
    obtain ⟨t2, a1, b1⟩ := kx E ce q u t T'.heap (locs ++ L) e1.symm (by rw [← e2]; exact X'.warmed.alike) hp hb k1 k2 k3 (by rw [e1]; exact hce) hcv hcl T' rfl X'
    exact ⟨t2, st.trans a1, b1⟩
theorem vx_callf {S SX : Type} {post : UInt32 → S → Prop} {px : SX → Prop} {B : S → State → Prop} {BX : String → SX → State → Prop} {AX : Nat → Prop} (hr : vx_Run p l e R s m args below meth c H locs cells slots mc ms (F0 m pc ls st0) rest (va_Qf post B A1 a) (vx_X px BX AX) free) (hS : va_S A0 H0 H locs) (hA : ∀ q, q < H.size → A1 q → A0 q) (hf : ∀ q, free q → A0 q) (hAX : ∀ q, q < H.size → AX q → A0 q)
    (kx : ∀ (E : String) (ce : Cell) (q9 : Addr) (u : SX) (t : State) (H1 : Heap) (locs1 : List Loc), t.heap = H1 → s.vm.Alike t.vm → px u → BX E u t → H.size ≤ H1.size → (∀ q : Nat, q < H.size → ¬ AX q → H1[q]? = H[q]?) → va_S A0 H0 H1 locs1 → H1[q9]? = some ce → ce.vm = .none → s.vm.findClass E = some ce.cls → vx_W p l e R s m args below meth c H1 locs1 (cells + mc) (slots + ms) Q (F0 m pc ls rest) q9)
    (kk : ∀ (r : UInt32) (u : S) (t : State) (H1 : Heap) (locs1 : List Loc), t.heap = H1 → s.vm.Alike t.vm → post r u → B u t → H.size ≤ H1.size → (∀ q : Nat, q < H.size → ¬ A1 q → H1[q]? = H[q]?) → va_S A0 H0 H1 locs1 → W p l e R s m args below meth c H1 locs1 (cells + mc) (slots + ms) Q (F0 m (pc + 3) ls (.float r :: rest))) : W p l e R s m args below meth c H locs cells slots Q (F0 m pc ls st0) := by
  intro T hT X
  rcases hr T hT X with ⟨v, st₀, t, T', L, h0, X', hL, e1, e2, ⟨⟨r, u, hv, hp, hb⟩, hF⟩, st⟩ | ⟨q, st₀, t, T', L, E, ce, h0, X', hL, e1, e2, ⟨u, hp, hb, hF⟩, hce, hcv, hcl, st⟩
  · cases hv
    obtain ⟨k1, k2, k3⟩ := vx_keep h0 e1 hS hA hf hL hF
    obtain ⟨t2, a1, b1⟩ := kk r u t T'.heap (locs ++ L) e1.symm (by rw [← e2]; exact X'.warmed.alike) hp hb k1 k2 k3 T' rfl X'
    exact ⟨t2, st t2 a1, b1⟩
  · obtain ⟨k1, k2, k3⟩ := vx_keep h0 e1 hS hAX hf hL hF
    obtain ⟨t2, a1, b1⟩ := kx E ce q u t T'.heap (locs ++ L) e1.symm (by rw [← e2]; exact X'.warmed.alike) hp hb k1 k2 k3 (by rw [e1]; exact hce) hcv hcl T' rfl X'
    exact ⟨t2, st.trans a1, b1⟩
theorem vx_calld {S SX : Type} {post : UInt64 → S → Prop} {px : SX → Prop} {B : S → State → Prop} {BX : String → SX → State → Prop} {AX : Nat → Prop} (hr : vx_Run p l e R s m args below meth c H locs cells slots mc ms (F0 m pc ls st0) rest (va_Qd post B A1 a) (vx_X px BX AX) free) (hS : va_S A0 H0 H locs) (hA : ∀ q, q < H.size → A1 q → A0 q) (hf : ∀ q, free q → A0 q) (hAX : ∀ q, q < H.size → AX q → A0 q)
    (kx : ∀ (E : String) (ce : Cell) (q9 : Addr) (u : SX) (t : State) (H1 : Heap) (locs1 : List Loc), t.heap = H1 → s.vm.Alike t.vm → px u → BX E u t → H.size ≤ H1.size → (∀ q : Nat, q < H.size → ¬ AX q → H1[q]? = H[q]?) → va_S A0 H0 H1 locs1 → H1[q9]? = some ce → ce.vm = .none → s.vm.findClass E = some ce.cls → vx_W p l e R s m args below meth c H1 locs1 (cells + mc) (slots + ms) Q (F0 m pc ls rest) q9)
    (kk : ∀ (r : UInt64) (u : S) (t : State) (H1 : Heap) (locs1 : List Loc), t.heap = H1 → s.vm.Alike t.vm → post r u → B u t → H.size ≤ H1.size → (∀ q : Nat, q < H.size → ¬ A1 q → H1[q]? = H[q]?) → va_S A0 H0 H1 locs1 → W p l e R s m args below meth c H1 locs1 (cells + mc) (slots + ms) Q (F0 m (pc + 3) ls (.double r :: rest))) : W p l e R s m args below meth c H locs cells slots Q (F0 m pc ls st0) := by
  intro T hT X
  rcases hr T hT X with ⟨v, st₀, t, T', L, h0, X', hL, e1, e2, ⟨⟨r, u, hv, hp, hb⟩, hF⟩, st⟩ | ⟨q, st₀, t, T', L, E, ce, h0, X', hL, e1, e2, ⟨u, hp, hb, hF⟩, hce, hcv, hcl, st⟩
  · cases hv
    obtain ⟨k1, k2, k3⟩ := vx_keep h0 e1 hS hA hf hL hF
    obtain ⟨t2, a1, b1⟩ := kk r u t T'.heap (locs ++ L) e1.symm (by rw [← e2]; exact X'.warmed.alike) hp hb k1 k2 k3 T' rfl X'
    exact ⟨t2, st t2 a1, b1⟩
  · obtain ⟨k1, k2, k3⟩ := vx_keep h0 e1 hS hAX hf hL hF
    obtain ⟨t2, a1, b1⟩ := kx E ce q u t T'.heap (locs ++ L) e1.symm (by rw [← e2]; exact X'.warmed.alike) hp hb k1 k2 k3 (by rw [e1]; exact hce) hcv hcl T' rfl X'
    exact ⟨t2, st.trans a1, b1⟩
theorem vx_callv {S SX : Type} {post : S → Prop} {px : SX → Prop} {B : S → State → Prop} {BX : String → SX → State → Prop} {AX : Nat → Prop} (hr : vx_Run p l e R s m args below meth c H locs cells slots mc ms (F0 m pc ls st0) rest (va_Qv post B A1 a) (vx_X px BX AX) free) (hS : va_S A0 H0 H locs) (hA : ∀ q, q < H.size → A1 q → A0 q) (hf : ∀ q, free q → A0 q) (hAX : ∀ q, q < H.size → AX q → A0 q)
    (kx : ∀ (E : String) (ce : Cell) (q9 : Addr) (u : SX) (t : State) (H1 : Heap) (locs1 : List Loc), t.heap = H1 → s.vm.Alike t.vm → px u → BX E u t → H.size ≤ H1.size → (∀ q : Nat, q < H.size → ¬ AX q → H1[q]? = H[q]?) → va_S A0 H0 H1 locs1 → H1[q9]? = some ce → ce.vm = .none → s.vm.findClass E = some ce.cls → vx_W p l e R s m args below meth c H1 locs1 (cells + mc) (slots + ms) Q (F0 m pc ls rest) q9)
    (kk : ∀ (u : S) (t : State) (H1 : Heap) (locs1 : List Loc), t.heap = H1 → s.vm.Alike t.vm → post u → B u t → H.size ≤ H1.size → (∀ q : Nat, q < H.size → ¬ A1 q → H1[q]? = H[q]?) → va_S A0 H0 H1 locs1 → W p l e R s m args below meth c H1 locs1 (cells + mc) (slots + ms) Q (F0 m (pc + 3) ls (rest))) : W p l e R s m args below meth c H locs cells slots Q (F0 m pc ls st0) := by
  intro T hT X
  rcases hr T hT X with ⟨v, st₀, t, T', L, h0, X', hL, e1, e2, ⟨⟨u, hv, hp, hb⟩, hF⟩, st⟩ | ⟨q, st₀, t, T', L, E, ce, h0, X', hL, e1, e2, ⟨u, hp, hb, hF⟩, hce, hcv, hcl, st⟩
  · cases hv
    obtain ⟨k1, k2, k3⟩ := vx_keep h0 e1 hS hA hf hL hF
    obtain ⟨t2, a1, b1⟩ := kk u t T'.heap (locs ++ L) e1.symm (by rw [← e2]; exact X'.warmed.alike) hp hb k1 k2 k3 T' rfl X'
    exact ⟨t2, st t2 a1, b1⟩
  · obtain ⟨k1, k2, k3⟩ := vx_keep h0 e1 hS hAX hf hL hF
    obtain ⟨t2, a1, b1⟩ := kx E ce q u t T'.heap (locs ++ L) e1.symm (by rw [← e2]; exact X'.warmed.alike) hp hb k1 k2 k3 (by rw [e1]; exact hce) hcv hcl T' rfl X'
    exact ⟨t2, st.trans a1, b1⟩
/-- caught by the row x of this method's table; the rows ahead don't take it -/
theorem vx_catch {own name : String} {E : String} {ce : Cell} {q : Addr} (hown : s.vm.findClass own = some m.cls) (pre : List ExceptionTableEntry) (x : ExceptionTableEntry) (suf : List ExceptionTableEntry) (hsplit : c.exceptionTable.toList = pre ++ x :: suf)
    (hpass : ∀ z ∈ pre, covers z pc = false ∨ (z.catchType ≠ 0 ∧ ∃ nm : String, (Cond.classLink own z.catchType nm).before args s = true ∧ va_Nc E nm s)) (hx : covers x pc = true) (h0 : x.catchType ≠ 0)
    (hlink : (Cond.classLink own x.catchType name).before args s = true) (hcast : (Cond.castable E name).before args s = true) (hcell : H[q]? = some ce) (hv : ce.vm = .none) (hcl : s.vm.findClass E = some ce.cls)
    (kk : W p l e R s m args below meth c H locs cells slots Q (F0 m x.handlerPc ls [.ref q])) : vx_W p l e R s m args below meth c H locs cells slots Q (F0 m pc ls rest) q := by
  intro T hT X
  have hpl : e.platform.magicAccessors = ({} : Platform).magicAccessors := by rw [X.admits.platform]
  obtain ⟨c3, c4, hc3, hc4, hasg⟩ := Cond.castable_spec hcast
  cases Option.some.inj (hc3.symm.trans hcl)
  obtain ⟨c5, hc5, hcl5⟩ := Cond.classLink_spec hown hlink e.platform hpl
  cases Option.some.inj (hc4.symm.trans hc5)
  obtain ⟨vm', X', st⟩ := X.thenCaughtThrough q (g := F0 m pc ls rest) rfl (Steps.refl _) (by rw [hT]; exact hcell) (by rw [hv]; rfl) (by obtain ⟨k9, h9, -⟩ := Vm.findClass_spec hcl; exact ⟨k9, h9⟩) pre x suf hsplit
    (fun z hz => by
      rcases hpass z hz with h | ⟨hz0, nm, hl1, hn1⟩
      · exact Or.inl h
      · obtain ⟨c6, hc6, hcl6⟩ := Cond.classLink_spec hown hl1 e.platform hpl
        obtain ⟨a8, b8, h1, h2, h3⟩ := hn1
        cases Option.some.inj (h1.symm.trans hcl)
        cases Option.some.inj (h2.symm.trans hc6)
        exact Or.inr ⟨hz0, _, hcl6, h3⟩) hx (Or.inr ⟨h0, c4, hcl5, hasg⟩)
  obtain ⟨t, a1, b1⟩ := kk (T.setVm vm') hT X'
  exact ⟨t, st.trans a1, b1⟩
end Rows
section Ends
variable {p : Program} {l : Launch} {e : Env} {R : Room} {s : State} {m : MethodId} {args : Array Value} {below : List Frame} {meth : Method} {c : Code} {H : Heap} {locs : List Loc} {cells slots : Nat} {Q : State → Prop}
variable {mc ms : Nat} {free : Addr → Prop} {A0 A1 : Nat → Prop} {H0 : Heap} {a : Array Value} {ls : Array Slot} {st0 rest : List Value}
variable {Qc : Array Value → State → Outcome → State → Prop} {XC : String → State → State → Prop}
/-- what a body that may throw owes at its end -/
def vx_MQ (below : List Frame) (Qc : Array Value → State → Outcome → State → Prop) (XC : String → State → State → Prop) (a : Array Value) (s : State) (mc ms : Nat) (free : Addr → Prop) : State → Prop := fun t =>
  ∃ o, t.status = .running ∧ Ended t below o ∧ vx_Q Qc XC mc ms free a s o t
theorem vx_ret {g : JFrame} {mc ms : Nat} (k : W p l e R s m args below meth c H locs cells slots (MQ below Qc args s mc ms free) g) : W p l e R s m args below meth c H locs cells slots (vx_MQ below Qc XC args s mc ms free) g := by
  intro T hT X
  obtain ⟨t, a1, o, b1, b2, b3, b4⟩ := k T hT X
  exact ⟨t, a1, o, b1, b2, Or.inl ⟨b3, b4⟩⟩
/-- not caught here: it goes on to the caller -/
theorem vx_widen {g : JFrame} {q : Addr} {k n : Nat} (h1 : cells ≤ k) (h2 : slots ≤ n) (kk : vx_W p l e R s m args below meth c H locs k n Q g q) : vx_W p l e R s m args below meth c H locs cells slots Q g q := fun T hT X => kk T hT (stand_widen X h1 h2)
theorem vx_out {pc : Nat} {E : String} {ce : Cell} {q : Addr} {mc ms : Nat} (hout : ∀ x ∈ c.exceptionTable.toList, covers x pc = false) (hlocks : meth.locks = false) (hcell : H[q]? = some ce) (hv : ce.vm = .none) (hcl : s.vm.findClass E = some ce.cls)
    (hx : ∀ t : State, t.heap = H → s.vm.Alike t.vm → XC E s t) (hf : ∀ z ∈ locs, free z.base) (hc : cells ≤ mc) (hs : slots ≤ ms) :
    vx_W p l e R s m args below meth c H locs cells slots (vx_MQ below Qc XC args s mc ms free) (F0 m pc ls rest) q := by
  intro T hT X
  obtain ⟨st1, hrun, hend, hW, hsm⟩ := X.leaveThrown q (g := F0 m pc ls rest) rfl rfl rfl hout hlocks
  have hcell9 : (T.setFrames (.throwing q :: below)).heap[q]? = some ce := by
    show T.heap[q]? = some ce
    rw [hT]; exact hcell
  exact ⟨_, st1, .threw q, hrun, hend, Or.inr ⟨q, rfl, E, ce, locs, hx _ hT hW.alike, hcell9, hv, hcl, hW, hsm.mono hc hs, hf⟩⟩
theorem vx_frame {U : State} {k n : Nat} (h : s.sameButNew ({ U with vm := s.vm } : State) locs k n) : s.heap.size ≤ U.heap.size ∧ ∀ q : Nat, q < s.heap.size → (∀ z ∈ locs, z.base ≠ q) → U.heap[q]? = s.heap[q]? := by
  obtain ⟨-, h2, -, -, -, h6⟩ := h
  refine ⟨h2, fun q hq hz => ?_⟩
  obtain ⟨c9, e1, e2, e3, e4⟩ := h6 q _ (Array.getElem?_eq_getElem hq)
  have hs : c9.slots = (s.heap[q]).slots := Array.ext_getElem? fun i => e4 i fun hm => hz _ hm rfl
  have h9 : c9 = s.heap[q] := by
    rw [hs] at e2
    exact e2
  have e5 : U.heap[q]? = some c9 := e1
  rw [e5, h9, Array.getElem?_eq_getElem hq]
/-- the words of a throw but the four that speak of the heap -/
def vx_no (w : Cond) : Bool := decide (w ≠ .isRef (.static Bundle.tN "UNASSIGNED_STACK" Bundle.steD)) && decide (w ≠ .isRef (.static Bundle.tN "SUPPRESSED_SENTINEL" Bundle.listD)) && decide (w ≠ .laysStatic Bundle.tN "UNASSIGNED_STACK" Bundle.steD) && decide (w ≠ .laysStatic Bundle.tN "SUPPRESSED_SENTINEL" Bundle.listD)
def vx_at0 (own : String) (ic : Nat) (X : String) (names : List String) : List Cond := (Bundle.ownAtoms0 own ic X names).filter vx_no
def vx_atS (own : String) (ic : Nat) (X : String) (names : List String) : List Cond := (Bundle.ownAtoms own ic X names).filter vx_no
/-- a word that the tables alone decide, or a good one -/
def vx_ot (w : Cond) : Bool := w.onTables || goodWord w
theorem vx_ot_at {args a' : Array Value} {s U : State} {w : Cond} (hW : s.WarmedH U.vm) (hvm : s.vm = U.vm) (hg : vx_ot w = true) (h : w.before args s = true) : w.before a' U = true := by
  simp only [vx_ot, Bool.or_eq_true] at hg
  rcases hg with hg | hg
  · exact va_tabs hg hvm h
  · exact word_at hW (good_of_word hg) h
/-- a list's words: the good ones out of the method's own list, the others by premises of their own -/
theorem vx_hat {args : Array Value} {s : State} {L B : List Cond} (h1 : ∀ w ∈ L.filter goodWord, w.before args s = true) (h2 : ∀ w ∈ L.filter (fun w => !goodWord w), w ∈ B) (h3 : ∀ w ∈ B, w.before args s = true) : ∀ w ∈ L, w.before args s = true := by
  intro w hw
  by_cases g : goodWord w = true
  · exact h1 w (List.mem_filter.mpr ⟨hw, g⟩)
  · refine h3 w (h2 w (List.mem_filter.mpr ⟨hw, ?_⟩))
    show (!goodWord w) = true
    cases hgw : goodWord w
    · rfl
    · exact absurd hgw g
theorem vx_c {args : Array Value} {s : State} {w : Cond} {B : List Cond} (h : w.before args s = true) (t : ∀ w ∈ B, w.before args s = true) : ∀ w' ∈ w :: B, w'.before args s = true := fun w' h' => (List.mem_cons.mp h').elim (fun e => by rw [e]; exact h) (t w')
theorem vx_n {args : Array Value} {s : State} : ∀ w ∈ ([] : List Cond), w.before args s = true := fun _ h => nomatch h
theorem vx_own {args : Array Value} {s : State} {L : List Cond} (h1 : ∀ w ∈ L.filter vx_no, w.before args s = true)
    (hU : (Cond.isRef (.static Bundle.tN "UNASSIGNED_STACK" Bundle.steD)).before args s = true) (hN : (Cond.isRef (.static Bundle.tN "SUPPRESSED_SENTINEL" Bundle.listD)).before args s = true)
    (lU : (Cond.laysStatic Bundle.tN "UNASSIGNED_STACK" Bundle.steD).before args s = true) (lN : (Cond.laysStatic Bundle.tN "SUPPRESSED_SENTINEL" Bundle.listD).before args s = true) : ∀ w ∈ L, w.before args s = true := by
  intro w hw
  by_cases e1 : w = .isRef (.static Bundle.tN "UNASSIGNED_STACK" Bundle.steD)
  · rw [e1]; exact hU
  · by_cases e2 : w = .isRef (.static Bundle.tN "SUPPRESSED_SENTINEL" Bundle.listD)
    · rw [e2]; exact hN
    · by_cases e3 : w = .laysStatic Bundle.tN "UNASSIGNED_STACK" Bundle.steD
      · rw [e3]; exact lU
      · by_cases e4 : w = .laysStatic Bundle.tN "SUPPRESSED_SENTINEL" Bundle.listD
        · rw [e4]; exact lN
        · exact h1 w (List.mem_filter.mpr ⟨hw, by unfold vx_no; rw [decide_eq_true e1, decide_eq_true e2, decide_eq_true e3, decide_eq_true e4]; rfl⟩)
/-- where a static field lies, its class's statics cell in H -/
def vx_L (C n d : String) (A : Nat → Prop) (U : State) (H : Heap) : Prop := ∃ (c : ClassId) (k : Class) (i : Nat) (f : Field) (a : Nat) (cell : Cell), U.vm.findClass C = some c ∧ U.fieldFound? C n d = some (c, k, i, f) ∧ f.isStatic = true ∧ k.statics = some a ∧ H[a]? = some cell ∧ cell.vm.isStatics = true ∧ cell.cls = c ∧ f.slot < cell.slots.size ∧ k.staticTypes[f.slot]? = some f.type ∧ ¬ A a
theorem vx_L.moved {C n d : String} {A : Nat → Prop} {u U : State} {H : Heap} (hvm : u.vm.Alike U.vm) (h : vx_L C n d A u H) : vx_L C n d A U H := by
  obtain ⟨c, k, i, f, a, cell, h1, h2, h3, h4, h5, h6, h7, h8, h9, h10⟩ := h
  obtain ⟨k', hi', he⟩ := State.fieldFound?_setVm hvm h2
  exact ⟨c, k', i, f, a, cell, by rw [hvm.findClass]; exact h1, hi', h3, by rw [he]; exact h4, h5, h6, h7, h8, by rw [he]; exact h9, h10⟩
theorem vx_L.kept {C n d : String} {A : Nat → Prop} {U : State} {H H1 : Heap} (h : vx_L C n d A U H) (hq : ∀ a : Nat, a < H.size → ¬ A a → H1[a]? = H[a]?) : vx_L C n d A U H1 := by
  obtain ⟨c, k, i, f, a, cell, h1, h2, h3, h4, h5, h6, h7, h8, h9, h10⟩ := h
  exact ⟨c, k, i, f, a, cell, h1, h2, h3, h4, by rw [hq a (Array.getElem?_eq_some_iff.mp h5).1 h10]; exact h5, h6, h7, h8, h9, h10⟩
theorem vx_L.narrow {C n d : String} {A B : Nat → Prop} {U : State} {H : Heap} (h : vx_L C n d A U H) (hAB : ∀ q, B q → A q) : vx_L C n d B U H := by
  obtain ⟨c, k, i, f, a, cell, h1, h2, h3, h4, h5, h6, h7, h8, h9, h10⟩ := h
  exact ⟨c, k, i, f, a, cell, h1, h2, h3, h4, h5, h6, h7, h8, h9, fun z => h10 (hAB _ z)⟩
theorem vx_L.word {C n d : String} {A : Nat → Prop} {s : State} {args : Array Value} (h : vx_L C n d A s s.heap) : (Cond.laysStatic C n d).before args s = true := by
  obtain ⟨c, k, i, f, a, cell, h1, h2, h3, h4, h5, h6, h7, h8, h9, -⟩ := h
  show (Cond.laysStatic C n d).holds args s none s [] = true
  exact Cond.laysStatic_of h1 h2 h3 h4 h5 h6 h7 h8 h9
/-- .. and what it holds: null or some reference -/
def vx_Zq (C n d : String) (A : Nat → Prop) (U : State) (H : Heap) : Prop := va_Zq C n d A U H ∧ vx_L C n d A U H
theorem vx_Zq.moved {C n d : String} {A : Nat → Prop} {u U : State} {H : Heap} (hvm : u.vm.Alike U.vm) (h : vx_Zq C n d A u H) : vx_Zq C n d A U H := ⟨va_Zq.moved hvm h.1, vx_L.moved hvm h.2⟩
theorem vx_Zq.kept {C n d : String} {A : Nat → Prop} {U : State} {H H1 : Heap} (h : vx_Zq C n d A U H) (hq : ∀ a : Nat, a < H.size → ¬ A a → H1[a]? = H[a]?) : vx_Zq C n d A U H1 := ⟨va_Zq.kept h.1 hq, vx_L.kept h.2 hq⟩
theorem vx_Zq.narrow {C n d : String} {A B : Nat → Prop} {U : State} {H : Heap} (h : vx_Zq C n d A U H) (hAB : ∀ q, B q → A q) : vx_Zq C n d B U H := ⟨va_Zq.narrow h.1 hAB, vx_L.narrow h.2 hAB⟩
theorem vx_Zqof {args : Array Value} {s : State} {C n d : String} {A : Nat → Prop} (hl : (Cond.laysStatic C n d).before args s = true) (hini : (Cond.initialized C).before args s = true) (h : (Cond.isRef (.static C n d)).before args s = true) (hA : ∀ a : Nat, a < s.heap.size → ¬ A a) : vx_Zq C n d A s s.heap := by
  refine ⟨va_Zqof hl hini h hA, ?_⟩
  obtain ⟨c, k, i, f, a, cell, h1, h2, h3, h4, h5, h6, h7, h8, h9⟩ := Cond.laysStatic_spec hl
  exact ⟨c, k, i, f, a, cell, h1, h2, h3, h4, h5, h6, h7, h8, h9, hA a (Array.getElem?_eq_some_iff.mp h5).1⟩
theorem vx_isRef {C n d : String} {v : Value} {A : Nat → Prop} {s : State} {args : Array Value} (h : va_Z C n d v A s s.heap) (hv : v.isRef = true) : (Cond.isRef (.static C n d)).before args s = true := by
  obtain ⟨cf, kf, fi, f, a, cell, h1, h2, h3, h4, h5, h6, h7, -⟩ := h
  have he : (Term.static C n d).eval args s none [] s = some v := by
    simp [Term.eval, State.fieldNamed?, h1, h2, h4, h5, h6, h7]
  simp only [Cond.before, Cond.holds, Cond.value, he]
  cases v <;> simp_all [Value.isRef]
theorem vx_isRefq {C n d : String} {A : Nat → Prop} {s : State} {args : Array Value} (h : va_Zq C n d A s s.heap) : (Cond.isRef (.static C n d)).before args s = true := by
  rcases h with h | ⟨t, h⟩
  · exact vx_isRef h rfl
  · exact vx_isRef h rfl
/-- the same frame, seen from here: as if the method were called anew in this heap -/
theorem vx_rebase {T : State} (X : Stand p l e R s m args below meth c T locs cells slots) {R' : Room} (hf : R'.frames ≤ R.frames) (hl : R'.locals ≤ R.locals) (hc : cells + R'.cells ≤ R.cells) (hs : slots + R'.slots ≤ R.slots) :
    Stand p l e R' ((T.setVm s.vm).setFrames (.invoking m args :: below)) m args below meth c T [] 0 0 := by
  have htop : (T.setVm s.vm).topJava?.isSome := X.here.top
  have hF : ((T.setVm s.vm).setFrames (.invoking m args :: below)).frames = .invoking m args :: below := State.frames_setFrames _ (State.cur_lt_of_top htop)
  obtain ⟨g₀, hg0⟩ := Option.isSome_iff_exists.mp htop
  obtain ⟨r, hr⟩ := State.topJava?_eq_some.mp hg0
  have hl9 : e.platform.stackLimits (T.setVm s.vm).me = e.platform.stackLimits s.me := X.limits
  have hb9 : (T.setVm s.vm).me.stackBytes = s.me.stackBytes := X.bytes
  refine ⟨X.admits, X.cas, X.clock, hF, ?_, X.hears, X.method, X.code, X.here, X.tail, X.warmed, ?_, ?_, ?_⟩
  · have h := X.room
    have hU : ((T.setVm s.vm).setFrames (.invoking m args :: below)).localsInUse = s.localsInUse := by
      rw [State.localsInUse_invoking hF (meth := meth) (c := c) X.method X.code, State.localsInUse_invoking X.frames X.method X.code]
    simp only [State.hasRoom, Bool.and_eq_true, decide_eq_true_eq] at h ⊢
    obtain ⟨⟨⟨⟨h1, h2, h3, h4, h5, h6⟩, h7⟩, h8⟩, h9⟩ := h
    rw [X.frames, List.length_cons] at h2 h3
    have q1 := X.heapSize
    have q2 := X.used
    simp only [hF, hU, List.length_cons, State.stackLimits_setFrames, State.stackBytes_setFrames, hl9, hb9]
    refine ⟨⟨⟨⟨by omega, by omega, by omega, by omega, by omega, h6⟩, ?_⟩, ?_⟩, X.book⟩
    · show T.heap.size + R'.cells ≤ e.platform.maxCells
      omega
    · show T.slotsUsed + R'.slots ≤ e.platform.maxSlots
      omega
  · rw [State.stackLimits_setFrames]; rfl
  · rw [State.stackBytes_setFrames]; rfl
  · refine ⟨?_, Nat.le_refl _, Nat.le_refl _, ?_, ?_, fun a c9 h9 => ⟨c9, h9, rfl, rfl, fun _ _ => rfl⟩⟩
    · obtain ⟨t, ht, -⟩ := State.frames_cons hr
      show T.setVm s.vm = { ((T.setVm s.vm).setFrames (.invoking m args :: below)).setFrames (T.setVm s.vm).frames with heap := T.heap, slotsUsed := T.slotsUsed }
      rw [State.setFrames_setFrames, State.setFrames_self ht]
      rfl
    · show T.slotsUsed = T.slotsUsed + ((T.heap.toList.drop T.heap.size).map (·.slots.size)).sum
      rw [List.drop_eq_nil_of_le (Nat.le_of_eq Array.length_toList)]
      rfl
    · show ((T.heap.toList.drop T.heap.size).map (·.slots.size)).sum ≤ 0
      rw [List.drop_eq_nil_of_le (Nat.le_of_eq Array.length_toList)]
      exact Nat.le_refl _
/-- 'throw new E()': new; dup; invokespecial; athrow -/
theorem vx_throw0 {cc : ByteArray} {pc : Nat} (hexec : p.tables.exec = Jvm.exec) (hb : c.code = cc) (hl : l.stackTraces = false) {own cls : String} {names : List String} {ik ic mc ms : Nat} {A : Nat → Prop}
    (hown : s.vm.findClass own = some m.cls) (hcls : Bundle.fit cls = true) (hnames : ∀ n ∈ names, Bundle.fit n = true)
    (hk : (Cond.classLink own ik cls).before args s = true) (hini : (Cond.initialized cls).before args s = true) (hat : ∀ w ∈ vx_at0 own ic cls names, w.before args s = true)
    (hgood : ∀ w ∈ Cond.classLink own ik cls :: Cond.initialized cls :: vx_at0 own ic cls names, vx_ot w = true)
    (hU : vx_Zq Bundle.tN "UNASSIGNED_STACK" Bundle.steD A s s.heap) (hN : vx_Zq Bundle.tN "SUPPRESSED_SENTINEL" Bundle.listD A s s.heap) (hS : va_S A s.heap H locs) (hsize : ls.size = c.maxLocals)
    (d0 : decode cc pc = .ok (.new ik, 3)) (d3 : decode cc (pc + 3) = .ok (.dup, 1)) (d4 : decode cc (pc + 4) = .ok (.invokespecial ic, 3)) (d7 : decode cc (pc + 7) = .ok (.athrow, 1))
    (hout : ∀ x ∈ c.exceptionTable.toList, covers x (pc + 7) = false)
    (hRframes : names.length + 3 < R.frames) (hRlocals : (rest.map fun v => v.category).sum + (13 * (names.length + 1) + 42) ≤ R.locals) (hRcells : cells + 1 ≤ R.cells) (hRslots : slots + 6 ≤ R.slots) (hlocks : meth.locks = false)
    (hx : ∀ t : State, s.vm.Alike t.vm → H.size ≤ t.heap.size → (∀ q : Nat, q < H.size → t.heap[q]? = H[q]?) → XC cls s t)
    (hf : ∀ z ∈ locs, free z.base) (hc : cells + 1 ≤ mc) (hs : slots + 6 ≤ ms) :
    W p l e R s m args below meth c H locs cells slots (vx_MQ below Qc XC args s mc ms free) (F0 m pc ls rest) := by
  intro T hT X
  have htr : e.platform.stackTraces = false := (show e.platform.stackTraces = l.stackTraces by rw [X.admits.platform]).trans hl
  have Y := vx_rebase X (R' := { frames := R.frames, locals := R.locals, cells := 1, slots := 6 }) (Nat.le_refl _) (Nat.le_refl _) hRcells hRslots
  obtain ⟨s', hA⟩ : ∃ z, z = (T.setVm s.vm).setFrames (.invoking m args :: below) := ⟨_, rfl⟩
  rw [← hA] at Y
  have hvm : s'.vm = s.vm := by rw [hA]; rfl
  have hhp : s'.heap = H := by rw [hA]; exact hT
  have hW0 : s.WarmedH s'.vm := by rw [hvm]; exact State.WarmedH.refl s
  have hat' : ∀ w ∈ vx_at0 own ic cls names, w.before args s' = true := fun w hw => vx_ot_at hW0 hvm.symm (hgood w (List.mem_cons_of_mem _ (List.mem_cons_of_mem _ hw))) (hat w hw)
  have hk' : (Cond.classLink own ik cls).before args s' = true := vx_ot_at hW0 hvm.symm (hgood _ List.mem_cons_self) hk
  have hini' : (Cond.initialized cls).before args s' = true := vx_ot_at hW0 hvm.symm (hgood _ (List.mem_cons_of_mem _ List.mem_cons_self)) hini
  have hU' : vx_Zq Bundle.tN "UNASSIGNED_STACK" Bundle.steD A s' s'.heap := by rw [hhp]; exact vx_Zq.moved hW0.alike (hU.kept hS.2.1)
  have hN' : vx_Zq Bundle.tN "SUPPRESSED_SENTINEL" Bundle.listD A s' s'.heap := by rw [hhp]; exact vx_Zq.moved hW0.alike (hN.kept hS.2.1)
  have h : ∀ w ∈ Bundle.ownAtoms0 own ic cls names, w.before args s' = true := vx_own hat' (vx_isRefq hU'.1) (vx_isRefq hN'.1) hU'.2.word hN'.2.word
  have hown' : s'.vm.findClass own = some m.cls := by rw [hvm]; exact hown
  have hins : (Cond.instantiable cls 6).before args s' = true := h _ (by simp [Bundle.ownAtoms0])
  obtain ⟨vm₁, cX, kX, hfX, hkX, -, -, X₁, st1⟩ := Y.newCold hexec (own := own) (C := cls) (index := ik) (n := 6) hown' hk' hins hini'
    (g := F0 m pc ls rest) rfl (by rw [hb]; exact d0) (Nat.le_refl _) (Nat.le_refl _)
  generalize hT1 : (T.setVm vm₁).pushCell { cls := cX, slots := kX.instanceTypes.map defaultValue, vm := .none } = T1 at X₁ st1
  have hcat : (Value.ref T.heap.size).category = 1 := rfl
  have hcellA : T1.heap[T.heap.size]? = some (freshCell cX kX) := by rw [← hT1]; exact State.heap_pushCell_size _ _
  have d3' : decode c.code (pc + 3) = .ok (.dup, 1) := by rw [hb]; exact d3
  obtain ⟨U, hsteps, hrun, hend, hW, hsame, ce, hce, hO⟩ := X₁.ctorThrow0 hexec htr (own := own) (cls := cls) (names := names) (ic := ic) hown' hcls hnames h (fun x hx => nomatch hx) hfX hkX hcellA (by rw [hhp, hT]; exact Nat.le_refl _)
    (g := { method := m, pc := pc + 4, locals := ls, stack := .ref T.heap.size :: .ref T.heap.size :: rest, locked := none }) rfl hsize rfl rfl (rest := rest) rfl
    (by rw [hb]; exact d4) (by rw [hb]; exact d7) hout hRframes (by simp only [List.map_cons, List.sum_cons, hcat]; omega) hlocks
  obtain ⟨f1, f2⟩ := vx_frame hsame
  rw [hhp] at f1 f2
  have hWs : s.WarmedH U.vm := State.WarmedH.trans hW0 hW
  have hcl : s.vm.findClass cls = some ce.cls := by
    have h9 := hO.cls
    rw [hvm] at h9
    exact h9
  have hall : s.sameButNew ({ U with vm := s.vm } : State) locs mc ms := by
    subst hA
    obtain ⟨e1, e2⟩ := hsame
    rw [State.setFrames_setFrames] at e1
    have h2 : (T.setVm s.vm).sameButNew ({ U with vm := s.vm } : State) [] (0 + 1) (0 + 6) := ⟨e1, e2⟩
    have h3 := X.same.trans h2
    rw [List.append_nil] at h3
    exact h3.mono hc hs
  refine ⟨U, ?_, .threw T.heap.size, hrun, hend, Or.inr ⟨T.heap.size, rfl, cls, ce, locs, hx U hWs.alike f1 (fun q hq => f2 q hq (fun z hz => nomatch hz)), hce, hO.vm, hcl, hWs, hall, hf⟩⟩
  refine st1 _ ?_
  show Steps p.tables e below (T1.setTop { method := m, pc := pc + 3, locals := ls, stack := .ref T.heap.size :: rest, locked := none }) _
  jvm_step X₁.here [X₁.here.top, hexec, d3', Value.category]
  exact hsteps
/-- 'throw new E("text")': new; dup; ldc; invokespecial; athrow -/
theorem vx_throwS {cc : ByteArray} {pc : Nat} (hexec : p.tables.exec = Jvm.exec) (hb : c.code = cc) (hl : l.stackTraces = false) {own cls text : String} {names : List String} {ik is ic mc ms sa : Nat} {A : Nat → Prop}
    (hown : s.vm.findClass own = some m.cls) (hcls : Bundle.fit cls = true) (hnames : ∀ n ∈ names, Bundle.fit n = true)
    (hk : (Cond.classLink own ik cls).before args s = true) (hini : (Cond.initialized cls).before args s = true) (hstr : vk_R own is text sa s) (hat : ∀ w ∈ vx_atS own ic cls names, w.before args s = true)
    (hgood : ∀ w ∈ Cond.classLink own ik cls :: Cond.initialized cls :: vx_atS own ic cls names, vx_ot w = true)
    (hU : vx_Zq Bundle.tN "UNASSIGNED_STACK" Bundle.steD A s s.heap) (hN : vx_Zq Bundle.tN "SUPPRESSED_SENTINEL" Bundle.listD A s s.heap) (hS : va_S A s.heap H locs) (hsize : ls.size = c.maxLocals)
    (d0 : decode cc pc = .ok (.new ik, 3)) (d3 : decode cc (pc + 3) = .ok (.dup, 1)) (d4 : decode cc (pc + 4) = .ok (.ldc is, 2)) (d6 : decode cc (pc + 6) = .ok (.invokespecial ic, 3)) (d9 : decode cc (pc + 9) = .ok (.athrow, 1))
    (hout : ∀ x ∈ c.exceptionTable.toList, covers x (pc + 9) = false)
    (hRframes : names.length + 3 < R.frames) (hRlocals : (rest.map fun v => v.category).sum + (13 * (names.length + 1) + 43) ≤ R.locals) (hRcells : cells + 1 ≤ R.cells) (hRslots : slots + 6 ≤ R.slots) (hlocks : meth.locks = false)
    (hx : ∀ t : State, s.vm.Alike t.vm → H.size ≤ t.heap.size → (∀ q : Nat, q < H.size → t.heap[q]? = H[q]?) → XC cls s t)
    (hf : ∀ z ∈ locs, free z.base) (hc : cells + 1 ≤ mc) (hs : slots + 6 ≤ ms) :
    W p l e R s m args below meth c H locs cells slots (vx_MQ below Qc XC args s mc ms free) (F0 m pc ls rest) := by
  intro T hT X
  have htr : e.platform.stackTraces = false := (show e.platform.stackTraces = l.stackTraces by rw [X.admits.platform]).trans hl
  have Y := vx_rebase X (R' := { frames := R.frames, locals := R.locals, cells := 1, slots := 6 }) (Nat.le_refl _) (Nat.le_refl _) hRcells hRslots
  obtain ⟨s', hA⟩ : ∃ z, z = (T.setVm s.vm).setFrames (.invoking m args :: below) := ⟨_, rfl⟩
  rw [← hA] at Y
  have hvm : s'.vm = s.vm := by rw [hA]; rfl
  have hhp : s'.heap = H := by rw [hA]; exact hT
  have hW0 : s.WarmedH s'.vm := by rw [hvm]; exact State.WarmedH.refl s
  have hat' : ∀ w ∈ vx_atS own ic cls names, w.before args s' = true := fun w hw => vx_ot_at hW0 hvm.symm (hgood w (List.mem_cons_of_mem _ (List.mem_cons_of_mem _ hw))) (hat w hw)
  have hk' : (Cond.classLink own ik cls).before args s' = true := vx_ot_at hW0 hvm.symm (hgood _ List.mem_cons_self) hk
  have hini' : (Cond.initialized cls).before args s' = true := vx_ot_at hW0 hvm.symm (hgood _ (List.mem_cons_of_mem _ List.mem_cons_self)) hini
  have hU' : vx_Zq Bundle.tN "UNASSIGNED_STACK" Bundle.steD A s' s'.heap := by rw [hhp]; exact vx_Zq.moved hW0.alike (hU.kept hS.2.1)
  have hN' : vx_Zq Bundle.tN "SUPPRESSED_SENTINEL" Bundle.listD A s' s'.heap := by rw [hhp]; exact vx_Zq.moved hW0.alike (hN.kept hS.2.1)
  have h : ∀ w ∈ Bundle.ownAtoms own ic cls names, w.before args s' = true := vx_own hat' (vx_isRefq hU'.1) (vx_isRefq hN'.1) hU'.2.word hN'.2.word
  have hown' : s'.vm.findClass own = some m.cls := by rw [hvm]; exact hown
  have hins : (Cond.instantiable cls 6).before args s' = true := h _ (by simp [Bundle.ownAtoms])
  obtain ⟨vm₁, cX, kX, hfX, hkX, -, -, X₁, st1⟩ := Y.newCold hexec (own := own) (C := cls) (index := ik) (n := 6) hown' hk' hins hini'
    (g := F0 m pc ls rest) rfl (by rw [hb]; exact d0) (Nat.le_refl _) (Nat.le_refl _)
  generalize hT1 : (T.setVm vm₁).pushCell { cls := cX, slots := kX.instanceTypes.map defaultValue, vm := .none } = T1 at X₁ st1
  have hcat : (Value.ref T.heap.size).category = 1 := rfl
  have hcellA : T1.heap[T.heap.size]? = some (freshCell cX kX) := by rw [← hT1]; exact State.heap_pushCell_size _ _
  have d3' : decode c.code (pc + 3) = .ok (.dup, 1) := by rw [hb]; exact d3
  have d4' : decode c.code (pc + 4) = .ok (.ldc is, 2) := by rw [hb]; exact d4
  have hstr' : vk_R own is text sa s' := vk_R.warm hW0 hstr
  obtain ⟨U, hsteps, hrun, hend, hW, hsame, ce, hce, hO⟩ := X₁.ctorThrowS hexec htr (own := own) (cls := cls) (names := names) (ic := ic) hown' hcls hnames h (fun x hx => nomatch hx) hfX hkX hcellA (by rw [hhp, hT]; exact Nat.le_refl _) (msg := .ref sa) rfl
    (g := { method := m, pc := pc + 6, locals := ls, stack := .ref sa :: .ref T.heap.size :: .ref T.heap.size :: rest, locked := none }) rfl hsize rfl rfl (rest := rest) rfl
    (by rw [hb]; exact d6) (by rw [hb]; exact d9) hout hRframes (by simp only [List.map_cons, List.sum_cons, hcat]; omega) hlocks
  obtain ⟨f1, f2⟩ := vx_frame hsame
  rw [hhp] at f1 f2
  have hWs : s.WarmedH U.vm := State.WarmedH.trans hW0 hW
  have hcl : s.vm.findClass cls = some ce.cls := by
    have h9 := hO.cls
    rw [hvm] at h9
    exact h9
  have hall : s.sameButNew ({ U with vm := s.vm } : State) locs mc ms := by
    subst hA
    obtain ⟨e1, e2⟩ := hsame
    rw [State.setFrames_setFrames] at e1
    have h2 : (T.setVm s.vm).sameButNew ({ U with vm := s.vm } : State) [] (0 + 1) (0 + 6) := ⟨e1, e2⟩
    have h3 := X.same.trans h2
    rw [List.append_nil] at h3
    exact h3.mono hc hs
  refine ⟨U, ?_, .threw T.heap.size, hrun, hend, Or.inr ⟨T.heap.size, rfl, cls, ce, locs, hx U hWs.alike f1 (fun q hq => f2 q hq (fun z hz => nomatch hz)), hce, hO.vm, hcl, hWs, hall, hf⟩⟩
  refine st1 _ ?_
  show Steps p.tables e below (T1.setTop { method := m, pc := pc + 3, locals := ls, stack := .ref T.heap.size :: rest, locked := none }) _
  jvm_step X₁.here [X₁.here.top, hexec, d3', Value.category]
  exact X₁.ldcString hexec (own := own) (text := text) (index := is) (a := sa) hown' hstr'.1 hstr'.2
    (g := { method := m, pc := pc + 4, locals := ls, stack := .ref T.heap.size :: .ref T.heap.size :: rest, locked := none }) rfl d4' _ hsteps
/-- 'throw new E("text")', the text by a wide index -/
theorem vx_throwSW {cc : ByteArray} {pc : Nat} (hexec : p.tables.exec = Jvm.exec) (hb : c.code = cc) (hl : l.stackTraces = false) {own cls text : String} {names : List String} {ik is ic mc ms sa : Nat} {A : Nat → Prop}
    (hown : s.vm.findClass own = some m.cls) (hcls : Bundle.fit cls = true) (hnames : ∀ n ∈ names, Bundle.fit n = true)
    (hk : (Cond.classLink own ik cls).before args s = true) (hini : (Cond.initialized cls).before args s = true) (hstr : vk_R own is text sa s) (hat : ∀ w ∈ vx_atS own ic cls names, w.before args s = true)
    (hgood : ∀ w ∈ Cond.classLink own ik cls :: Cond.initialized cls :: vx_atS own ic cls names, vx_ot w = true)
    (hU : vx_Zq Bundle.tN "UNASSIGNED_STACK" Bundle.steD A s s.heap) (hN : vx_Zq Bundle.tN "SUPPRESSED_SENTINEL" Bundle.listD A s s.heap) (hS : va_S A s.heap H locs) (hsize : ls.size = c.maxLocals)
    (d0 : decode cc pc = .ok (.new ik, 3)) (d3 : decode cc (pc + 3) = .ok (.dup, 1)) (d4 : decode cc (pc + 4) = .ok (.ldc_w is, 3)) (d7 : decode cc (pc + 7) = .ok (.invokespecial ic, 3)) (d10 : decode cc (pc + 10) = .ok (.athrow, 1))
    (hout : ∀ x ∈ c.exceptionTable.toList, covers x (pc + 10) = false)
    (hRframes : names.length + 3 < R.frames) (hRlocals : (rest.map fun v => v.category).sum + (13 * (names.length + 1) + 43) ≤ R.locals) (hRcells : cells + 1 ≤ R.cells) (hRslots : slots + 6 ≤ R.slots) (hlocks : meth.locks = false)
    (hx : ∀ t : State, s.vm.Alike t.vm → H.size ≤ t.heap.size → (∀ q : Nat, q < H.size → t.heap[q]? = H[q]?) → XC cls s t)
    (hf : ∀ z ∈ locs, free z.base) (hc : cells + 1 ≤ mc) (hs : slots + 6 ≤ ms) :
    W p l e R s m args below meth c H locs cells slots (vx_MQ below Qc XC args s mc ms free) (F0 m pc ls rest) := by
  intro T hT X
  have htr : e.platform.stackTraces = false := (show e.platform.stackTraces = l.stackTraces by rw [X.admits.platform]).trans hl
  have Y := vx_rebase X (R' := { frames := R.frames, locals := R.locals, cells := 1, slots := 6 }) (Nat.le_refl _) (Nat.le_refl _) hRcells hRslots
  obtain ⟨s', hA⟩ : ∃ z, z = (T.setVm s.vm).setFrames (.invoking m args :: below) := ⟨_, rfl⟩
  rw [← hA] at Y
  have hvm : s'.vm = s.vm := by rw [hA]; rfl
  have hhp : s'.heap = H := by rw [hA]; exact hT
  have hW0 : s.WarmedH s'.vm := by rw [hvm]; exact State.WarmedH.refl s
  have hat' : ∀ w ∈ vx_atS own ic cls names, w.before args s' = true := fun w hw => vx_ot_at hW0 hvm.symm (hgood w (List.mem_cons_of_mem _ (List.mem_cons_of_mem _ hw))) (hat w hw)
  have hk' : (Cond.classLink own ik cls).before args s' = true := vx_ot_at hW0 hvm.symm (hgood _ List.mem_cons_self) hk
  have hini' : (Cond.initialized cls).before args s' = true := vx_ot_at hW0 hvm.symm (hgood _ (List.mem_cons_of_mem _ List.mem_cons_self)) hini
  have hU' : vx_Zq Bundle.tN "UNASSIGNED_STACK" Bundle.steD A s' s'.heap := by rw [hhp]; exact vx_Zq.moved hW0.alike (hU.kept hS.2.1)
  have hN' : vx_Zq Bundle.tN "SUPPRESSED_SENTINEL" Bundle.listD A s' s'.heap := by rw [hhp]; exact vx_Zq.moved hW0.alike (hN.kept hS.2.1)
  have h : ∀ w ∈ Bundle.ownAtoms own ic cls names, w.before args s' = true := vx_own hat' (vx_isRefq hU'.1) (vx_isRefq hN'.1) hU'.2.word hN'.2.word
  have hown' : s'.vm.findClass own = some m.cls := by rw [hvm]; exact hown
  have hins : (Cond.instantiable cls 6).before args s' = true := h _ (by simp [Bundle.ownAtoms])
  obtain ⟨vm₁, cX, kX, hfX, hkX, -, -, X₁, st1⟩ := Y.newCold hexec (own := own) (C := cls) (index := ik) (n := 6) hown' hk' hins hini'
    (g := F0 m pc ls rest) rfl (by rw [hb]; exact d0) (Nat.le_refl _) (Nat.le_refl _)
  generalize hT1 : (T.setVm vm₁).pushCell { cls := cX, slots := kX.instanceTypes.map defaultValue, vm := .none } = T1 at X₁ st1
  have hcat : (Value.ref T.heap.size).category = 1 := rfl
  have hcellA : T1.heap[T.heap.size]? = some (freshCell cX kX) := by rw [← hT1]; exact State.heap_pushCell_size _ _
  have d3' : decode c.code (pc + 3) = .ok (.dup, 1) := by rw [hb]; exact d3
  have d4' : decode c.code (pc + 4) = .ok (.ldc_w is, 3) := by rw [hb]; exact d4
  have hstr' : vk_R own is text sa s' := vk_R.warm hW0 hstr
  obtain ⟨U, hsteps, hrun, hend, hW, hsame, ce, hce, hO⟩ := X₁.ctorThrowS hexec htr (own := own) (cls := cls) (names := names) (ic := ic) hown' hcls hnames h (fun x hx => nomatch hx) hfX hkX hcellA (by rw [hhp, hT]; exact Nat.le_refl _) (msg := .ref sa) rfl
    (g := { method := m, pc := pc + 7, locals := ls, stack := .ref sa :: .ref T.heap.size :: .ref T.heap.size :: rest, locked := none }) rfl hsize rfl rfl (rest := rest) rfl
    (by rw [hb]; exact d7) (by rw [hb]; exact d10) hout hRframes (by simp only [List.map_cons, List.sum_cons, hcat]; omega) hlocks
  obtain ⟨f1, f2⟩ := vx_frame hsame
  rw [hhp] at f1 f2
  have hWs : s.WarmedH U.vm := State.WarmedH.trans hW0 hW
  have hcl : s.vm.findClass cls = some ce.cls := by
    have h9 := hO.cls
    rw [hvm] at h9
    exact h9
  have hall : s.sameButNew ({ U with vm := s.vm } : State) locs mc ms := by
    subst hA
    obtain ⟨e1, e2⟩ := hsame
    rw [State.setFrames_setFrames] at e1
    have h2 : (T.setVm s.vm).sameButNew ({ U with vm := s.vm } : State) [] (0 + 1) (0 + 6) := ⟨e1, e2⟩
    have h3 := X.same.trans h2
    rw [List.append_nil] at h3
    exact h3.mono hc hs
  refine ⟨U, ?_, .threw T.heap.size, hrun, hend, Or.inr ⟨T.heap.size, rfl, cls, ce, locs, hx U hWs.alike f1 (fun q hq => f2 q hq (fun z hz => nomatch hz)), hce, hO.vm, hcl, hWs, hall, hf⟩⟩
  refine st1 _ ?_
  show Steps p.tables e below (T1.setTop { method := m, pc := pc + 3, locals := ls, stack := .ref T.heap.size :: rest, locked := none }) _
  jvm_step X₁.here [X₁.here.top, hexec, d3', Value.category]
  exact X₁.ldcStringW hexec (own := own) (text := text) (index := is) (a := sa) hown' hstr'.1 hstr'.2
    (g := { method := m, pc := pc + 4, locals := ls, stack := .ref T.heap.size :: .ref T.heap.size :: rest, locked := none }) rfl d4' _ hsteps
end Ends
section Bodies
variable {l : Launch}
theorem vx_ofW {y : MethodName} {ws ws' : List Cond} {rm : Room} {Pc : Array Value → State → Prop} {Qc : Array Value → State → Outcome → State → Prop} {XC : String → State → State → Prop} {mc ms : Nat} {free : Addr → Prop} {cc : ByteArray} {maxL : Nat} {ret : Option FieldType}
    (hy : plainName y.cls = true) (hw : ws = Cond.code y cc maxL ret :: ws')
    (body : ∀ p e s m args below meth c s₁, BodyLoose p l y (headSpec ws rm) cc maxL ret e s m args below meth c s₁ → c.maxLocals = maxL → (∀ x ∈ c.exceptionTable.toList, False) → Pc args s →
      W p l e (headSpec ws rm).room s m args below meth c s.heap [] 0 0 (vx_MQ below Qc XC args s mc ms free) (entryFrame m args maxL)) : vx_Met l y ws rm Pc Qc XC mc ms free := by
  refine MetFree.of_bodyS (code := cc) (maxLocals := maxL) (ret := ret) hy ?_ ?_
  · intro args s m h hn
    obtain ⟨meth, c, h1, h2, h3, h4, h5, h6, -, -⟩ := Cond.code_spec hn (atoms_spec (ws := ws) h _ (by rw [hw]; exact List.mem_cons_self))
    exact ⟨meth, c, h1, h2, h3, h4, h5, h6⟩
  · intro p e s m args below meth c s₁ B hml hP _
    have hh0 : s₁.heap = s.heap := by rw [B.state]; rfl
    have ht : ∀ x ∈ c.exceptionTable.toList, False := by
      obtain ⟨meth9, c9, h1, h2, -, -, -, -, h7, -⟩ := Cond.code_spec B.named (atoms_spec (ws := ws) B.pre _ (by rw [hw]; exact List.mem_cons_self))
      cases Option.some.inj (h1.symm.trans B.method)
      cases Option.some.inj (h2.symm.trans (Stand.of_body B).code)
      intro x hx
      rw [Array.isEmpty_iff.mp h7] at hx
      cases hx
    obtain ⟨t, a1, o, b1, b2, b3⟩ := body p e s m args below meth c s₁ B hml ht hP s₁ hh0 (Stand.of_body B)
    exact ⟨t, o, a1, b1, b2, b3⟩
/-- the table of a body with handlers -/
theorem vx_table {p : Program} {x y : MethodName} {S : Spec} {cc bytes : ByteArray} {maxL maxL' : Nat} {ret ret' : Option FieldType} {e : Env} {s s₁ : State} {m : MethodId} {args : Array Value} {below : List Frame} {meth : Method} {c : Code} {hh : List (Nat × Nat × Nat × Nat)}
    (B : BodyLoose p l y S cc maxL ret e s m args below meth c s₁) (h : (Cond.codeWith y bytes maxL' ret' hh).before args s = true) : c.exceptionTable.toList = tableOf hh := by
  obtain ⟨m9, meth9, c9, hn9, h1, h2, -, -, h6, -⟩ := Cond.codeWith_spec h
  cases Option.some.inj (hn9.symm.trans B.named)
  cases Option.some.inj (h1.symm.trans B.method)
  cases Option.some.inj (h2.symm.trans (Stand.of_body B).code)
  rw [← h6, table_eq]
end Bodies
end VXA
/-! ===== END ===== -/
/-! ===== BEGIN a static call of a method with an exception table ===== -/
section VXS
variable {p : Program} {l : Launch} {e : Env} {R : Room} {s : State} {m : MethodId} {args : Array Value} {below : List Frame} {meth : Method} {c : Code} {T : State} {H : Heap} {locs : List Loc} {cells slots : Nat}
abbrev vx_CSW (R : Room) (s : State) (args : Array Value) (own : String) (index : Nat) (y : MethodName) (bytes : ByteArray) (maxL : Nat) (ret : Option FieldType) (hh : List (Nat × Nat × Nat × Nat)) (ws : List Cond) (rm : Room) (mc ms n : Nat) : Prop :=
  (rm.cells = mc ∧ rm.slots = ms ∧ rm.frames + 1 ≤ R.frames ∧ 8 + (maxL + 11) + rm.locals ≤ R.locals ∧ (∀ w ∈ ws, ∀ (a' : Array Value) (U : State), s.WarmedH U.vm → w.before a' U = true) ∧ Cond.codeWith y bytes maxL ret hh ∈ ws) ∧
  (Cond.codeWith y bytes maxL ret hh).before args s = true ∧ (Cond.initialized y.cls).before args s = true ∧ (y.cls ≠ "java/lang/invoke/MethodHandle" ∧ y.cls ≠ "java/lang/invoke/VarHandle") ∧
  (∀ sig, parseMethodDescriptor y.desc = some sig → n = sig.parameters.length) ∧ (Cond.methodLink own index y).before args s = true ∧ (Cond.static y).before args s = true
theorem vx_cwSW {own : String} {index maxL mc ms : Nat} {y : MethodName} {bytes : ByteArray} {ret : Option FieldType} {hh : List (Nat × Nat × Nat × Nat)} {Ts ws ws' : List Cond} {rm : Room} (n : Nat) (ht : ∀ w ∈ Ts, w.before args s = true) (hT : GoodIn Ts (va_wsS own index y ws)) (hw : ws = Cond.codeWith y bytes maxL ret hh :: ws') (hrc : rm.cells = mc) (hrs : rm.slots = ms)
    (hd : y.cls ≠ "java/lang/invoke/MethodHandle" ∧ y.cls ≠ "java/lang/invoke/VarHandle" ∧ (parseMethodDescriptor y.desc).map (fun d => d.parameters.length) = some n) (hR : rm.frames + 1 ≤ R.frames ∧ 8 + (maxL + 11) + rm.locals ≤ R.locals) :
    vx_CSW R s args own index y bytes maxL ret hh ws rm mc ms n := by
  have ok : ∀ w ∈ va_wsS own index y ws, w.before args s = true := fun w h => ht w (hT w h).1
  have hG : GoodIn Ts ws := fun w h => hT w (by unfold va_wsS; exact List.mem_append_right _ h)
  have hc : Cond.codeWith y bytes maxL ret hh ∈ ws := by rw [hw]; exact List.mem_cons_self
  refine ⟨⟨hrc, hrs, hR.1, hR.2, pay_in ht hG, hc⟩, ht _ (hG _ hc).1, ok _ (by simp [va_wsS]), ⟨hd.1, hd.2.1⟩, fun sig h => ?_, ok _ (by simp [va_wsS]), ok _ (by simp [va_wsS])⟩
  have h2 := hd.2.2
  rw [h] at h2
  exact (Option.some.inj h2).symm
theorem vx_callSW (X : Stand p l e R s m args below meth c T locs cells slots) (hexec : p.tables.exec = Jvm.exec) {own : String} {index : Nat} {y : MethodName} {bytes : ByteArray} {maxL : Nat} {ret : Option FieldType} {hh : List (Nat × Nat × Nat × Nat)}
    (hown : s.vm.findClass own = some m.cls) (hlink : (Cond.methodLink own index y).before args s = true) (hstat : (Cond.static y).before args s = true) (hinit : (Cond.initialized y.cls).before args s = true)
    (hcode : (Cond.codeWith y bytes maxL ret hh).before args s = true) (hy : y.cls ≠ "java/lang/invoke/MethodHandle" ∧ y.cls ≠ "java/lang/invoke/VarHandle")
    {W9 : Nat} {Pre : Pt → Array Value → Prop} {Post : Pt → Array Value → Option Value → Pt → Prop} (hK : Back l R p e below s args y 3 W9 Pre Post)
    {g : JFrame} (hg : g.method = m) (hsize : g.locals.size = c.maxLocals) {argsL rest : List Value} (hlen : ∀ sig, parseMethodDescriptor y.desc = some sig → argsL.length = sig.parameters.length)
    (hstack : g.stack = argsL.reverse ++ rest) (hW : 2 * g.monitorRoom + (rest.map fun v => v.category).sum ≤ W9) (hdg : decode c.code g.pc = .ok (.invokestatic index, 3))
    (hpre : ∀ vm₁, s.WarmedH vm₁ → Pre ⟨T.setVm vm₁, locs, cells, slots⟩ argsL.toArray) :
    ∃ (v : Option Value) (vm₁ : Vm) (B : Pt), s.WarmedH vm₁ ∧ Stand p l e R s m args below meth c B.U B.locs B.cells B.slots ∧ Post ⟨T.setVm vm₁, locs, cells, slots⟩ argsL.toArray v B ∧
      ∀ target, Steps p.tables e below (B.U.setTop { g with pc := g.pc + 3, stack := v.toList ++ rest }) target → Steps p.tables e below (T.setTop g) target := by
  obtain ⟨mk, methM, cM, hnamed, hmethM, -, -, -, -, -, -, hsigM⟩ := Cond.codeWith_spec hcode
  have hstatic : methM.isStatic = true := Cond.static_spec hnamed hmethM hstat
  obtain ⟨kP, hkP, -⟩ := className_of_methodNamed hnamed
  have hinitP : kP.init = .initialized := Cond.initialized_spec (findClass_of_methodNamed hnamed) hkP hinit
  obtain ⟨vm₁, X₁, hstep₁⟩ := X.invokestatic hexec hown hlink hnamed hmethM hstatic hkP hinitP hy (g := g) hg (argsL := argsL) (rest := rest) (hlen _ hsigM) hstack hdg
  obtain ⟨v, B, X', hpost, hsteps⟩ := hK m meth c ⟨T.setVm vm₁, locs, cells, slots⟩ { g with stack := rest } (.invokestatic index) mk argsL.toArray X₁ hg hsize hdg hW (X₁.named hnamed) (hpre vm₁ X₁.warmed)
  exact ⟨v, vm₁, B, X₁.warmed, X', hpost, fun target h => hstep₁ _ fun acts => by rw [doInvoke_state]; exact hsteps.trans h⟩
theorem vx_runSW {y : MethodName} {bytes cc : ByteArray} {maxL nL mc ms n index : Nat} {ret : Option FieldType} {hh : List (Nat × Nat × Nat × Nat)} {ws : List Cond} {rm : Room} {Pc : Array Value → State → Prop} {Qc : Array Value → State → Outcome → State → Prop} {free : Addr → Prop} {Ts : List Cond} {own : String} {As rest : List Value} {g : JFrame}
    (S : CallFix p m c cc nL s args Ts own) (hM : Met l y ws rm Pc Qc mc ms free) (cw : vx_CSW R s args own index y bytes maxL ret hh ws rm mc ms n) (hp : PreS s H Pc As)
    (hg : g.method = m) (hn : As.length = n) (hsize : g.locals.size = nL) (hstack : g.stack = As.reverse ++ rest) (hW : 2 * g.monitorRoom + (rest.map fun v => v.category).sum ≤ 8) (hdg : decode cc g.pc = .ok (.invokestatic index, 3)) (hf : cells + mc ≤ R.cells ∧ slots + ms ≤ R.slots) :
    va_Run p l e R s m args below meth c H locs cells slots mc ms g rest (Qc As.toArray) (free) := by
  obtain ⟨⟨hrc, hrs, hfr, hlo, hws, hcw⟩, hcode, hini, hy, hlen, hl, hstt⟩ := cw
  have hK : Back l R p e below s args y 3 8 (PreOf R mc ms Pc) (PostOf Qc mc ms free) := va_backW (hh := hh) (bytes := bytes) (maxL := maxL) (ret := ret) hM hp.1 hrc hrs hfr hlo hws hcw (fun a' U hW => word_at hW (Or.inl (by first | rfl | simp [Cond.onTables, Cond.keeps, Cond.steady])) hini)
  obtain ⟨hx, hb, hml, ho, -⟩ := S
  intro T hT X
  obtain ⟨v, vm₁, ⟨U', l2, c2, s2⟩, hW₁, X', ⟨g', mk, t, L, e1, e2, hq, h1, hL, h2, h3⟩, st⟩ := vx_callSW X hx (hh := hh) (bytes := bytes) (maxL := maxL) (ret := ret) ho hl hstt hini hcode hy hK hg (hsize.trans hml.symm) (argsL := As) (rest := rest) (fun sig h => hn.trans (hlen sig h)) hstack hW (by rw [hb]; exact hdg)
    (fun vm₁ hW₁ => ⟨hf.1, hf.2, hp.2 (T.setVm vm₁) hT hW₁⟩)
  dsimp only [Pt.U, Pt.locs, Pt.cells, Pt.slots] at X' e1 e2 h1 h2 h3 st
  subst h1; subst h2; subst h3
  exact ⟨v, (T.setVm vm₁).calling g' mk As.toArray, t, U', L, hT, X', hL, e1, e2, hq, st⟩
/-- not caught here, past rows that name other classes: it goes on to the caller -/
theorem vx_outP {p : Program} {l : Launch} {e : Env} {R : Room} {s : State} {m : MethodId} {args : Array Value} {below : List Frame} {meth : Method} {c : Code} {H : Heap} {locs : List Loc} {cells slots : Nat} {free : Addr → Prop} {ls : Array Slot} {rest : List Value} {Qc : Array Value → State → Outcome → State → Prop} {XC : String → State → State → Prop}
    {pc : Nat} {own E : String} {ce : Cell} {q : Addr} {mc ms : Nat} (hown : s.vm.findClass own = some m.cls) (hlocks : meth.locks = false)
    (hpass : ∀ z ∈ c.exceptionTable.toList, covers z pc = false ∨ (z.catchType ≠ 0 ∧ ∃ nm : String, (Cond.classLink own z.catchType nm).before args s = true ∧ va_Nc E nm s)) (hcell : H[q]? = some ce) (hv : ce.vm = .none) (hcl : s.vm.findClass E = some ce.cls)
    (hx : ∀ t : State, t.heap = H → s.vm.Alike t.vm → XC E s t) (hf : ∀ z ∈ locs, free z.base) (hc : cells ≤ mc) (hs : slots ≤ ms) :
    vx_W p l e R s m args below meth c H locs cells slots (vx_MQ below Qc XC args s mc ms free) (F0 m pc ls rest) q := by
  intro T hT X
  have hpl : e.platform.magicAccessors = ({} : Platform).magicAccessors := by rw [X.admits.platform]
  obtain ⟨vm', hW', X', st⟩ := X.outThrough hlocks q (g := F0 m pc ls rest) rfl rfl rfl (cell := ce) (by rw [hT]; exact hcell) (by rw [hv]; rfl)
    (by obtain ⟨k9, h9, -⟩ := Vm.findClass_spec hcl; exact ⟨k9, h9⟩) (fun z hz => by
      rcases hpass z hz with h | ⟨hz0, nm, hl1, hn1⟩
      · exact Or.inl h
      · obtain ⟨c6, hc6, hcl6⟩ := Cond.classLink_spec hown hl1 e.platform hpl
        obtain ⟨a8, b8, h1, h2, h3⟩ := hn1
        cases Option.some.inj (h1.symm.trans hcl)
        cases Option.some.inj (h2.symm.trans hc6)
        exact Or.inr ⟨hz0, _, hcl6, h3⟩)
  obtain ⟨g₀, hfr⟩ := X'.frames_eq
  have hcell9 : ((T.setVm vm').setFrames (.throwing q :: below)).heap[q]? = some ce := by
    show T.heap[q]? = some ce
    rw [hT]; exact hcell
  have hend : Ended ((T.setVm vm').setFrames (.throwing q :: below)) below (.threw q) := State.frames_setFrames _ (State.cur_lt_of_frames hfr)
  refine ⟨(T.setVm vm').setFrames (.throwing q :: below), ?_, .threw q, X'.here.running, hend, Or.inr ⟨q, rfl, E, ce, locs, hx _ hT (X'.ends _).1.alike, hcell9, hv, hcl, (X'.ends _).1, (X'.ends _).2.mono hc hs, hf⟩⟩
  rw [X.pushThrowing_eq]
  exact st
/-- a thing of a world lies in the heap -/
theorem vx_lt {D : va_G} {cl : List vw_C} {ws : va_W} {H1 : Heap} (h : va_P D cl ws H1) {k : Nat} {q : Nat × va_E} (hk : ws[k]? = some q) : q.1 < H1.size := (h k q hk).lt
end VXS
/-! ===== END ===== -/
/-! ===== BEGIN methods with a table of their own: called by a name, returning or throwing ===== -/
section VXH
/-! vx_backW, vx_callVX, vx_callSX, vx_callVW, vx_runVW, vx_runVX, vx_runSX, vx_ofWH follow the same proofs as their sisters above (Free/Laws.lean, Shelf42/LK1.lean); vx_outP calls Shelf42/NT130.lean (outThrough). -/
section
variable {l : Launch} {R : Room} {p : Program} {e : Env} {below : List Frame} {s : State} {sargs : Array Value} {y : MethodName} {len W9 : Nat}
theorem vx_backW {ws : List Cond} {rm : Room} {Pc : Array Value → State → Prop} {Qc : Array Value → State → Outcome → State → Prop} {XC : String → State → State → Prop} {mc ms : Nat} {free : Addr → Prop} {bytes : ByteArray} {maxL : Nat} {ret : Option FieldType} {hh : List (Nat × Nat × Nat × Nat)}
    (hM : vx_Met l y ws rm Pc Qc XC mc ms free) (hblind : FrameBlind Pc) (hrc : rm.cells = mc) (hrs : rm.slots = ms)
    (hframes : rm.frames + 1 ≤ R.frames) (hlocals : W9 + (maxL + 11) + rm.locals ≤ R.locals)
    (hws : ∀ w ∈ ws, ∀ a' U, s.WarmedH U.vm → w.before a' U = true) (hcode : Cond.codeWith y bytes maxL ret hh ∈ ws) (hinit : ∀ a' U, s.WarmedH U.vm → (Cond.initialized y.cls).before a' U = true) :
    vx_Back l R p e below s sargs y len W9 (PreOf R mc ms Pc) (PostOf Qc mc ms free) (vx_Post XC mc ms free) := by
  intro m meth c A g ig mk a X hg hsize hdg hW hn hp
  have h1 : (headSpec ws rm).pre.before a A.U = true := atoms_intro fun w hw => hws w hw _ _ X.warmed
  have h2 : (Cond.codeWith y bytes maxL ret hh).before a A.U = true := hws _ hcode _ _ X.warmed
  have h3 : (Cond.initialized y.cls).before a A.U = true := hinit _ _ X.warmed
  have h4 : A.cells + (headSpec ws rm).room.cells ≤ R.cells := by rw [show (headSpec ws rm).room.cells = mc from hrc]; exact hp.1
  have h5 : A.slots + (headSpec ws rm).room.slots ≤ R.slots := by rw [show (headSpec ws rm).room.slots = ms from hrs]; exact hp.2.1
  have hPc : Pc a (A.U.calling g mk a) := hblind _ _ _ _ hp.2.2
  obtain ⟨U, Ls, c0, s0⟩ := A
  dsimp only [Pt.U, Pt.locs, Pt.cells, Pt.slots] at h1 h2 h3 h4 h5 X hn hPc ⊢
  obtain ⟨m9, methY, cY, hn9, hmY, hcY, -, hlY, -⟩ := Cond.codeWith_spec h2
  cases Option.some.inj (hn9.symm.trans hn)
  obtain ⟨kY, hkY, -⟩ := className_of_methodNamed hn
  have hinitY : kY.init = .initialized := Cond.initialized_spec (findClass_of_methodNamed hn) hkY h3
  have h : At U g.method c below := by rw [hg]; exact X.here
  have hlocals9 : W9 + (maxL + 11) + (headSpec ws rm).room.locals ≤ R.locals := hlocals
  have happ : (headSpec ws rm).appliesLoose y e.platform (U.calling g mk a) = true :=
    Spec.appliesLoose_calling (g := g) h hdg hn hkY hinitY
      (X.room_calling (g := g) (R' := (headSpec ws rm).room) hsize hmY hcY hframes (by rw [hlY]; omega) h4 h5) h1
  obtain ⟨mid, hmid⟩ := h.above
  have hfr : (U.setTop g).frames = (.java g :: mid) ++ below := by rw [State.frames_setTop' g h.top, hmid]; rfl
  obtain ⟨o, s₂, hsteps, -, hend, hq⟩ := Steps.callFree hM p X.admits X.cas X.clock (acts := []) hfr happ hPc trivial
  have hq' : vx_Q Qc XC mc ms free a (U.calling g mk a) o s₂ := hq
  rw [State.frames_setTop' g h.top] at hend
  obtain ⟨g₀, hg0⟩ := Option.isSome_iff_exists.mp h.top
  obtain ⟨r, hr⟩ := State.topJava?_eq_some.mp hg0
  have hr' : (({ U with heap := s₂.heap, slotsUsed := s₂.slotsUsed } : State).setVm s₂.vm).frames = .java g₀ :: r := hr
  rcases hq' with ⟨hqc, L, hfe, hL⟩ | ⟨q, rfl, E, ce, L, hx, hce, hcv, hcl, hW₂, hsm, hL⟩
  · obtain ⟨⟨v, rfl⟩, hW₂, e2, q2, q3, q4, q5, q6⟩ := id hfe
    have e3 : s₂ = ({ (U.calling g mk a).setFrames s₂.frames with heap := s₂.heap, slotsUsed := s₂.slotsUsed } : State).setVm s₂.vm := by
      have : s₂ = ({ s₂ with vm := (U.calling g mk a).vm } : State).setVm s₂.vm := rfl
      rw [e2] at this
      exact this
    obtain ⟨c₂, i₂, len₂, hc₂, hd₂, hf₂⟩ := hend
    have hW' : U.WarmedH s₂.vm := hW₂
    have hcc : c₂ = c := by
      have h1 : s₂.code? g.method = U.code? g.method := by
        rw [State.code?_eq, State.code?_eq, hW'.alike.method?]
      exact Option.some.inj (hc₂.symm.trans (h1.trans h.code))
    subst hcc
    have hlen : len₂ = len := by rw [hdg] at hd₂; cases hd₂; rfl
    subst hlen
    have hs₂ : s₂ = (({ U with heap := s₂.heap, slotsUsed := s₂.slotsUsed } : State).setVm s₂.vm).setTop { g with pc := g.pc + len₂, stack := v.toList ++ g.stack } := by
      refine e3.trans ?_
      rw [hf₂, State.calling_eq h.top, State.setFrames_setFrames, State.setTop_of_frames _ hr', hr]
      rfl
    have hsame : U.sameButNew ({ U with heap := s₂.heap, slotsUsed := s₂.slotsUsed } : State) L mc ms := by
      refine ⟨?_, q2, q3, q4, q5, q6⟩
      obtain ⟨t, ht, -⟩ := State.frames_cons hr
      show ({ U with heap := s₂.heap, slotsUsed := s₂.slotsUsed } : State) = { U.setFrames U.frames with heap := s₂.heap, slotsUsed := s₂.slotsUsed }
      rw [State.setFrames_self ht]
    subst hg
    refine Or.inl ⟨v, ⟨(({ U with heap := s₂.heap, slotsUsed := s₂.slotsUsed } : State).setVm s₂.vm), Ls ++ L, c0 + mc, s0 + ms⟩,
      ⟨X.admits, X.cas, X.clock, X.frames, X.room, X.hears, X.method, X.code, (X.here.setHeapUsed s₂.heap s₂.slotsUsed).setVm hW'.alike, X.tail, State.WarmedH.trans X.warmed hW', X.limits, X.bytes, X.same.trans (hsame.setVm s.vm)⟩,
      ⟨g, mk, s₂, L, rfl, rfl, hqc, rfl, hL, rfl, rfl⟩, ?_⟩
    show Steps p.tables e below _ ((({ U with heap := s₂.heap, slotsUsed := s₂.slotsUsed } : State).setVm s₂.vm).setTop { g with pc := g.pc + len₂, stack := v.toList ++ g.stack })
    rw [← hs₂]
    exact hsteps
  · obtain ⟨e2, q2, q3, q4, q5, q6⟩ := id hsm
    have e3 : s₂ = ({ (U.calling g mk a).setFrames s₂.frames with heap := s₂.heap, slotsUsed := s₂.slotsUsed } : State).setVm s₂.vm := by
      have : s₂ = ({ s₂ with vm := (U.calling g mk a).vm } : State).setVm s₂.vm := rfl
      rw [e2] at this
      exact this
    have hf₂ : s₂.frames = .throwing q :: .java g :: U.frames.tail := hend
    have hW' : U.WarmedH s₂.vm := hW₂
    have hs₂ : s₂ = ((({ U with heap := s₂.heap, slotsUsed := s₂.slotsUsed } : State).setVm s₂.vm).setTop g).pushFrame (.throwing q) := by
      refine e3.trans ?_
      rw [hf₂, State.calling_eq h.top, State.setFrames_setFrames, State.pushFrame, State.frames_setTop _ hr', State.setTop_of_frames _ hr', State.setFrames_setFrames, hr]
      rfl
    have hsame : U.sameButNew ({ U with heap := s₂.heap, slotsUsed := s₂.slotsUsed } : State) L mc ms := by
      refine ⟨?_, q2, q3, q4, q5, q6⟩
      obtain ⟨t, ht, -⟩ := State.frames_cons hr
      show ({ U with heap := s₂.heap, slotsUsed := s₂.slotsUsed } : State) = { U.setFrames U.frames with heap := s₂.heap, slotsUsed := s₂.slotsUsed }
      rw [State.setFrames_self ht]
    subst hg
    refine Or.inr ⟨q, ⟨(({ U with heap := s₂.heap, slotsUsed := s₂.slotsUsed } : State).setVm s₂.vm), Ls ++ L, c0 + mc, s0 + ms⟩,
      ⟨X.admits, X.cas, X.clock, X.frames, X.room, X.hears, X.method, X.code, (X.here.setHeapUsed s₂.heap s₂.slotsUsed).setVm hW'.alike, X.tail, State.WarmedH.trans X.warmed hW', X.limits, X.bytes, X.same.trans (hsame.setVm s.vm)⟩,
      ⟨g, mk, s₂, L, E, ce, rfl, rfl, hx, hce, hcv, hcl, rfl, hL, rfl, rfl⟩, ?_⟩
    show Steps p.tables e below _ (((({ U with heap := s₂.heap, slotsUsed := s₂.slotsUsed } : State).setVm s₂.vm).setTop g).pushFrame (.throwing q))
    rw [← hs₂]
    exact hsteps
end
variable {p : Program} {l : Launch} {e : Env} {R : Room} {s : State} {m : MethodId} {args : Array Value} {below : List Frame} {meth : Method} {c : Code} {T : State} {H : Heap} {locs : List Loc} {cells slots : Nat}
theorem vx_callVX (X : Stand p l e R s m args below meth c T locs cells slots) (hexec : p.tables.exec = Jvm.exec) {own C : String} {index : Nat} {y : MethodName} {bytes : ByteArray} {maxL : Nat} {ret : Option FieldType} {hh : List (Nat × Nat × Nat × Nat)}
    (hown : s.vm.findClass own = some m.cls) (hlink : (Cond.methodLink own index y).before args s = true) (hinst : (Cond.instanceMethod y).before args s = true) (hsel : (Cond.selects C y y).before args s = true)
    (hcode : (Cond.codeWith y bytes maxL ret hh).before args s = true) (hy : y.cls ≠ "java/lang/invoke/MethodHandle" ∧ y.cls ≠ "java/lang/invoke/VarHandle")
    {W9 : Nat} {Pre : Pt → Array Value → Prop} {Post : Pt → Array Value → Option Value → Pt → Prop} {PostX : Pt → Array Value → Addr → Pt → Prop} (hK : vx_Back l R p e below s args y 3 W9 Pre Post PostX)
    {b : Addr} {cellB : Cell} (hcell : T.heap[b]? = some cellB) (hobj : cellB.vm.isStatics = false) (hcls : s.vm.findClass C = some cellB.cls)
    {g : JFrame} (hg : g.method = m) (hsize : g.locals.size = c.maxLocals) {argsL rest : List Value} (hlen : ∀ sig, parseMethodDescriptor y.desc = some sig → argsL.length = sig.parameters.length)
    (hstack : g.stack = argsL.reverse ++ .ref b :: rest) (hW : 2 * g.monitorRoom + (rest.map fun v => v.category).sum ≤ W9) (hdg : decode c.code g.pc = .ok (.invokevirtual index, 3))
    (hpre : ∀ vm₁, s.WarmedH vm₁ → Pre ⟨T.setVm vm₁, locs, cells, slots⟩ (Value.ref b :: argsL).toArray) :
    (∃ (v : Option Value) (vm₁ : Vm) (B : Pt), s.WarmedH vm₁ ∧ Stand p l e R s m args below meth c B.U B.locs B.cells B.slots ∧ Post ⟨T.setVm vm₁, locs, cells, slots⟩ (Value.ref b :: argsL).toArray v B ∧
      ∀ target, Steps p.tables e below (B.U.setTop { g with pc := g.pc + 3, stack := v.toList ++ rest }) target → Steps p.tables e below (T.setTop g) target) ∨
    (∃ (q : Addr) (vm₁ : Vm) (B : Pt), s.WarmedH vm₁ ∧ Stand p l e R s m args below meth c B.U B.locs B.cells B.slots ∧ PostX ⟨T.setVm vm₁, locs, cells, slots⟩ (Value.ref b :: argsL).toArray q B ∧
      Steps p.tables e below (T.setTop g) ((B.U.setTop { g with stack := rest }).pushFrame (.throwing q))) := by
  obtain ⟨mk, methM, hnamed, hmethM, hstM, habM⟩ := Cond.instanceMethod_spec hinst
  obtain ⟨m8, methM', cM, hn8, hmethM', -, -, -, -, -, -, hsigM⟩ := Cond.codeWith_spec hcode
  cases Option.some.inj (hn8.symm.trans hnamed)
  cases hmethM.symm.trans hmethM'
  obtain ⟨c2, r2, m2, q1, q2, q3, q4, kP, hkP, hkPi⟩ := Cond.selects_spec hsel
  cases hcls.symm.trans q1
  cases (State.methodFound?_of_named hnamed hy).symm.trans q2
  cases hnamed.symm.trans q3
  have hselP : selectMethod e.platform s.vm cellB.cls mk = .method mk := by rw [Launch.admits_selectMethod X.admits]; exact q4
  obtain ⟨vm₁, X₁, hstep₁⟩ := X.invokevirtual hexec hown hlink hnamed hmethM hstM hkP hkPi hy (a := b) (cell := cellB) hcell
    (fun z h => by rw [h] at hobj; cases hobj) hselP hmethM habM hkP hkPi (g := g) hg (argsL := argsL) (rest := rest) (hlen _ hsigM) hstack hdg
  rcases hK m meth c ⟨T.setVm vm₁, locs, cells, slots⟩ { g with stack := rest } (.invokevirtual index) mk (Value.ref b :: argsL).toArray X₁ hg hsize hdg hW (X₁.named hnamed) (hpre vm₁ X₁.warmed) with ⟨v, B, X', hpost, hsteps⟩ | ⟨q, B, X', hpost, hsteps⟩
  · exact Or.inl ⟨v, vm₁, B, X₁.warmed, X', hpost, fun target h => hstep₁ _ fun acts => by rw [doInvoke_state]; exact hsteps.trans h⟩
  · exact Or.inr ⟨q, vm₁, B, X₁.warmed, X', hpost, hstep₁ _ fun acts => by rw [doInvoke_state]; exact hsteps⟩
theorem vx_callSX (X : Stand p l e R s m args below meth c T locs cells slots) (hexec : p.tables.exec = Jvm.exec) {own : String} {index : Nat} {y : MethodName} {bytes : ByteArray} {maxL : Nat} {ret : Option FieldType} {hh : List (Nat × Nat × Nat × Nat)}
    (hown : s.vm.findClass own = some m.cls) (hlink : (Cond.methodLink own index y).before args s = true) (hstat : (Cond.static y).before args s = true) (hinit : (Cond.initialized y.cls).before args s = true)
    (hcode : (Cond.codeWith y bytes maxL ret hh).before args s = true) (hy : y.cls ≠ "java/lang/invoke/MethodHandle" ∧ y.cls ≠ "java/lang/invoke/VarHandle")
    {W9 : Nat} {Pre : Pt → Array Value → Prop} {Post : Pt → Array Value → Option Value → Pt → Prop} {PostX : Pt → Array Value → Addr → Pt → Prop} (hK : vx_Back l R p e below s args y 3 W9 Pre Post PostX)
    {g : JFrame} (hg : g.method = m) (hsize : g.locals.size = c.maxLocals) {argsL rest : List Value} (hlen : ∀ sig, parseMethodDescriptor y.desc = some sig → argsL.length = sig.parameters.length)
    (hstack : g.stack = argsL.reverse ++ rest) (hW : 2 * g.monitorRoom + (rest.map fun v => v.category).sum ≤ W9) (hdg : decode c.code g.pc = .ok (.invokestatic index, 3))
    (hpre : ∀ vm₁, s.WarmedH vm₁ → Pre ⟨T.setVm vm₁, locs, cells, slots⟩ argsL.toArray) :
    (∃ (v : Option Value) (vm₁ : Vm) (B : Pt), s.WarmedH vm₁ ∧ Stand p l e R s m args below meth c B.U B.locs B.cells B.slots ∧ Post ⟨T.setVm vm₁, locs, cells, slots⟩ argsL.toArray v B ∧
      ∀ target, Steps p.tables e below (B.U.setTop { g with pc := g.pc + 3, stack := v.toList ++ rest }) target → Steps p.tables e below (T.setTop g) target) ∨
    (∃ (q : Addr) (vm₁ : Vm) (B : Pt), s.WarmedH vm₁ ∧ Stand p l e R s m args below meth c B.U B.locs B.cells B.slots ∧ PostX ⟨T.setVm vm₁, locs, cells, slots⟩ argsL.toArray q B ∧
      Steps p.tables e below (T.setTop g) ((B.U.setTop { g with stack := rest }).pushFrame (.throwing q))) := by
  obtain ⟨mk, methM, cM, hnamed, hmethM, -, -, -, -, -, -, hsigM⟩ := Cond.codeWith_spec hcode
  have hstatic : methM.isStatic = true := Cond.static_spec hnamed hmethM hstat
  obtain ⟨kP, hkP, -⟩ := className_of_methodNamed hnamed
  have hinitP : kP.init = .initialized := Cond.initialized_spec (findClass_of_methodNamed hnamed) hkP hinit
  obtain ⟨vm₁, X₁, hstep₁⟩ := X.invokestatic hexec hown hlink hnamed hmethM hstatic hkP hinitP hy (g := g) hg (argsL := argsL) (rest := rest) (hlen _ hsigM) hstack hdg
  rcases hK m meth c ⟨T.setVm vm₁, locs, cells, slots⟩ { g with stack := rest } (.invokestatic index) mk argsL.toArray X₁ hg hsize hdg hW (X₁.named hnamed) (hpre vm₁ X₁.warmed) with ⟨v, B, X', hpost, hsteps⟩ | ⟨q, B, X', hpost, hsteps⟩
  · exact Or.inl ⟨v, vm₁, B, X₁.warmed, X', hpost, fun target h => hstep₁ _ fun acts => by rw [doInvoke_state]; exact hsteps.trans h⟩
  · exact Or.inr ⟨q, vm₁, B, X₁.warmed, X', hpost, hstep₁ _ fun acts => by rw [doInvoke_state]; exact hsteps⟩
theorem vx_callVW (X : Stand p l e R s m args below meth c T locs cells slots) (hexec : p.tables.exec = Jvm.exec) {own C : String} {index : Nat} {y : MethodName} {bytes : ByteArray} {maxL : Nat} {ret : Option FieldType} {hh : List (Nat × Nat × Nat × Nat)}
    (hown : s.vm.findClass own = some m.cls) (hlink : (Cond.methodLink own index y).before args s = true) (hinst : (Cond.instanceMethod y).before args s = true) (hsel : (Cond.selects C y y).before args s = true)
    (hcode : (Cond.codeWith y bytes maxL ret hh).before args s = true) (hy : y.cls ≠ "java/lang/invoke/MethodHandle" ∧ y.cls ≠ "java/lang/invoke/VarHandle")
    {W9 : Nat} {Pre : Pt → Array Value → Prop} {Post : Pt → Array Value → Option Value → Pt → Prop} (hK : Back l R p e below s args y 3 W9 Pre Post)
    {b : Addr} {cellB : Cell} (hcell : T.heap[b]? = some cellB) (hobj : cellB.vm.isStatics = false) (hcls : s.vm.findClass C = some cellB.cls)
    {g : JFrame} (hg : g.method = m) (hsize : g.locals.size = c.maxLocals) {argsL rest : List Value} (hlen : ∀ sig, parseMethodDescriptor y.desc = some sig → argsL.length = sig.parameters.length)
    (hstack : g.stack = argsL.reverse ++ .ref b :: rest) (hW : 2 * g.monitorRoom + (rest.map fun v => v.category).sum ≤ W9) (hdg : decode c.code g.pc = .ok (.invokevirtual index, 3))
    (hpre : ∀ vm₁, s.WarmedH vm₁ → Pre ⟨T.setVm vm₁, locs, cells, slots⟩ (Value.ref b :: argsL).toArray) :
    ∃ (v : Option Value) (vm₁ : Vm) (B : Pt), s.WarmedH vm₁ ∧ Stand p l e R s m args below meth c B.U B.locs B.cells B.slots ∧ Post ⟨T.setVm vm₁, locs, cells, slots⟩ (Value.ref b :: argsL).toArray v B ∧
      ∀ target, Steps p.tables e below (B.U.setTop { g with pc := g.pc + 3, stack := v.toList ++ rest }) target → Steps p.tables e below (T.setTop g) target := by
  obtain ⟨mk, methM, hnamed, hmethM, hstM, habM⟩ := Cond.instanceMethod_spec hinst
  obtain ⟨m8, methM', cM, hn8, hmethM', -, -, -, -, -, -, hsigM⟩ := Cond.codeWith_spec hcode
  cases Option.some.inj (hn8.symm.trans hnamed)
  cases hmethM.symm.trans hmethM'
  obtain ⟨c2, r2, m2, q1, q2, q3, q4, kP, hkP, hkPi⟩ := Cond.selects_spec hsel
  cases hcls.symm.trans q1
  cases (State.methodFound?_of_named hnamed hy).symm.trans q2
  cases hnamed.symm.trans q3
  have hselP : selectMethod e.platform s.vm cellB.cls mk = .method mk := by rw [Launch.admits_selectMethod X.admits]; exact q4
  obtain ⟨vm₁, X₁, hstep₁⟩ := X.invokevirtual hexec hown hlink hnamed hmethM hstM hkP hkPi hy (a := b) (cell := cellB) hcell
    (fun z h => by rw [h] at hobj; cases hobj) hselP hmethM habM hkP hkPi (g := g) hg (argsL := argsL) (rest := rest) (hlen _ hsigM) hstack hdg
  obtain ⟨v, B, X', hpost, hsteps⟩ := hK m meth c ⟨T.setVm vm₁, locs, cells, slots⟩ { g with stack := rest } (.invokevirtual index) mk (Value.ref b :: argsL).toArray X₁ hg hsize hdg hW (X₁.named hnamed) (hpre vm₁ X₁.warmed)
  exact ⟨v, vm₁, B, X₁.warmed, X', hpost, fun target h => hstep₁ _ fun acts => by rw [doInvoke_state]; exact hsteps.trans h⟩
abbrev vx_CVW (R : Room) (s : State) (args : Array Value) (own C : String) (index : Nat) (y : MethodName) (bytes : ByteArray) (maxL : Nat) (ret : Option FieldType) (hh : List (Nat × Nat × Nat × Nat)) (ws : List Cond) (rm : Room) (mc ms n : Nat) : Prop :=
  (rm.cells = mc ∧ rm.slots = ms ∧ rm.frames + 1 ≤ R.frames ∧ 8 + (maxL + 11) + rm.locals ≤ R.locals ∧ (∀ w ∈ ws, ∀ (a' : Array Value) (U : State), s.WarmedH U.vm → w.before a' U = true) ∧ Cond.codeWith y bytes maxL ret hh ∈ ws) ∧
  (Cond.codeWith y bytes maxL ret hh).before args s = true ∧ (Cond.initialized y.cls).before args s = true ∧ (y.cls ≠ "java/lang/invoke/MethodHandle" ∧ y.cls ≠ "java/lang/invoke/VarHandle") ∧
  (∀ sig, parseMethodDescriptor y.desc = some sig → n = sig.parameters.length) ∧ (Cond.methodLink own index y).before args s = true ∧ (Cond.instanceMethod y).before args s = true ∧ (Cond.selects C y y).before args s = true
theorem vx_cwVW {own C : String} {index maxL mc ms : Nat} {y : MethodName} {bytes : ByteArray} {ret : Option FieldType} {hh : List (Nat × Nat × Nat × Nat)} {Ts ws ws' : List Cond} {rm : Room} (n : Nat) (ht : ∀ w ∈ Ts, w.before args s = true) (hT : GoodIn Ts (wsV own index C y ws)) (hw : ws = Cond.codeWith y bytes maxL ret hh :: ws') (hrc : rm.cells = mc) (hrs : rm.slots = ms)
    (hd : y.cls = C ∧ y.cls ≠ "java/lang/invoke/MethodHandle" ∧ y.cls ≠ "java/lang/invoke/VarHandle" ∧ (parseMethodDescriptor y.desc).map (fun d => d.parameters.length) = some n) (hR : rm.frames + 1 ≤ R.frames ∧ 8 + (maxL + 11) + rm.locals ≤ R.locals) :
    vx_CVW R s args own C index y bytes maxL ret hh ws rm mc ms n := by
  obtain ⟨hC, hd⟩ := hd
  subst hC
  have ok : ∀ w ∈ wsV own index y.cls y ws, w.before args s = true := fun w h => ht w (hT w h).1
  have hG : GoodIn Ts ws := fun w h => hT w (by unfold wsV; exact List.mem_append_right _ h)
  have hc : Cond.codeWith y bytes maxL ret hh ∈ ws := by rw [hw]; exact List.mem_cons_self
  refine ⟨⟨hrc, hrs, hR.1, hR.2, pay_in ht hG, hc⟩, ht _ (hG _ hc).1, ok _ (by simp [wsV]), ⟨hd.1, hd.2.1⟩, fun sig h => ?_, ok _ (by simp [wsV]), ok _ (by simp [wsV]), ok _ (by simp [wsV])⟩
  have h2 := hd.2.2
  rw [h] at h2
  exact (Option.some.inj h2).symm
theorem vx_runVW {y : MethodName} {bytes cc : ByteArray} {maxL nL mc ms n index : Nat} {ret : Option FieldType} {hh : List (Nat × Nat × Nat × Nat)} {ws : List Cond} {rm : Room} {Pc : Array Value → State → Prop} {Qc : Array Value → State → Outcome → State → Prop} {free : Addr → Prop} {Ts : List Cond} {own C : String} {b : Addr} {As rest : List Value} {g : JFrame}
    (S : CallFix p m c cc nL s args Ts own) (hM : Met l y ws rm Pc Qc mc ms free) (cw : vx_CVW R s args own C index y bytes maxL ret hh ws rm mc ms n) (hp : PreV s H C b Pc As)
    (hg : g.method = m) (hn : As.length = n) (hsize : g.locals.size = nL) (hstack : g.stack = As.reverse ++ .ref b :: rest) (hW : 2 * g.monitorRoom + (rest.map fun v => v.category).sum ≤ 8) (hdg : decode cc g.pc = .ok (.invokevirtual index, 3)) (hf : cells + mc ≤ R.cells ∧ slots + ms ≤ R.slots) :
    va_Run p l e R s m args below meth c H locs cells slots mc ms g rest (Qc (Value.ref b :: As).toArray) free := by
  obtain ⟨⟨hrc, hrs, hfr, hlo, hws, hcw⟩, hcode, hini, hy, hlen, hl, hin, hse⟩ := cw
  have hK : Back l R p e below s args y 3 8 (PreOf R mc ms Pc) (PostOf Qc mc ms free) := va_backW (hh := hh) (bytes := bytes) (maxL := maxL) (ret := ret) hM hp.1 hrc hrs hfr hlo hws hcw (fun a' U hW => word_at hW (Or.inl (by first | rfl | simp [Cond.onTables, Cond.keeps, Cond.steady])) hini)
  obtain ⟨hx, hb, hml, ho, -⟩ := S
  obtain ⟨-, ⟨cellB, hcB, hoB, hclB⟩, hPc⟩ := hp
  intro T hT X
  obtain ⟨v, vm₁, ⟨U', l2, c2, s2⟩, hW₁, X', ⟨g', mk, t, L, e1, e2, hq, h1, hL, h2, h3⟩, st⟩ := vx_callVW X hx (C := C) (hh := hh) (bytes := bytes) (maxL := maxL) (ret := ret) ho hl hin hse hcode hy hK (by rw [hT]; exact hcB) hoB hclB hg (hsize.trans hml.symm) (argsL := As) (rest := rest) (fun sig h => hn.trans (hlen sig h)) hstack hW (by rw [hb]; exact hdg)
    (fun vm₁ hW₁ => ⟨hf.1, hf.2, hPc (T.setVm vm₁) hT hW₁⟩)
  dsimp only [Pt.U, Pt.locs, Pt.cells, Pt.slots] at X' e1 e2 h1 h2 h3 st
  subst h1; subst h2; subst h3
  exact ⟨v, (T.setVm vm₁).calling g' mk (Value.ref b :: As).toArray, t, U', L, hT, X', hL, e1, e2, hq, st⟩
section
variable {y : MethodName} {bytes cc : ByteArray} {maxL nL mc ms n index : Nat} {ret : Option FieldType} {ws : List Cond} {rm : Room} {Pc : Array Value → State → Prop} {Qc : Array Value → State → Outcome → State → Prop} {XC : String → State → State → Prop} {free : Addr → Prop} {Ts : List Cond} {own C : String} {b : Addr} {As rest : List Value} {g : JFrame}
theorem vx_runVX {hh : List (Nat × Nat × Nat × Nat)} (S : CallFix p m c cc nL s args Ts own) (hM : vx_Met l y ws rm Pc Qc XC mc ms free) (cw : vx_CVW R s args own C index y bytes maxL ret hh ws rm mc ms n) (hp : PreV s H C b Pc As)
    (hg : g.method = m) (hn : As.length = n) (hsize : g.locals.size = nL) (hstack : g.stack = As.reverse ++ .ref b :: rest) (hW : 2 * g.monitorRoom + (rest.map fun v => v.category).sum ≤ 8) (hdg : decode cc g.pc = .ok (.invokevirtual index, 3)) (hf : cells + mc ≤ R.cells ∧ slots + ms ≤ R.slots) :
    vx_Run p l e R s m args below meth c H locs cells slots mc ms g rest (Qc (Value.ref b :: As).toArray) XC free := by
  obtain ⟨⟨hrc, hrs, hfr, hlo, hws, hcw⟩, hcode, hini, hy, hlen, hl, hin, hse⟩ := cw
  have hK : vx_Back l R p e below s args y 3 8 (PreOf R mc ms Pc) (PostOf Qc mc ms free) (vx_Post XC mc ms free) := vx_backW (hh := hh) (bytes := bytes) (maxL := maxL) (ret := ret) hM hp.1 hrc hrs hfr hlo hws hcw (fun a' U hW => word_at hW (Or.inl (by first | rfl | simp [Cond.onTables, Cond.keeps, Cond.steady])) hini)
  obtain ⟨hx, hb, hml, ho, -⟩ := S
  obtain ⟨-, ⟨cellB, hcB, hoB, hclB⟩, hPc⟩ := hp
  intro T hT X
  rcases vx_callVX X hx (C := C) (hh := hh) (bytes := bytes) (maxL := maxL) (ret := ret) ho hl hin hse hcode hy hK (by rw [hT]; exact hcB) hoB hclB hg (hsize.trans hml.symm) (argsL := As) (rest := rest) (fun sig h => hn.trans (hlen sig h)) hstack hW (by rw [hb]; exact hdg)
    (fun vm₁ hW₁ => ⟨hf.1, hf.2, hPc (T.setVm vm₁) hT hW₁⟩) with ⟨v, vm₁, ⟨U', l2, c2, s2⟩, hW₁, X', ⟨g', mk, t, L, e1, e2, hq, h1, hL, h2, h3⟩, st⟩ | ⟨q, vm₁, ⟨U', l2, c2, s2⟩, hW₁, X', ⟨g', mk, t, L, E, ce, e1, e2, hq, hce, hcv, hcl, h1, hL, h2, h3⟩, st⟩
  · dsimp only [Pt.U, Pt.locs, Pt.cells, Pt.slots] at X' e1 e2 h1 h2 h3 st
    subst h1; subst h2; subst h3
    exact Or.inl ⟨v, (T.setVm vm₁).calling g' mk (Value.ref b :: As).toArray, t, U', L, hT, X', hL, e1, e2, hq, st⟩
  · dsimp only [Pt.U, Pt.locs, Pt.cells, Pt.slots] at X' e1 e2 h1 h2 h3 st hcl
    subst h1; subst h2; subst h3
    exact Or.inr ⟨q, (T.setVm vm₁).calling g' mk (Value.ref b :: As).toArray, t, U', L, E, ce, hT, X', hL, e1, e2, hq, hce, hcv, vx_cls hW₁ hcl, st⟩
theorem vx_runSX {hh : List (Nat × Nat × Nat × Nat)} (S : CallFix p m c cc nL s args Ts own) (hM : vx_Met l y ws rm Pc Qc XC mc ms free) (cw : vx_CSW R s args own index y bytes maxL ret hh ws rm mc ms n) (hp : PreS s H Pc As)
    (hg : g.method = m) (hn : As.length = n) (hsize : g.locals.size = nL) (hstack : g.stack = As.reverse ++ rest) (hW : 2 * g.monitorRoom + (rest.map fun v => v.category).sum ≤ 8) (hdg : decode cc g.pc = .ok (.invokestatic index, 3)) (hf : cells + mc ≤ R.cells ∧ slots + ms ≤ R.slots) :
    vx_Run p l e R s m args below meth c H locs cells slots mc ms g rest (Qc As.toArray) XC free := by
  obtain ⟨⟨hrc, hrs, hfr, hlo, hws, hcw⟩, hcode, hini, hy, hlen, hl, hstt⟩ := cw
  have hK : vx_Back l R p e below s args y 3 8 (PreOf R mc ms Pc) (PostOf Qc mc ms free) (vx_Post XC mc ms free) := vx_backW (hh := hh) (bytes := bytes) (maxL := maxL) (ret := ret) hM hp.1 hrc hrs hfr hlo hws hcw (fun a' U hW => word_at hW (Or.inl (by first | rfl | simp [Cond.onTables, Cond.keeps, Cond.steady])) hini)
  obtain ⟨hx, hb, hml, ho, -⟩ := S
  intro T hT X
  rcases vx_callSX X hx (hh := hh) (bytes := bytes) (maxL := maxL) (ret := ret) ho hl hstt hini hcode hy hK hg (hsize.trans hml.symm) (argsL := As) (rest := rest) (fun sig h => hn.trans (hlen sig h)) hstack hW (by rw [hb]; exact hdg)
    (fun vm₁ hW₁ => ⟨hf.1, hf.2, hp.2 (T.setVm vm₁) hT hW₁⟩) with ⟨v, vm₁, ⟨U', l2, c2, s2⟩, hW₁, X', ⟨g', mk, t, L, e1, e2, hq, h1, hL, h2, h3⟩, st⟩ | ⟨q, vm₁, ⟨U', l2, c2, s2⟩, hW₁, X', ⟨g', mk, t, L, E, ce, e1, e2, hq, hce, hcv, hcl, h1, hL, h2, h3⟩, st⟩
  · dsimp only [Pt.U, Pt.locs, Pt.cells, Pt.slots] at X' e1 e2 h1 h2 h3 st
    subst h1; subst h2; subst h3
    exact Or.inl ⟨v, (T.setVm vm₁).calling g' mk As.toArray, t, U', L, hT, X', hL, e1, e2, hq, st⟩
  · dsimp only [Pt.U, Pt.locs, Pt.cells, Pt.slots] at X' e1 e2 h1 h2 h3 st hcl
    subst h1; subst h2; subst h3
    exact Or.inr ⟨q, (T.setVm vm₁).calling g' mk As.toArray, t, U', L, E, ce, hT, X', hL, e1, e2, hq, hce, hcv, vx_cls hW₁ hcl, st⟩
end
end VXH
theorem vx_ofWH {l : Launch} {y : MethodName} {ws ws' : List Cond} {rm : Room} {Pc : Array Value → State → Prop} {Qc : Array Value → State → Outcome → State → Prop} {XC : String → State → State → Prop} {mc ms : Nat} {free : Addr → Prop} {cc : ByteArray} {maxL : Nat} {ret : Option FieldType} {hh : List (Nat × Nat × Nat × Nat)}
    (hy : plainName y.cls = true) (hw : ws = Cond.codeWith y cc maxL ret hh :: ws')
    (body : ∀ p e s m args below meth c s₁, BodyLoose p l y (headSpec ws rm) cc maxL ret e s m args below meth c s₁ → c.maxLocals = maxL → Pc args s →
      W p l e (headSpec ws rm).room s m args below meth c s.heap [] 0 0 (vx_MQ below Qc XC args s mc ms free) (entryFrame m args maxL)) : vx_Met l y ws rm Pc Qc XC mc ms free := by
  refine MetFree.of_bodyS (code := cc) (maxLocals := maxL) (ret := ret) hy ?_ ?_
  · intro args s m h hn
    obtain ⟨m9, meth, c, hn9, h1, h2, h3, h4, -, h5, h6, -⟩ := Cond.codeWith_spec (atoms_spec (ws := ws) h _ (by rw [hw]; exact List.mem_cons_self))
    cases hn.symm.trans hn9
    exact ⟨meth, c, h1, h2, h3, h4, h5, h6⟩
  · intro p e s m args below meth c s₁ B hml hP _
    have hh0 : s₁.heap = s.heap := by rw [B.state]; rfl
    obtain ⟨t, a1, o, b1, b2, b3⟩ := body p e s m args below meth c s₁ B hml hP s₁ hh0 (Stand.of_body B)
    exact ⟨t, o, a1, b1, b2, b3⟩
/-! ===== END ===== -/
end
section
def RX0 : String := "NuggetCamp$Claim"
def TX0 : u_T := fun k => match k with
  | 0 => ("NuggetCamp$Claim", "top", "I", true)
  | 1 => ("NuggetCamp$Claim", "many", "I", true)
  | 2 => ("NuggetCamp$Claim", "daysOfWork", "I", true)
  | 3 => ("NuggetCamp$Claim", "owner", "I", false)
  | 4 => ("NuggetCamp$Claim", "workedOn", "I", false)
  | 5 => ("NuggetCamp$Claim", "held", "Z", false)
  | 6 => ("NuggetCamp$Claim", "seller", "I", false)
  | 7 => ("NuggetCamp$Claim", "soldOn", "I", false)
  | 8 => ("NuggetCamp$Claim", "soldFor", "I", false)
  | 9 => ("NuggetCamp$Claim", "soldSalted", "Z", false)
  | _ => ("NuggetCamp$Claim", "suitBrought", "Z", false)
def tyX0 : Nat → FieldType := fun k => match k with
  | 0 => .int
  | 1 => .int
  | 2 => .int
  | 3 => .int
  | 4 => .int
  | 5 => .boolean
  | 6 => .int
  | 7 => .int
  | 8 => .int
  | 9 => .boolean
  | _ => .boolean
abbrev wsX00 : List Cond := u_ws RX0 TX0 11
theorem nmX0 : ∀ a, a < 11 → ∀ b, b < 11 → a ≠ b → (TX0 a).2.1 ≠ (TX0 b).2.1 := by decide +kernel
theorem tyX0_ok : ∀ k, k < 11 → parseFieldDescriptor (TX0 k).2.2.1 = some (tyX0 k) := by decide +kernel
abbrev cX0_init : ByteArray := prog_2_method_1_code
def yX0_init : MethodName := ⟨RX0, "<init>", "(IIIII)V"⟩
abbrev cX0_covers : ByteArray := prog_2_method_2_code
def yX0_covers : MethodName := ⟨RX0, "covers", "(I)Z"⟩
abbrev cX0_sellTo : ByteArray := prog_2_method_3_code
def yX0_sellTo : MethodName := ⟨RX0, "sellTo", "(IIIZ)V"⟩
def RX1 : String := "NuggetCamp$Creek"
def TX1 : u_T := fun k => match k with
  | 0 => ("NuggetCamp$Creek", "grains", "[I", true)
  | 1 => ("NuggetCamp$Creek", "clay", "[I", true)
  | 2 => ("NuggetCamp$Creek", "sea", "I", false)
  | _ => ("NuggetCamp$Creek", "touched", "Z", false)
def tyX1 : Nat → FieldType := fun k => match k with
  | 0 => .array .int
  | 1 => .array .int
  | 2 => .int
  | _ => .boolean
abbrev wsX10 : List Cond := u_ws RX1 TX1 4
theorem nmX1 : ∀ a, a < 4 → ∀ b, b < 4 → a ≠ b → (TX1 a).2.1 ≠ (TX1 b).2.1 := by decide +kernel
theorem tyX1_ok : ∀ k, k < 4 → parseFieldDescriptor (TX1 k).2.2.1 = some (tyX1 k) := by decide +kernel
abbrev cX1_init : ByteArray := prog_3_method_1_code
def yX1_init : MethodName := ⟨RX1, "<init>", "()V"⟩
abbrev cX1_grainsAt : ByteArray := prog_3_method_2_code
def yX1_grainsAt : MethodName := ⟨RX1, "grainsAt", "(I)I"⟩
abbrev cX1_clayAt : ByteArray := prog_3_method_3_code
def yX1_clayAt : MethodName := ⟨RX1, "clayAt", "(I)I"⟩
abbrev cX1_lay : ByteArray := prog_3_method_4_code
def yX1_lay : MethodName := ⟨RX1, "lay", "(III)V"⟩
abbrev cX1_drop : ByteArray := prog_3_method_5_code
def yX1_drop : MethodName := ⟨RX1, "drop", "(II)V"⟩
abbrev cX1_dig : ByteArray := prog_3_method_6_code
def yX1_dig : MethodName := ⟨RX1, "dig", "(ILNuggetCamp$Gear;)I"⟩
abbrev cX1_yieldDownwards : ByteArray := prog_3_method_7_code
def yX1_yieldDownwards : MethodName := ⟨RX1, "yieldDownwards", "(IILNuggetCamp$Gear;)I"⟩
abbrev cX1_goldInGround : ByteArray := prog_3_method_8_code
def yX1_goldInGround : MethodName := ⟨RX1, "goldInGround", "()I"⟩
def RX2 : String := "NuggetCamp$Gear"
def TX2 : u_T := fun k => match k with
  | _ => ("", "", "", false)
def tyX2 : Nat → FieldType := fun k => match k with
  | _ => .int
abbrev wsX20 : List Cond := u_ws RX2 TX2 0
theorem nmX2 : ∀ a, a < 0 → ∀ b, b < 0 → a ≠ b → (TX2 a).2.1 ≠ (TX2 b).2.1 := by decide +kernel
theorem tyX2_ok : ∀ k, k < 0 → parseFieldDescriptor (TX2 k).2.2.1 = some (tyX2 k) := by decide +kernel
abbrev cX2_recoveredOf : ByteArray := prog_4_method_4_code
def yX2_recoveredOf : MethodName := ⟨RX2, "recoveredOf", "(II)I"⟩
def RX3 : String := "NuggetCamp$Miner"
def TX3 : u_T := fun k => match k with
  | 0 => ("NuggetCamp$Miner", "percents", "[I", true)
  | 1 => ("NuggetCamp$Miner", "saltedOn", "[I", true)
  | 2 => ("NuggetCamp$Miner", "gold", "I", false)
  | 3 => ("NuggetCamp$Miner", "brass", "I", false)
  | 4 => ("NuggetCamp$Miner", "food", "I", false)
  | 5 => ("NuggetCamp$Miner", "coins", "I", false)
  | 6 => ("NuggetCamp$Miner", "health", "I", false)
  | 7 => ("NuggetCamp$Miner", "caught", "I", false)
  | _ => ("NuggetCamp$Miner", "workedOn", "I", false)
def tyX3 : Nat → FieldType := fun k => match k with
  | 0 => .array .int
  | 1 => .array .int
  | 2 => .int
  | 3 => .int
  | 4 => .int
  | 5 => .int
  | 6 => .int
  | 7 => .int
  | _ => .int
abbrev wsX30 : List Cond := u_ws RX3 TX3 9
theorem nmX3 : ∀ a, a < 9 → ∀ b, b < 9 → a ≠ b → (TX3 a).2.1 ≠ (TX3 b).2.1 := by decide +kernel
theorem tyX3_ok : ∀ k, k < 9 → parseFieldDescriptor (TX3 k).2.2.1 = some (tyX3 k) := by decide +kernel
abbrev cX3_init : ByteArray := prog_5_method_1_code
def yX3_init : MethodName := ⟨RX3, "<init>", "(II)V"⟩
abbrev cX3_isDead : ByteArray := prog_5_method_2_code
def yX3_isDead : MethodName := ⟨RX3, "isDead", "()Z"⟩
abbrev cX3_liveOneDay : ByteArray := prog_5_method_3_code
def yX3_liveOneDay : MethodName := ⟨RX3, "liveOneDay", "()V"⟩
abbrev cX3_dust : ByteArray := prog_5_method_4_code
def yX3_dust : MethodName := ⟨RX3, "dust", "()I"⟩
abbrev cX3_isSuspect : ByteArray := prog_5_method_5_code
def yX3_isSuspect : MethodName := ⟨RX3, "isSuspect", "()Z"⟩
abbrev cX3_brassIn : ByteArray := prog_5_method_6_code
def yX3_brassIn : MethodName := ⟨RX3, "brassIn", "(I)I"⟩
abbrev cX3_percentOf : ByteArray := prog_5_method_7_code
def yX3_percentOf : MethodName := ⟨RX3, "percentOf", "(I)I"⟩
abbrev cX3_setPercent : ByteArray := prog_5_method_8_code
def yX3_setPercent : MethodName := ⟨RX3, "setPercent", "(II)V"⟩
abbrev cX3_percentBacked : ByteArray := prog_5_method_9_code
def yX3_percentBacked : MethodName := ⟨RX3, "percentBacked", "()I"⟩
abbrev cX3_noteSalting : ByteArray := prog_5_method_10_code
def yX3_noteSalting : MethodName := ⟨RX3, "noteSalting", "(II)V"⟩
abbrev cX3_saltedLately : ByteArray := prog_5_method_11_code
def yX3_saltedLately : MethodName := ⟨RX3, "saltedLately", "(III)Z"⟩
def RX4 : String := "NuggetCamp$Right"
def TX4 : u_T := fun k => match k with
  | 0 => ("NuggetCamp$Right", "owner", "I", true)
  | _ => ("NuggetCamp$Right", "inches", "I", true)
def tyX4 : Nat → FieldType := fun k => match k with
  | 0 => .int
  | _ => .int
abbrev wsX40 : List Cond := u_ws RX4 TX4 2
theorem nmX4 : ∀ a, a < 2 → ∀ b, b < 2 → a ≠ b → (TX4 a).2.1 ≠ (TX4 b).2.1 := by decide +kernel
theorem tyX4_ok : ∀ k, k < 2 → parseFieldDescriptor (TX4 k).2.2.1 = some (tyX4 k) := by decide +kernel
abbrev cX4_init : ByteArray := prog_6_method_1_code
def yX4_init : MethodName := ⟨RX4, "<init>", "(II)V"⟩
def RX5 : String := "NuggetCamp$Rumours"
def TX5 : u_T := fun k => match k with
  | _ => ("NuggetCamp$Rumours", "beliefs", "[I", true)
def tyX5 : Nat → FieldType := fun k => match k with
  | _ => .array .int
abbrev wsX50 : List Cond := u_ws RX5 TX5 1
theorem nmX5 : ∀ a, a < 1 → ∀ b, b < 1 → a ≠ b → (TX5 a).2.1 ≠ (TX5 b).2.1 := by decide +kernel
theorem tyX5_ok : ∀ k, k < 1 → parseFieldDescriptor (TX5 k).2.2.1 = some (tyX5 k) := by decide +kernel
abbrev cX5_init : ByteArray := prog_7_method_1_code
def yX5_init : MethodName := ⟨RX5, "<init>", "()V"⟩
abbrev cX5_beliefOf : ByteArray := prog_7_method_2_code
def yX5_beliefOf : MethodName := ⟨RX5, "beliefOf", "(I)I"⟩
abbrev cX5_tell : ByteArray := prog_7_method_3_code
def yX5_tell : MethodName := ⟨RX5, "tell", "(II)V"⟩
abbrev cX5_fade : ByteArray := prog_7_method_4_code
def yX5_fade : MethodName := ⟨RX5, "fade", "()V"⟩
def RX6 : String := "NuggetCamp$Store"
def TX6 : u_T := fun k => match k with
  | 0 => ("NuggetCamp$Store", "freightFood", "[I", true)
  | 1 => ("NuggetCamp$Store", "freightDay", "[I", true)
  | _ => ("NuggetCamp$Store", "food", "I", false)
def tyX6 : Nat → FieldType := fun k => match k with
  | 0 => .array .int
  | 1 => .array .int
  | _ => .int
abbrev wsX60 : List Cond := u_ws RX6 TX6 3
theorem nmX6 : ∀ a, a < 3 → ∀ b, b < 3 → a ≠ b → (TX6 a).2.1 ≠ (TX6 b).2.1 := by decide +kernel
theorem tyX6_ok : ∀ k, k < 3 → parseFieldDescriptor (TX6 k).2.2.1 = some (tyX6 k) := by decide +kernel
abbrev cX6_init : ByteArray := prog_8_method_1_code
def yX6_init : MethodName := ⟨RX6, "<init>", "()V"⟩
abbrev cX6_price : ByteArray := prog_8_method_2_code
def yX6_price : MethodName := ⟨RX6, "price", "()I"⟩
abbrev cX6_freightsUnderWay : ByteArray := prog_8_method_3_code
def yX6_freightsUnderWay : MethodName := ⟨RX6, "freightsUnderWay", "()I"⟩
abbrev cX6_send : ByteArray := prog_8_method_4_code
def yX6_send : MethodName := ⟨RX6, "send", "(II)V"⟩
abbrev cX6_unload : ByteArray := prog_8_method_5_code
def yX6_unload : MethodName := ⟨RX6, "unload", "(I)V"⟩
def RX7 : String := "NuggetCamp"
def TX7 : u_T := fun k => match k with
  | 0 => ("NuggetCamp", "creek", "LNuggetCamp$Creek;", true)
  | 1 => ("NuggetCamp", "store", "LNuggetCamp$Store;", true)
  | 2 => ("NuggetCamp", "rumours", "LNuggetCamp$Rumours;", true)
  | 3 => ("NuggetCamp", "miners", "Ljava/util/ArrayList;", true)
  | 4 => ("NuggetCamp", "claims", "Ljava/util/ArrayList;", true)
  | 5 => ("NuggetCamp", "rights", "Ljava/util/ArrayList;", true)
  | 6 => ("NuggetCamp", "today", "I", false)
  | 7 => ("NuggetCamp", "flowInches", "I", false)
  | 8 => ("NuggetCamp", "codeSize", "I", false)
  | 9 => ("NuggetCamp", "codeDays", "I", false)
  | 10 => ("NuggetCamp", "bankRate", "I", false)
  | _ => ("NuggetCamp", "bankGold", "I", false)
def tyX7 : Nat → FieldType := fun k => match k with
  | 0 => .object "NuggetCamp$Creek"
  | 1 => .object "NuggetCamp$Store"
  | 2 => .object "NuggetCamp$Rumours"
  | 3 => .object "java/util/ArrayList"
  | 4 => .object "java/util/ArrayList"
  | 5 => .object "java/util/ArrayList"
  | 6 => .int
  | 7 => .int
  | 8 => .int
  | 9 => .int
  | 10 => .int
  | _ => .int
abbrev wsX70 : List Cond := u_ws RX7 TX7 12
theorem nmX7 : ∀ a, a < 12 → ∀ b, b < 12 → a ≠ b → (TX7 a).2.1 ≠ (TX7 b).2.1 := by decide +kernel
theorem tyX7_ok : ∀ k, k < 12 → parseFieldDescriptor (TX7 k).2.2.1 = some (tyX7 k) := by decide +kernel
abbrev cX7_init : ByteArray := prog_1_method_1_code
def yX7_init : MethodName := ⟨RX7, "<init>", "()V"⟩
abbrev cX7_ground : ByteArray := prog_1_method_2_code
def yX7_ground : MethodName := ⟨RX7, "ground", "(III)I"⟩
abbrev cX7_flow : ByteArray := prog_1_method_3_code
def yX7_flow : MethodName := ⟨RX7, "flow", "(I)I"⟩
abbrev cX7_miner : ByteArray := prog_1_method_4_code
def yX7_miner : MethodName := ⟨RX7, "miner", "(II)I"⟩
abbrev cX7_pass : ByteArray := prog_1_method_5_code
def yX7_pass : MethodName := ⟨RX7, "pass", "(I)I"⟩
abbrev cX7_meet : ByteArray := prog_1_method_6_code
def yX7_meet : MethodName := ⟨RX7, "meet", "(IIII)Z"⟩
abbrev cX7_peg : ByteArray := prog_1_method_7_code
def yX7_peg : MethodName := ⟨RX7, "peg", "(III)I"⟩
abbrev cX7_right : ByteArray := prog_1_method_8_code
def yX7_right : MethodName := ⟨RX7, "right", "(II)I"⟩
abbrev cX7_work : ByteArray := prog_1_method_9_code
def yX7_work : MethodName := ⟨RX7, "work", "(III)I"⟩
abbrev cX7_sample : ByteArray := prog_1_method_10_code
def yX7_sample : MethodName := ⟨RX7, "sample", "(I)I"⟩
abbrev cX7_salt : ByteArray := prog_1_method_11_code
def yX7_salt : MethodName := ⟨RX7, "salt", "(III)I"⟩
abbrev cX7_brass : ByteArray := prog_1_method_12_code
def yX7_brass : MethodName := ⟨RX7, "brass", "(II)I"⟩
abbrev cX7_sell : ByteArray := prog_1_method_13_code
def yX7_sell : MethodName := ⟨RX7, "sell", "(II)I"⟩
abbrev cX7_rate : ByteArray := prog_1_method_14_code
def yX7_rate : MethodName := ⟨RX7, "rate", "(I)I"⟩
abbrev cX7_freight : ByteArray := prog_1_method_15_code
def yX7_freight : MethodName := ⟨RX7, "freight", "(II)V"⟩
abbrev cX7_buy : ByteArray := prog_1_method_16_code
def yX7_buy : MethodName := ⟨RX7, "buy", "(II)I"⟩
abbrev cX7_back : ByteArray := prog_1_method_17_code
def yX7_back : MethodName := ⟨RX7, "back", "(IIII)V"⟩
abbrev cX7_end : ByteArray := prog_1_method_18_code
def yX7_end : MethodName := ⟨RX7, "end", "(II)I"⟩
abbrev cX7_trade : ByteArray := prog_1_method_19_code
def yX7_trade : MethodName := ⟨RX7, "trade", "(III)I"⟩
abbrev cX7_suit : ByteArray := prog_1_method_20_code
def yX7_suit : MethodName := ⟨RX7, "suit", "(I)I"⟩
abbrev cX7_rumour : ByteArray := prog_1_method_21_code
def yX7_rumour : MethodName := ⟨RX7, "rumour", "(II)I"⟩
abbrev cX7_day : ByteArray := prog_1_method_22_code
def yX7_day : MethodName := ⟨RX7, "day", "()I"⟩
abbrev cX7_holds : ByteArray := prog_1_method_23_code
def yX7_holds : MethodName := ⟨RX7, "holds", "(I)I"⟩
abbrev cX7_ofClaim : ByteArray := prog_1_method_24_code
def yX7_ofClaim : MethodName := ⟨RX7, "ofClaim", "(II)I"⟩
abbrev cX7_ofMiner : ByteArray := prog_1_method_25_code
def yX7_ofMiner : MethodName := ⟨RX7, "ofMiner", "(II)I"⟩
abbrev cX7_gets : ByteArray := prog_1_method_26_code
def yX7_gets : MethodName := ⟨RX7, "gets", "(I)I"⟩
abbrev cX7_gold : ByteArray := prog_1_method_27_code
def yX7_gold : MethodName := ⟨RX7, "gold", "(I)I"⟩
abbrev cX7_camp : ByteArray := prog_1_method_28_code
def yX7_camp : MethodName := ⟨RX7, "camp", "(I)I"⟩
abbrev cX7_belief : ByteArray := prog_1_method_29_code
def yX7_belief : MethodName := ⟨RX7, "belief", "(I)I"⟩
abbrev cX7_plan : ByteArray := prog_1_method_30_code
def yX7_plan : MethodName := ⟨RX7, "plan", "(II)I"⟩
abbrev cX7_planCell : ByteArray := prog_1_method_31_code
def yX7_planCell : MethodName := ⟨RX7, "planCell", "(III)I"⟩
abbrev cX7_checkIndex : ByteArray := prog_1_method_32_code
def yX7_checkIndex : MethodName := ⟨RX7, "checkIndex", "(Z)V"⟩
abbrev cX7_checkArgument : ByteArray := prog_1_method_33_code
def yX7_checkArgument : MethodName := ⟨RX7, "checkArgument", "(Z)V"⟩
abbrev cX7_checkState : ByteArray := prog_1_method_34_code
def yX7_checkState : MethodName := ⟨RX7, "checkState", "(Z)V"⟩
abbrev cX7_checkRange : ByteArray := prog_1_method_35_code
def yX7_checkRange : MethodName := ⟨RX7, "checkRange", "(III)V"⟩
abbrev cX7_checkCell : ByteArray := prog_1_method_36_code
def yX7_checkCell : MethodName := ⟨RX7, "checkCell", "(I)V"⟩
abbrev cX7_isCell : ByteArray := prog_1_method_37_code
def yX7_isCell : MethodName := ⟨RX7, "isCell", "(I)Z"⟩
abbrev cX7_isMiner : ByteArray := prog_1_method_38_code
def yX7_isMiner : MethodName := ⟨RX7, "isMiner", "(I)Z"⟩
abbrev cX7_minerAt : ByteArray := prog_1_method_39_code
def yX7_minerAt : MethodName := ⟨RX7, "minerAt", "(I)LNuggetCamp$Miner;"⟩
abbrev cX7_claimAt : ByteArray := prog_1_method_40_code
def yX7_claimAt : MethodName := ⟨RX7, "claimAt", "(I)LNuggetCamp$Claim;"⟩
abbrev cX7_gearAt : ByteArray := prog_1_method_41_code
def yX7_gearAt : MethodName := ⟨RX7, "gearAt", "(I)LNuggetCamp$Gear;"⟩
abbrev cX7_passOneDay : ByteArray := prog_1_method_42_code
def yX7_passOneDay : MethodName := ⟨RX7, "passOneDay", "()V"⟩
abbrev cX7_lapseIfDue : ByteArray := prog_1_method_43_code
def yX7_lapseIfDue : MethodName := ⟨RX7, "lapseIfDue", "(LNuggetCamp$Claim;)V"⟩
abbrev cX7_isDead : ByteArray := prog_1_method_44_code
def yX7_isDead : MethodName := ⟨RX7, "isDead", "(I)Z"⟩
abbrev cX7_livingMiners : ByteArray := prog_1_method_45_code
def yX7_livingMiners : MethodName := ⟨RX7, "livingMiners", "()I"⟩
abbrev cX7_goldOfMiners : ByteArray := prog_1_method_46_code
def yX7_goldOfMiners : MethodName := ⟨RX7, "goldOfMiners", "()I"⟩
abbrev cX7_shareOut : ByteArray := prog_1_method_47_code
def yX7_shareOut : MethodName := ⟨RX7, "shareOut", "(LNuggetCamp$Miner;I)V"⟩
abbrev cX7_claimHolding : ByteArray := prog_1_method_48_code
def yX7_claimHolding : MethodName := ⟨RX7, "claimHolding", "(I)I"⟩
abbrev cX7_areFree : ByteArray := prog_1_method_49_code
def yX7_areFree : MethodName := ⟨RX7, "areFree", "(II)Z"⟩
abbrev cX7_mayUse : ByteArray := prog_1_method_50_code
def yX7_mayUse : MethodName := ⟨RX7, "mayUse", "(LNuggetCamp$Gear;II)Z"⟩
abbrev cX7_spoilSalesOfToday : ByteArray := prog_1_method_51_code
def yX7_spoilSalesOfToday : MethodName := ⟨RX7, "spoilSalesOfToday", "(II)V"⟩
abbrev cX7_inchesOfRight : ByteArray := prog_1_method_52_code
def yX7_inchesOfRight : MethodName := ⟨RX7, "inchesOfRight", "(I)I"⟩
abbrev cX7_inchesOfMiner : ByteArray := prog_1_method_53_code
def yX7_inchesOfMiner : MethodName := ⟨RX7, "inchesOfMiner", "(I)I"⟩
def RX8 : String := "NuggetCampModel"
def TX8 : u_T := fun k => match k with
  | 0 => ("NuggetCampModel", "day", "I", false)
  | 1 => ("NuggetCampModel", "flow", "I", false)
  | 2 => ("NuggetCampModel", "size", "I", false)
  | 3 => ("NuggetCampModel", "workDays", "I", false)
  | 4 => ("NuggetCampModel", "rate", "I", false)
  | 5 => ("NuggetCampModel", "store", "I", false)
  | 6 => ("NuggetCampModel", "sea", "I", false)
  | 7 => ("NuggetCampModel", "bank", "I", false)
  | 8 => ("NuggetCampModel", "isTouched", "Z", false)
  | 9 => ("NuggetCampModel", "grains", "[I", true)
  | 10 => ("NuggetCampModel", "clay", "[I", true)
  | 11 => ("NuggetCampModel", "beliefs", "[I", true)
  | 12 => ("NuggetCampModel", "miners", "I", false)
  | 13 => ("NuggetCampModel", "gold", "[I", true)
  | 14 => ("NuggetCampModel", "brass", "[I", true)
  | 15 => ("NuggetCampModel", "food", "[I", true)
  | 16 => ("NuggetCampModel", "coins", "[I", true)
  | 17 => ("NuggetCampModel", "health", "[I", true)
  | 18 => ("NuggetCampModel", "caught", "[I", true)
  | 19 => ("NuggetCampModel", "workedOn", "[I", true)
  | 20 => ("NuggetCampModel", "percents", "[I", true)
  | 21 => ("NuggetCampModel", "claims", "I", false)
  | 22 => ("NuggetCampModel", "owners", "[I", true)
  | 23 => ("NuggetCampModel", "firsts", "[I", true)
  | 24 => ("NuggetCampModel", "sizes", "[I", true)
  | 25 => ("NuggetCampModel", "isHeld", "[Z", true)
  | 26 => ("NuggetCampModel", "countsOn", "[I", true)
  | 27 => ("NuggetCampModel", "claimDays", "[I", true)
  | 28 => ("NuggetCampModel", "hasSuit", "[Z", true)
  | 29 => ("NuggetCampModel", "sellers", "[I", true)
  | 30 => ("NuggetCampModel", "buyers", "[I", true)
  | 31 => ("NuggetCampModel", "paid", "[I", true)
  | 32 => ("NuggetCampModel", "saleDays", "[I", true)
  | 33 => ("NuggetCampModel", "rights", "I", false)
  | 34 => ("NuggetCampModel", "rightOf", "[I", true)
  | 35 => ("NuggetCampModel", "inches", "[I", true)
  | 36 => ("NuggetCampModel", "freights", "I", false)
  | 37 => ("NuggetCampModel", "freightFood", "[I", true)
  | 38 => ("NuggetCampModel", "freightDay", "[I", true)
  | 39 => ("NuggetCampModel", "salts", "I", false)
  | 40 => ("NuggetCampModel", "saltBy", "[I", true)
  | 41 => ("NuggetCampModel", "saltIn", "[I", true)
  | 42 => ("NuggetCampModel", "saltOn", "[I", true)
  | 43 => ("NuggetCampModel", "order", "[I", true)
  | 44 => ("NuggetCampModel", "dug", "[I", true)
  | _ => ("NuggetCampModel", "thrown", "I", false)
def tyX8 : Nat → FieldType := fun k => match k with
  | 0 => .int
  | 1 => .int
  | 2 => .int
  | 3 => .int
  | 4 => .int
  | 5 => .int
  | 6 => .int
  | 7 => .int
  | 8 => .boolean
  | 9 => .array .int
  | 10 => .array .int
  | 11 => .array .int
  | 12 => .int
  | 13 => .array .int
  | 14 => .array .int
  | 15 => .array .int
  | 16 => .array .int
  | 17 => .array .int
  | 18 => .array .int
  | 19 => .array .int
  | 20 => .array .int
  | 21 => .int
  | 22 => .array .int
  | 23 => .array .int
  | 24 => .array .int
  | 25 => .array .boolean
  | 26 => .array .int
  | 27 => .array .int
  | 28 => .array .boolean
  | 29 => .array .int
  | 30 => .array .int
  | 31 => .array .int
  | 32 => .array .int
  | 33 => .int
  | 34 => .array .int
  | 35 => .array .int
  | 36 => .int
  | 37 => .array .int
  | 38 => .array .int
  | 39 => .int
  | 40 => .array .int
  | 41 => .array .int
  | 42 => .array .int
  | 43 => .array .int
  | 44 => .array .int
  | _ => .int
abbrev wsX80 : List Cond := u_ws RX8 TX8 46
theorem nmX8 : ∀ a, a < 46 → ∀ b, b < 46 → a ≠ b → (TX8 a).2.1 ≠ (TX8 b).2.1 := by decide +kernel
theorem tyX8_ok : ∀ k, k < 46 → parseFieldDescriptor (TX8 k).2.2.1 = some (tyX8 k) := by decide +kernel
abbrev cX8_init : ByteArray := prog_10_method_1_code
def yX8_init : MethodName := ⟨RX8, "<init>", "()V"⟩
abbrev cX8_thrown : ByteArray := prog_10_method_2_code
def yX8_thrown : MethodName := ⟨RX8, "thrown", "()I"⟩
abbrev cX8_holdsTo : ByteArray := prog_10_method_3_code
def yX8_holdsTo : MethodName := ⟨RX8, "holdsTo", "(I)Z"⟩
abbrev cX8_isIn : ByteArray := prog_10_method_4_code
def yX8_isIn : MethodName := ⟨RX8, "isIn", "(III)Z"⟩
abbrev cX8_lesser : ByteArray := prog_10_method_5_code
def yX8_lesser : MethodName := ⟨RX8, "lesser", "(II)I"⟩
abbrev cX8_isCell : ByteArray := prog_10_method_6_code
def yX8_isCell : MethodName := ⟨RX8, "isCell", "(I)Z"⟩
abbrev cX8_isMiner : ByteArray := prog_10_method_7_code
def yX8_isMiner : MethodName := ⟨RX8, "isMiner", "(I)Z"⟩
abbrev cX8_isDead : ByteArray := prog_10_method_8_code
def yX8_isDead : MethodName := ⟨RX8, "isDead", "(I)Z"⟩
abbrev cX8_isClaim : ByteArray := prog_10_method_9_code
def yX8_isClaim : MethodName := ⟨RX8, "isClaim", "(I)Z"⟩
abbrev cX8_isMethod : ByteArray := prog_10_method_10_code
def yX8_isMethod : MethodName := ⟨RX8, "isMethod", "(I)Z"⟩
abbrev cX8_ground : ByteArray := prog_10_method_11_code
def yX8_ground : MethodName := ⟨RX8, "ground", "(III)I"⟩
abbrev cX8_flow : ByteArray := prog_10_method_12_code
def yX8_flow : MethodName := ⟨RX8, "flow", "(I)I"⟩
abbrev cX8_miner : ByteArray := prog_10_method_13_code
def yX8_miner : MethodName := ⟨RX8, "miner", "(II)I"⟩
abbrev cX8_eats : ByteArray := prog_10_method_14_code
def yX8_eats : MethodName := ⟨RX8, "eats", "(I)V"⟩
abbrev cX8_arrives : ByteArray := prog_10_method_15_code
def yX8_arrives : MethodName := ⟨RX8, "arrives", "()V"⟩
abbrev cX8_goesBy : ByteArray := prog_10_method_16_code
def yX8_goesBy : MethodName := ⟨RX8, "goesBy", "()V"⟩
abbrev cX8_pass : ByteArray := prog_10_method_17_code
def yX8_pass : MethodName := ⟨RX8, "pass", "(I)I"⟩
abbrev cX8_living : ByteArray := prog_10_method_18_code
def yX8_living : MethodName := ⟨RX8, "living", "()I"⟩
abbrev cX8_meet : ByteArray := prog_10_method_19_code
def yX8_meet : MethodName := ⟨RX8, "meet", "(IIII)Z"⟩
abbrev cX8_heldAt : ByteArray := prog_10_method_20_code
def yX8_heldAt : MethodName := ⟨RX8, "heldAt", "(I)I"⟩
abbrev cX8_areFree : ByteArray := prog_10_method_21_code
def yX8_areFree : MethodName := ⟨RX8, "areFree", "(II)Z"⟩
abbrev cX8_peg : ByteArray := prog_10_method_22_code
def yX8_peg : MethodName := ⟨RX8, "peg", "(III)I"⟩
abbrev cX8_right : ByteArray := prog_10_method_23_code
def yX8_right : MethodName := ⟨RX8, "right", "(II)I"⟩
abbrev cX8_getsOf : ByteArray := prog_10_method_24_code
def yX8_getsOf : MethodName := ⟨RX8, "getsOf", "(I)I"⟩
abbrev cX8_inchesOf : ByteArray := prog_10_method_25_code
def yX8_inchesOf : MethodName := ⟨RX8, "inchesOf", "(I)I"⟩
abbrev cX8_needed : ByteArray := prog_10_method_26_code
def yX8_needed : MethodName := ⟨RX8, "needed", "(I)I"⟩
abbrev cX8_recovers : ByteArray := prog_10_method_27_code
def yX8_recovers : MethodName := ⟨RX8, "recovers", "(III)I"⟩
abbrev cX8_takes : ByteArray := prog_10_method_28_code
def yX8_takes : MethodName := ⟨RX8, "takes", "(II)I"⟩
abbrev cX8_shares : ByteArray := prog_10_method_29_code
def yX8_shares : MethodName := ⟨RX8, "shares", "(II)V"⟩
abbrev cX8_mayWork : ByteArray := prog_10_method_30_code
def yX8_mayWork : MethodName := ⟨RX8, "mayWork", "(III)Z"⟩
abbrev cX8_work : ByteArray := prog_10_method_31_code
def yX8_work : MethodName := ⟨RX8, "work", "(III)I"⟩
abbrev cX8_sample : ByteArray := prog_10_method_32_code
def yX8_sample : MethodName := ⟨RX8, "sample", "(I)I"⟩
abbrev cX8_salt : ByteArray := prog_10_method_33_code
def yX8_salt : MethodName := ⟨RX8, "salt", "(III)I"⟩
abbrev cX8_brass : ByteArray := prog_10_method_34_code
def yX8_brass : MethodName := ⟨RX8, "brass", "(II)I"⟩
abbrev cX8_sell : ByteArray := prog_10_method_35_code
def yX8_sell : MethodName := ⟨RX8, "sell", "(II)I"⟩
abbrev cX8_rate : ByteArray := prog_10_method_36_code
def yX8_rate : MethodName := ⟨RX8, "rate", "(I)I"⟩
abbrev cX8_price : ByteArray := prog_10_method_37_code
def yX8_price : MethodName := ⟨RX8, "price", "()I"⟩
abbrev cX8_freight : ByteArray := prog_10_method_38_code
def yX8_freight : MethodName := ⟨RX8, "freight", "(II)V"⟩
abbrev cX8_buy : ByteArray := prog_10_method_39_code
def yX8_buy : MethodName := ⟨RX8, "buy", "(II)I"⟩
abbrev cX8_backed : ByteArray := prog_10_method_40_code
def yX8_backed : MethodName := ⟨RX8, "backed", "(I)I"⟩
abbrev cX8_back : ByteArray := prog_10_method_41_code
def yX8_back : MethodName := ⟨RX8, "back", "(IIII)V"⟩
abbrev cX8_end : ByteArray := prog_10_method_42_code
def yX8_end : MethodName := ⟨RX8, "end", "(II)I"⟩
abbrev cX8_trade : ByteArray := prog_10_method_43_code
def yX8_trade : MethodName := ⟨RX8, "trade", "(III)I"⟩
abbrev cX8_isSalted : ByteArray := prog_10_method_44_code
def yX8_isSalted : MethodName := ⟨RX8, "isSalted", "(I)Z"⟩
abbrev cX8_suit : ByteArray := prog_10_method_45_code
def yX8_suit : MethodName := ⟨RX8, "suit", "(I)I"⟩
abbrev cX8_rumour : ByteArray := prog_10_method_46_code
def yX8_rumour : MethodName := ⟨RX8, "rumour", "(II)I"⟩
abbrev cX8_day : ByteArray := prog_10_method_47_code
def yX8_day : MethodName := ⟨RX8, "day", "()I"⟩
abbrev cX8_holds : ByteArray := prog_10_method_48_code
def yX8_holds : MethodName := ⟨RX8, "holds", "(I)I"⟩
abbrev cX8_ofClaim : ByteArray := prog_10_method_49_code
def yX8_ofClaim : MethodName := ⟨RX8, "ofClaim", "(II)I"⟩
abbrev cX8_ofMiner : ByteArray := prog_10_method_50_code
def yX8_ofMiner : MethodName := ⟨RX8, "ofMiner", "(II)I"⟩
abbrev cX8_gets : ByteArray := prog_10_method_51_code
def yX8_gets : MethodName := ⟨RX8, "gets", "(I)I"⟩
abbrev cX8_inGround : ByteArray := prog_10_method_52_code
def yX8_inGround : MethodName := ⟨RX8, "inGround", "()I"⟩
abbrev cX8_withMiners : ByteArray := prog_10_method_53_code
def yX8_withMiners : MethodName := ⟨RX8, "withMiners", "()I"⟩
abbrev cX8_gold : ByteArray := prog_10_method_54_code
def yX8_gold : MethodName := ⟨RX8, "gold", "(I)I"⟩
abbrev cX8_camp : ByteArray := prog_10_method_55_code
def yX8_camp : MethodName := ⟨RX8, "camp", "(I)I"⟩
abbrev cX8_belief : ByteArray := prog_10_method_56_code
def yX8_belief : MethodName := ⟨RX8, "belief", "(I)I"⟩
abbrev cX8_orders : ByteArray := prog_10_method_57_code
def yX8_orders : MethodName := ⟨RX8, "orders", "(I)I"⟩
abbrev cX8_laysOrder : ByteArray := prog_10_method_58_code
def yX8_laysOrder : MethodName := ⟨RX8, "laysOrder", "(II)V"⟩
abbrev cX8_digs : ByteArray := prog_10_method_59_code
def yX8_digs : MethodName := ⟨RX8, "digs", "(II)I"⟩
abbrev cX8_bestOrder : ByteArray := prog_10_method_60_code
def yX8_bestOrder : MethodName := ⟨RX8, "bestOrder", "(II)I"⟩
abbrev cX8_asksPlan : ByteArray := prog_10_method_61_code
def yX8_asksPlan : MethodName := ⟨RX8, "asksPlan", "(IIZ)Z"⟩
abbrev cX8_plan : ByteArray := prog_10_method_62_code
def yX8_plan : MethodName := ⟨RX8, "plan", "(II)I"⟩
abbrev cX8_planCell : ByteArray := prog_10_method_63_code
def yX8_planCell : MethodName := ⟨RX8, "planCell", "(III)I"⟩
def RJx145de : String := "java/io/Serializable"
def TJx145de : u_T := fun k => match k with
  | _ => ("", "", "", false)
def tyJx145de : Nat → FieldType := fun k => match k with
  | _ => .int
abbrev wsJx145de0 : List Cond := u_ws RJx145de TJx145de 0
theorem nmJx145de : ∀ a, a < 0 → ∀ b, b < 0 → a ≠ b → (TJx145de a).2.1 ≠ (TJx145de b).2.1 := by decide +kernel
theorem tyJx145de_ok : ∀ k, k < 0 → parseFieldDescriptor (TJx145de k).2.2.1 = some (tyJx145de k) := by decide +kernel
def RJx8e188 : String := "java/lang/Cloneable"
def TJx8e188 : u_T := fun k => match k with
  | _ => ("", "", "", false)
def tyJx8e188 : Nat → FieldType := fun k => match k with
  | _ => .int
abbrev wsJx8e1880 : List Cond := u_ws RJx8e188 TJx8e188 0
theorem nmJx8e188 : ∀ a, a < 0 → ∀ b, b < 0 → a ≠ b → (TJx8e188 a).2.1 ≠ (TJx8e188 b).2.1 := by decide +kernel
theorem tyJx8e188_ok : ∀ k, k < 0 → parseFieldDescriptor (TJx8e188 k).2.2.1 = some (tyJx8e188 k) := by decide +kernel
def RJx29ce0 : String := "java/lang/Enum"
def TJx29ce0 : u_T := fun k => match k with
  | _ => ("", "", "", false)
def tyJx29ce0 : Nat → FieldType := fun k => match k with
  | _ => .int
abbrev wsJx29ce00 : List Cond := u_ws RJx29ce0 TJx29ce0 0
theorem nmJx29ce0 : ∀ a, a < 0 → ∀ b, b < 0 → a ≠ b → (TJx29ce0 a).2.1 ≠ (TJx29ce0 b).2.1 := by decide +kernel
theorem tyJx29ce0_ok : ∀ k, k < 0 → parseFieldDescriptor (TJx29ce0 k).2.2.1 = some (tyJx29ce0 k) := by decide +kernel
def RJxab1ab : String := "java/lang/Iterable"
def TJxab1ab : u_T := fun k => match k with
  | _ => ("", "", "", false)
def tyJxab1ab : Nat → FieldType := fun k => match k with
  | _ => .int
abbrev wsJxab1ab0 : List Cond := u_ws RJxab1ab TJxab1ab 0
theorem nmJxab1ab : ∀ a, a < 0 → ∀ b, b < 0 → a ≠ b → (TJxab1ab a).2.1 ≠ (TJxab1ab b).2.1 := by decide +kernel
theorem tyJxab1ab_ok : ∀ k, k < 0 → parseFieldDescriptor (TJxab1ab k).2.2.1 = some (tyJxab1ab k) := by decide +kernel
def RJ9 : String := "java/lang/Math"
def TJ9 : u_T := fun k => match k with
  | _ => ("", "", "", false)
def tyJ9 : Nat → FieldType := fun k => match k with
  | _ => .int
abbrev wsJ90 : List Cond := u_ws RJ9 TJ9 0
theorem nmJ9 : ∀ a, a < 0 → ∀ b, b < 0 → a ≠ b → (TJ9 a).2.1 ≠ (TJ9 b).2.1 := by decide +kernel
theorem tyJ9_ok : ∀ k, k < 0 → parseFieldDescriptor (TJ9 k).2.2.1 = some (tyJ9 k) := by decide +kernel
abbrev cJ9_max_7cf53 : ByteArray := prog_19_method_65_code
def yJ9_max_7cf53 : MethodName := ⟨RJ9, "max", "(II)I"⟩
abbrev cJ9_min_7cf53 : ByteArray := prog_19_method_69_code
def yJ9_min_7cf53 : MethodName := ⟨RJ9, "min", "(II)I"⟩
def RJ0 : String := "java/lang/String"
def TJ0 : u_T := fun k => match k with
  | _ => ("", "", "", false)
def tyJ0 : Nat → FieldType := fun k => match k with
  | _ => .int
abbrev wsJ00 : List Cond := u_ws RJ0 TJ0 0
theorem nmJ0 : ∀ a, a < 0 → ∀ b, b < 0 → a ≠ b → (TJ0 a).2.1 ≠ (TJ0 b).2.1 := by decide +kernel
theorem tyJ0_ok : ∀ k, k < 0 → parseFieldDescriptor (TJ0 k).2.2.1 = some (tyJ0 k) := by decide +kernel
def RJ10 : String := "java/lang/System"
def TJ10 : u_T := fun k => match k with
  | _ => ("", "", "", false)
def tyJ10 : Nat → FieldType := fun k => match k with
  | _ => .int
abbrev wsJ100 : List Cond := u_ws RJ10 TJ10 0
theorem nmJ10 : ∀ a, a < 0 → ∀ b, b < 0 → a ≠ b → (TJ10 a).2.1 ≠ (TJ10 b).2.1 := by decide +kernel
theorem tyJ10_ok : ∀ k, k < 0 → parseFieldDescriptor (TJ10 k).2.2.1 = some (tyJ10 k) := by decide +kernel
def RJxa1e45 : String := "java/util/AbstractCollection"
def TJxa1e45 : u_T := fun k => match k with
  | _ => ("", "", "", false)
def tyJxa1e45 : Nat → FieldType := fun k => match k with
  | _ => .int
abbrev wsJxa1e450 : List Cond := u_ws RJxa1e45 TJxa1e45 0
theorem nmJxa1e45 : ∀ a, a < 0 → ∀ b, b < 0 → a ≠ b → (TJxa1e45 a).2.1 ≠ (TJxa1e45 b).2.1 := by decide +kernel
theorem tyJxa1e45_ok : ∀ k, k < 0 → parseFieldDescriptor (TJxa1e45 k).2.2.1 = some (tyJxa1e45 k) := by decide +kernel
abbrev cJxa1e45_init_da8c8 : ByteArray := prog_24_method_1_code
def yJxa1e45_init_da8c8 : MethodName := ⟨RJxa1e45, "<init>", "()V"⟩
def RJxc12de : String := "java/util/AbstractList"
def TJxc12de : u_T := fun k => match k with
  | _ => ("", "", "", false)
def tyJxc12de : Nat → FieldType := fun k => match k with
  | _ => .int
abbrev wsJxc12de0 : List Cond := u_ws RJxc12de TJxc12de 0
theorem nmJxc12de : ∀ a, a < 0 → ∀ b, b < 0 → a ≠ b → (TJxc12de a).2.1 ≠ (TJxc12de b).2.1 := by decide +kernel
theorem tyJxc12de_ok : ∀ k, k < 0 → parseFieldDescriptor (TJxc12de k).2.2.1 = some (tyJxc12de k) := by decide +kernel
abbrev cJxc12de_init_da8c8 : ByteArray := prog_25_method_1_code
def yJxc12de_init_da8c8 : MethodName := ⟨RJxc12de, "<init>", "()V"⟩
def RJx4a65c : String := "java/util/ArrayList"
def TJx4a65c : u_T := fun k => match k with
  | 0 => ("java/util/AbstractList", "modCount", "I", false)
  | 1 => ("java/util/ArrayList", "elementData", "[Ljava/lang/Object;", false)
  | _ => ("java/util/ArrayList", "size", "I", false)
def tyJx4a65c : Nat → FieldType := fun k => match k with
  | 0 => .int
  | 1 => .array (.object "java/lang/Object")
  | _ => .int
abbrev wsJx4a65c0 : List Cond := u_ws RJx4a65c TJx4a65c 3
theorem nmJx4a65c : ∀ a, a < 3 → ∀ b, b < 3 → a ≠ b → (TJx4a65c a).2.1 ≠ (TJx4a65c b).2.1 := by decide +kernel
theorem tyJx4a65c_ok : ∀ k, k < 3 → parseFieldDescriptor (TJx4a65c k).2.2.1 = some (tyJx4a65c k) := by decide +kernel
abbrev cJx4a65c_init_da8c8 : ByteArray := prog_26_method_2_code
def yJx4a65c_init_da8c8 : MethodName := ⟨RJx4a65c, "<init>", "()V"⟩
abbrev cJx4a65c_grow_92f84 : ByteArray := prog_26_method_6_code
def yJx4a65c_grow_92f84 : MethodName := ⟨RJx4a65c, "grow", "(I)[Ljava/lang/Object;"⟩
abbrev cJx4a65c_grow_d5877 : ByteArray := prog_26_method_7_code
def yJx4a65c_grow_d5877 : MethodName := ⟨RJx4a65c, "grow", "()[Ljava/lang/Object;"⟩
abbrev cJx4a65c_size_8abf5 : ByteArray := prog_26_method_8_code
def yJx4a65c_size_8abf5 : MethodName := ⟨RJx4a65c, "size", "()I"⟩
abbrev cJx4a65c_elementData_915e3 : ByteArray := prog_26_method_18_code
def yJx4a65c_elementData_915e3 : MethodName := ⟨RJx4a65c, "elementData", "(I)Ljava/lang/Object;"⟩
abbrev cJx4a65c_get_915e3 : ByteArray := prog_26_method_20_code
def yJx4a65c_get_915e3 : MethodName := ⟨RJx4a65c, "get", "(I)Ljava/lang/Object;"⟩
abbrev cJx4a65c_add_72be8 : ByteArray := prog_26_method_24_code
def yJx4a65c_add_72be8 : MethodName := ⟨RJx4a65c, "add", "(Ljava/lang/Object;[Ljava/lang/Object;I)V"⟩
abbrev cJx4a65c_add_9ea2d : ByteArray := prog_26_method_25_code
def yJx4a65c_add_9ea2d : MethodName := ⟨RJx4a65c, "add", "(Ljava/lang/Object;)Z"⟩
def RJ7 : String := "java/util/Arrays"
def TJ7 : u_T := fun k => match k with
  | _ => ("", "", "", false)
def tyJ7 : Nat → FieldType := fun k => match k with
  | _ => .int
abbrev wsJ70 : List Cond := u_ws RJ7 TJ7 0
theorem nmJ7 : ∀ a, a < 0 → ∀ b, b < 0 → a ≠ b → (TJ7 a).2.1 ≠ (TJ7 b).2.1 := by decide +kernel
theorem tyJ7_ok : ∀ k, k < 0 → parseFieldDescriptor (TJ7 k).2.2.1 = some (tyJ7 k) := by decide +kernel
abbrev cJ7_copyOf_1904c : ByteArray := prog_27_method_119_code
def yJ7_copyOf_1904c : MethodName := ⟨RJ7, "copyOf", "([Ljava/lang/Object;I)[Ljava/lang/Object;"⟩
abbrev cJ7_copyOf_6403c : ByteArray := prog_27_method_120_code
def yJ7_copyOf_6403c : MethodName := ⟨RJ7, "copyOf", "([Ljava/lang/Object;ILjava/lang/Class;)[Ljava/lang/Object;"⟩
def RJx5ef63 : String := "java/util/Collection"
def TJx5ef63 : u_T := fun k => match k with
  | _ => ("", "", "", false)
def tyJx5ef63 : Nat → FieldType := fun k => match k with
  | _ => .int
abbrev wsJx5ef630 : List Cond := u_ws RJx5ef63 TJx5ef63 0
theorem nmJx5ef63 : ∀ a, a < 0 → ∀ b, b < 0 → a ≠ b → (TJx5ef63 a).2.1 ≠ (TJx5ef63 b).2.1 := by decide +kernel
theorem tyJx5ef63_ok : ∀ k, k < 0 → parseFieldDescriptor (TJx5ef63 k).2.2.1 = some (tyJx5ef63 k) := by decide +kernel
def RJxbd725 : String := "java/util/List"
def TJxbd725 : u_T := fun k => match k with
  | _ => ("", "", "", false)
def tyJxbd725 : Nat → FieldType := fun k => match k with
  | _ => .int
abbrev wsJxbd7250 : List Cond := u_ws RJxbd725 TJxbd725 0
theorem nmJxbd725 : ∀ a, a < 0 → ∀ b, b < 0 → a ≠ b → (TJxbd725 a).2.1 ≠ (TJxbd725 b).2.1 := by decide +kernel
theorem tyJxbd725_ok : ∀ k, k < 0 → parseFieldDescriptor (TJxbd725 k).2.2.1 = some (tyJxbd725 k) := by decide +kernel
def RJ15 : String := "java/util/Objects"
def TJ15 : u_T := fun k => match k with
  | _ => ("", "", "", false)
def tyJ15 : Nat → FieldType := fun k => match k with
  | _ => .int
abbrev wsJ150 : List Cond := u_ws RJ15 TJ15 0
theorem nmJ15 : ∀ a, a < 0 → ∀ b, b < 0 → a ≠ b → (TJ15 a).2.1 ≠ (TJ15 b).2.1 := by decide +kernel
theorem tyJ15_ok : ∀ k, k < 0 → parseFieldDescriptor (TJ15 k).2.2.1 = some (tyJ15 k) := by decide +kernel
abbrev cJ15_checkIndex_7cf53 : ByteArray := prog_30_method_17_code
def yJ15_checkIndex_7cf53 : MethodName := ⟨RJ15, "checkIndex", "(II)I"⟩
def RJxf0a74 : String := "java/util/RandomAccess"
def TJxf0a74 : u_T := fun k => match k with
  | _ => ("", "", "", false)
def tyJxf0a74 : Nat → FieldType := fun k => match k with
  | _ => .int
abbrev wsJxf0a740 : List Cond := u_ws RJxf0a74 TJxf0a74 0
theorem nmJxf0a74 : ∀ a, a < 0 → ∀ b, b < 0 → a ≠ b → (TJxf0a74 a).2.1 ≠ (TJxf0a74 b).2.1 := by decide +kernel
theorem tyJxf0a74_ok : ∀ k, k < 0 → parseFieldDescriptor (TJxf0a74 k).2.2.1 = some (tyJxf0a74 k) := by decide +kernel
def RJxa66e6 : String := "java/util/SequencedCollection"
def TJxa66e6 : u_T := fun k => match k with
  | _ => ("", "", "", false)
def tyJxa66e6 : Nat → FieldType := fun k => match k with
  | _ => .int
abbrev wsJxa66e60 : List Cond := u_ws RJxa66e6 TJxa66e6 0
theorem nmJxa66e6 : ∀ a, a < 0 → ∀ b, b < 0 → a ≠ b → (TJxa66e6 a).2.1 ≠ (TJxa66e6 b).2.1 := by decide +kernel
theorem tyJxa66e6_ok : ∀ k, k < 0 → parseFieldDescriptor (TJxa66e6 k).2.2.1 = some (tyJxa66e6 k) := by decide +kernel
def RJ8 : String := "jdk/internal/util/ArraysSupport"
def TJ8 : u_T := fun k => match k with
  | _ => ("", "", "", false)
def tyJ8 : Nat → FieldType := fun k => match k with
  | _ => .int
abbrev wsJ80 : List Cond := u_ws RJ8 TJ8 0
theorem nmJ8 : ∀ a, a < 0 → ∀ b, b < 0 → a ≠ b → (TJ8 a).2.1 ≠ (TJ8 b).2.1 := by decide +kernel
theorem tyJ8_ok : ∀ k, k < 0 → parseFieldDescriptor (TJ8 k).2.2.1 = some (tyJ8 k) := by decide +kernel
abbrev cJ8_newLength_cabcc : ByteArray := prog_33_method_27_code
def yJ8_newLength_cabcc : MethodName := ⟨RJ8, "newLength", "(III)I"⟩
abbrev cJ8_hugeLength_7cf53 : ByteArray := prog_33_method_28_code
def yJ8_hugeLength_7cf53 : MethodName := ⟨RJ8, "hugeLength", "(II)I"⟩
def RJ3 : String := "jdk/internal/util/Preconditions"
def TJ3 : u_T := fun k => match k with
  | _ => ("", "", "", false)
def tyJ3 : Nat → FieldType := fun k => match k with
  | _ => .int
abbrev wsJ30 : List Cond := u_ws RJ3 TJ3 0
theorem nmJ3 : ∀ a, a < 0 → ∀ b, b < 0 → a ≠ b → (TJ3 a).2.1 ≠ (TJ3 b).2.1 := by decide +kernel
theorem tyJ3_ok : ∀ k, k < 0 → parseFieldDescriptor (TJ3 k).2.2.1 = some (tyJ3 k) := by decide +kernel
abbrev cJ3_checkIndex_8e157 : ByteArray := prog_34_method_11_code
def yJ3_checkIndex_8e157 : MethodName := ⟨RJ3, "checkIndex", "(IILjava/util/function/BiFunction;)I"⟩
def RL : String := "NuggetCampLaw"
abbrev cL_ground : ByteArray := method_3_code
def yL_ground : MethodName := ⟨RL, "ground", "(LNuggetCamp;III[J)I"⟩
abbrev cL_flow : ByteArray := method_4_code
def yL_flow : MethodName := ⟨RL, "flow", "(LNuggetCamp;I[J)I"⟩
abbrev cL_miner : ByteArray := method_5_code
def yL_miner : MethodName := ⟨RL, "miner", "(LNuggetCamp;II[J)I"⟩
abbrev cL_pass : ByteArray := method_6_code
def yL_pass : MethodName := ⟨RL, "pass", "(LNuggetCamp;I[J)I"⟩
abbrev cL_meet : ByteArray := method_7_code
def yL_meet : MethodName := ⟨RL, "meet", "(LNuggetCamp;IIII[J)I"⟩
abbrev cL_peg : ByteArray := method_8_code
def yL_peg : MethodName := ⟨RL, "peg", "(LNuggetCamp;III[J)I"⟩
abbrev cL_right : ByteArray := method_9_code
def yL_right : MethodName := ⟨RL, "right", "(LNuggetCamp;II[J)I"⟩
abbrev cL_work : ByteArray := method_10_code
def yL_work : MethodName := ⟨RL, "work", "(LNuggetCamp;III[J)I"⟩
abbrev cL_sample : ByteArray := method_11_code
def yL_sample : MethodName := ⟨RL, "sample", "(LNuggetCamp;I[J)I"⟩
abbrev cL_salt : ByteArray := method_12_code
def yL_salt : MethodName := ⟨RL, "salt", "(LNuggetCamp;III[J)I"⟩
abbrev cL_brass : ByteArray := method_13_code
def yL_brass : MethodName := ⟨RL, "brass", "(LNuggetCamp;II[J)I"⟩
abbrev cL_sell : ByteArray := method_14_code
def yL_sell : MethodName := ⟨RL, "sell", "(LNuggetCamp;II[J)I"⟩
abbrev cL_rate : ByteArray := method_15_code
def yL_rate : MethodName := ⟨RL, "rate", "(LNuggetCamp;I[J)I"⟩
abbrev cL_freight : ByteArray := method_16_code
def yL_freight : MethodName := ⟨RL, "freight", "(LNuggetCamp;II)I"⟩
abbrev cL_buy : ByteArray := method_17_code
def yL_buy : MethodName := ⟨RL, "buy", "(LNuggetCamp;II[J)I"⟩
abbrev cL_back : ByteArray := method_18_code
def yL_back : MethodName := ⟨RL, "back", "(LNuggetCamp;IIII)I"⟩
abbrev cL_end : ByteArray := method_19_code
def yL_end : MethodName := ⟨RL, "end", "(LNuggetCamp;II[J)I"⟩
abbrev cL_trade : ByteArray := method_20_code
def yL_trade : MethodName := ⟨RL, "trade", "(LNuggetCamp;III[J)I"⟩
abbrev cL_suit : ByteArray := method_21_code
def yL_suit : MethodName := ⟨RL, "suit", "(LNuggetCamp;I[J)I"⟩
abbrev cL_rumour : ByteArray := method_22_code
def yL_rumour : MethodName := ⟨RL, "rumour", "(LNuggetCamp;II[J)I"⟩
abbrev cL_holds : ByteArray := method_23_code
def yL_holds : MethodName := ⟨RL, "holds", "(LNuggetCamp;I[J)I"⟩
abbrev cL_ofClaim : ByteArray := method_24_code
def yL_ofClaim : MethodName := ⟨RL, "ofClaim", "(LNuggetCamp;II[J)I"⟩
abbrev cL_ofMiner : ByteArray := method_25_code
def yL_ofMiner : MethodName := ⟨RL, "ofMiner", "(LNuggetCamp;II[J)I"⟩
abbrev cL_gets : ByteArray := method_26_code
def yL_gets : MethodName := ⟨RL, "gets", "(LNuggetCamp;I[J)I"⟩
abbrev cL_gold : ByteArray := method_27_code
def yL_gold : MethodName := ⟨RL, "gold", "(LNuggetCamp;I[J)I"⟩
abbrev cL_camp : ByteArray := method_28_code
def yL_camp : MethodName := ⟨RL, "camp", "(LNuggetCamp;I[J)I"⟩
abbrev cL_belief : ByteArray := method_29_code
def yL_belief : MethodName := ⟨RL, "belief", "(LNuggetCamp;I[J)I"⟩
abbrev cL_plan : ByteArray := method_30_code
def yL_plan : MethodName := ⟨RL, "plan", "(LNuggetCamp;II[J)I"⟩
abbrev cL_planCell : ByteArray := method_31_code
def yL_planCell : MethodName := ⟨RL, "planCell", "(LNuggetCamp;III[J)I"⟩
abbrev cL_law : ByteArray := code
def yL_law : MethodName := ⟨RL, "law", "([I)Z"⟩
abbrev vwCl : List vw_C := [(RJx4a65c, TJx4a65c, 3), (RX0, TX0, 11), (RX1, TX1, 4), (RX3, TX3, 9), (RX4, TX4, 2), (RX5, TX5, 1), (RX6, TX6, 3), (RX7, TX7, 12), (RX8, TX8, 46)]
end
section
theorem dX0_init_0 : decode cX0_init 0 = .ok (.aload_n 0, 1) := by decide +kernel
theorem dX0_init_1 : decode cX0_init 1 = .ok (.invokespecial 3, 3) := by decide +kernel
theorem dX0_init_4 : decode cX0_init 4 = .ok (.aload_n 0, 1) := by decide +kernel
theorem dX0_init_5 : decode cX0_init 5 = .ok (.iconst 1, 1) := by decide +kernel
theorem dX0_init_6 : decode cX0_init 6 = .ok (.putfield 9, 3) := by decide +kernel
theorem dX0_init_9 : decode cX0_init 9 = .ok (.aload_n 0, 1) := by decide +kernel
theorem dX0_init_10 : decode cX0_init 10 = .ok (.iconst (-1), 1) := by decide +kernel
theorem dX0_init_11 : decode cX0_init 11 = .ok (.putfield 15, 3) := by decide +kernel
theorem dX0_init_14 : decode cX0_init 14 = .ok (.aload_n 0, 1) := by decide +kernel
theorem dX0_init_15 : decode cX0_init 15 = .ok (.iconst (-1), 1) := by decide +kernel
theorem dX0_init_16 : decode cX0_init 16 = .ok (.putfield 19, 3) := by decide +kernel
theorem dX0_init_19 : decode cX0_init 19 = .ok (.aload_n 0, 1) := by decide +kernel
theorem dX0_init_20 : decode cX0_init 20 = .ok (.iconst 0, 1) := by decide +kernel
theorem dX0_init_21 : decode cX0_init 21 = .ok (.putfield 22, 3) := by decide +kernel
theorem dX0_init_24 : decode cX0_init 24 = .ok (.aload_n 0, 1) := by decide +kernel
theorem dX0_init_25 : decode cX0_init 25 = .ok (.iconst 0, 1) := by decide +kernel
theorem dX0_init_26 : decode cX0_init 26 = .ok (.putfield 25, 3) := by decide +kernel
theorem dX0_init_29 : decode cX0_init 29 = .ok (.aload_n 0, 1) := by decide +kernel
theorem dX0_init_30 : decode cX0_init 30 = .ok (.iconst 0, 1) := by decide +kernel
theorem dX0_init_31 : decode cX0_init 31 = .ok (.putfield 28, 3) := by decide +kernel
theorem dX0_init_34 : decode cX0_init 34 = .ok (.aload_n 0, 1) := by decide +kernel
theorem dX0_init_35 : decode cX0_init 35 = .ok (.iload_n 1, 1) := by decide +kernel
theorem dX0_init_36 : decode cX0_init 36 = .ok (.putfield 31, 3) := by decide +kernel
theorem dX0_init_39 : decode cX0_init 39 = .ok (.aload_n 0, 1) := by decide +kernel
theorem dX0_init_40 : decode cX0_init 40 = .ok (.iload_n 2, 1) := by decide +kernel
theorem dX0_init_41 : decode cX0_init 41 = .ok (.putfield 34, 3) := by decide +kernel
theorem dX0_init_44 : decode cX0_init 44 = .ok (.aload_n 0, 1) := by decide +kernel
theorem dX0_init_45 : decode cX0_init 45 = .ok (.iload_n 3, 1) := by decide +kernel
theorem dX0_init_46 : decode cX0_init 46 = .ok (.putfield 37, 3) := by decide +kernel
theorem dX0_init_49 : decode cX0_init 49 = .ok (.aload_n 0, 1) := by decide +kernel
theorem dX0_init_50 : decode cX0_init 50 = .ok (.iload 4, 2) := by decide +kernel
theorem dX0_init_52 : decode cX0_init 52 = .ok (.putfield 40, 3) := by decide +kernel
theorem dX0_init_55 : decode cX0_init 55 = .ok (.aload_n 0, 1) := by decide +kernel
theorem dX0_init_56 : decode cX0_init 56 = .ok (.iload 5, 2) := by decide +kernel
theorem dX0_init_58 : decode cX0_init 58 = .ok (.putfield 43, 3) := by decide +kernel
theorem dX0_init_61 : decode cX0_init 61 = .ok (.return_, 1) := by decide +kernel
theorem dX0_covers_0 : decode cX0_covers 0 = .ok (.iload_n 1, 1) := by decide +kernel
theorem dX0_covers_1 : decode cX0_covers 1 = .ok (.aload_n 0, 1) := by decide +kernel
theorem dX0_covers_2 : decode cX0_covers 2 = .ok (.getfield 34, 3) := by decide +kernel
theorem dX0_covers_5 : decode cX0_covers 5 = .ok (.if_icmp .lt 20, 3) := by decide +kernel
theorem dX0_covers_8 : decode cX0_covers 8 = .ok (.iload_n 1, 1) := by decide +kernel
theorem dX0_covers_9 : decode cX0_covers 9 = .ok (.aload_n 0, 1) := by decide +kernel
theorem dX0_covers_10 : decode cX0_covers 10 = .ok (.getfield 34, 3) := by decide +kernel
theorem dX0_covers_13 : decode cX0_covers 13 = .ok (.aload_n 0, 1) := by decide +kernel
theorem dX0_covers_14 : decode cX0_covers 14 = .ok (.getfield 37, 3) := by decide +kernel
theorem dX0_covers_17 : decode cX0_covers 17 = .ok (.iadd, 1) := by decide +kernel
theorem dX0_covers_18 : decode cX0_covers 18 = .ok (.if_icmp .ge 7, 3) := by decide +kernel
theorem dX0_covers_21 : decode cX0_covers 21 = .ok (.iconst 1, 1) := by decide +kernel
theorem dX0_covers_22 : decode cX0_covers 22 = .ok (.goto 4, 3) := by decide +kernel
theorem dX0_covers_25 : decode cX0_covers 25 = .ok (.iconst 0, 1) := by decide +kernel
theorem dX0_covers_26 : decode cX0_covers 26 = .ok (.ireturn, 1) := by decide +kernel
theorem dX0_sellTo_0 : decode cX0_sellTo 0 = .ok (.aload_n 0, 1) := by decide +kernel
theorem dX0_sellTo_1 : decode cX0_sellTo 1 = .ok (.aload_n 0, 1) := by decide +kernel
theorem dX0_sellTo_2 : decode cX0_sellTo 2 = .ok (.getfield 31, 3) := by decide +kernel
theorem dX0_sellTo_5 : decode cX0_sellTo 5 = .ok (.putfield 15, 3) := by decide +kernel
theorem dX0_sellTo_8 : decode cX0_sellTo 8 = .ok (.aload_n 0, 1) := by decide +kernel
theorem dX0_sellTo_9 : decode cX0_sellTo 9 = .ok (.iload_n 1, 1) := by decide +kernel
theorem dX0_sellTo_10 : decode cX0_sellTo 10 = .ok (.putfield 31, 3) := by decide +kernel
theorem dX0_sellTo_13 : decode cX0_sellTo 13 = .ok (.aload_n 0, 1) := by decide +kernel
theorem dX0_sellTo_14 : decode cX0_sellTo 14 = .ok (.iload_n 3, 1) := by decide +kernel
theorem dX0_sellTo_15 : decode cX0_sellTo 15 = .ok (.putfield 19, 3) := by decide +kernel
theorem dX0_sellTo_18 : decode cX0_sellTo 18 = .ok (.aload_n 0, 1) := by decide +kernel
theorem dX0_sellTo_19 : decode cX0_sellTo 19 = .ok (.iload_n 2, 1) := by decide +kernel
theorem dX0_sellTo_20 : decode cX0_sellTo 20 = .ok (.putfield 22, 3) := by decide +kernel
theorem dX0_sellTo_23 : decode cX0_sellTo 23 = .ok (.aload_n 0, 1) := by decide +kernel
theorem dX0_sellTo_24 : decode cX0_sellTo 24 = .ok (.iload 4, 2) := by decide +kernel
theorem dX0_sellTo_26 : decode cX0_sellTo 26 = .ok (.putfield 25, 3) := by decide +kernel
theorem dX0_sellTo_29 : decode cX0_sellTo 29 = .ok (.aload_n 0, 1) := by decide +kernel
theorem dX0_sellTo_30 : decode cX0_sellTo 30 = .ok (.iconst 0, 1) := by decide +kernel
theorem dX0_sellTo_31 : decode cX0_sellTo 31 = .ok (.putfield 28, 3) := by decide +kernel
theorem dX0_sellTo_34 : decode cX0_sellTo 34 = .ok (.return_, 1) := by decide +kernel
theorem dX1_init_0 : decode cX1_init 0 = .ok (.aload_n 0, 1) := by decide +kernel
theorem dX1_init_1 : decode cX1_init 1 = .ok (.invokespecial 3, 3) := by decide +kernel
theorem dX1_init_4 : decode cX1_init 4 = .ok (.aload_n 0, 1) := by decide +kernel
theorem dX1_init_5 : decode cX1_init 5 = .ok (.bipush 40, 2) := by decide +kernel
theorem dX1_init_7 : decode cX1_init 7 = .ok (.newarray .int, 2) := by decide +kernel
theorem dX1_init_9 : decode cX1_init 9 = .ok (.putfield 9, 3) := by decide +kernel
theorem dX1_init_12 : decode cX1_init 12 = .ok (.aload_n 0, 1) := by decide +kernel
theorem dX1_init_13 : decode cX1_init 13 = .ok (.bipush 40, 2) := by decide +kernel
theorem dX1_init_15 : decode cX1_init 15 = .ok (.newarray .int, 2) := by decide +kernel
theorem dX1_init_17 : decode cX1_init 17 = .ok (.putfield 15, 3) := by decide +kernel
theorem dX1_init_20 : decode cX1_init 20 = .ok (.aload_n 0, 1) := by decide +kernel
theorem dX1_init_21 : decode cX1_init 21 = .ok (.iconst 0, 1) := by decide +kernel
theorem dX1_init_22 : decode cX1_init 22 = .ok (.putfield 18, 3) := by decide +kernel
theorem dX1_init_25 : decode cX1_init 25 = .ok (.aload_n 0, 1) := by decide +kernel
theorem dX1_init_26 : decode cX1_init 26 = .ok (.iconst 0, 1) := by decide +kernel
theorem dX1_init_27 : decode cX1_init 27 = .ok (.putfield 22, 3) := by decide +kernel
theorem dX1_init_30 : decode cX1_init 30 = .ok (.return_, 1) := by decide +kernel
theorem dX1_grainsAt_0 : decode cX1_grainsAt 0 = .ok (.iload_n 1, 1) := by decide +kernel
theorem dX1_grainsAt_1 : decode cX1_grainsAt 1 = .ok (.invokestatic 26, 3) := by decide +kernel
theorem dX1_grainsAt_4 : decode cX1_grainsAt 4 = .ok (.ifCond .eq 12, 3) := by decide +kernel
theorem dX1_grainsAt_7 : decode cX1_grainsAt 7 = .ok (.aload_n 0, 1) := by decide +kernel
theorem dX1_grainsAt_8 : decode cX1_grainsAt 8 = .ok (.getfield 9, 3) := by decide +kernel
theorem dX1_grainsAt_11 : decode cX1_grainsAt 11 = .ok (.iload_n 1, 1) := by decide +kernel
theorem dX1_grainsAt_12 : decode cX1_grainsAt 12 = .ok (.iaload, 1) := by decide +kernel
theorem dX1_grainsAt_13 : decode cX1_grainsAt 13 = .ok (.goto 4, 3) := by decide +kernel
theorem dX1_grainsAt_16 : decode cX1_grainsAt 16 = .ok (.iconst 0, 1) := by decide +kernel
theorem dX1_grainsAt_17 : decode cX1_grainsAt 17 = .ok (.ireturn, 1) := by decide +kernel
theorem dX1_clayAt_0 : decode cX1_clayAt 0 = .ok (.iload_n 1, 1) := by decide +kernel
theorem dX1_clayAt_1 : decode cX1_clayAt 1 = .ok (.invokestatic 26, 3) := by decide +kernel
theorem dX1_clayAt_4 : decode cX1_clayAt 4 = .ok (.ifCond .eq 12, 3) := by decide +kernel
theorem dX1_clayAt_7 : decode cX1_clayAt 7 = .ok (.aload_n 0, 1) := by decide +kernel
theorem dX1_clayAt_8 : decode cX1_clayAt 8 = .ok (.getfield 15, 3) := by decide +kernel
theorem dX1_clayAt_11 : decode cX1_clayAt 11 = .ok (.iload_n 1, 1) := by decide +kernel
theorem dX1_clayAt_12 : decode cX1_clayAt 12 = .ok (.iaload, 1) := by decide +kernel
theorem dX1_clayAt_13 : decode cX1_clayAt 13 = .ok (.goto 4, 3) := by decide +kernel
theorem dX1_clayAt_16 : decode cX1_clayAt 16 = .ok (.iconst 0, 1) := by decide +kernel
theorem dX1_clayAt_17 : decode cX1_clayAt 17 = .ok (.ireturn, 1) := by decide +kernel
theorem dX1_lay_0 : decode cX1_lay 0 = .ok (.iload_n 1, 1) := by decide +kernel
theorem dX1_lay_1 : decode cX1_lay 1 = .ok (.invokestatic 26, 3) := by decide +kernel
theorem dX1_lay_4 : decode cX1_lay 4 = .ok (.ifCond .eq 17, 3) := by decide +kernel
theorem dX1_lay_7 : decode cX1_lay 7 = .ok (.aload_n 0, 1) := by decide +kernel
theorem dX1_lay_8 : decode cX1_lay 8 = .ok (.getfield 9, 3) := by decide +kernel
theorem dX1_lay_11 : decode cX1_lay 11 = .ok (.iload_n 1, 1) := by decide +kernel
theorem dX1_lay_12 : decode cX1_lay 12 = .ok (.iload_n 2, 1) := by decide +kernel
theorem dX1_lay_13 : decode cX1_lay 13 = .ok (.iastore, 1) := by decide +kernel
theorem dX1_lay_14 : decode cX1_lay 14 = .ok (.aload_n 0, 1) := by decide +kernel
theorem dX1_lay_15 : decode cX1_lay 15 = .ok (.getfield 15, 3) := by decide +kernel
theorem dX1_lay_18 : decode cX1_lay 18 = .ok (.iload_n 1, 1) := by decide +kernel
theorem dX1_lay_19 : decode cX1_lay 19 = .ok (.iload_n 3, 1) := by decide +kernel
theorem dX1_lay_20 : decode cX1_lay 20 = .ok (.iastore, 1) := by decide +kernel
theorem dX1_lay_21 : decode cX1_lay 21 = .ok (.return_, 1) := by decide +kernel
theorem dX1_drop_0 : decode cX1_drop 0 = .ok (.iload_n 1, 1) := by decide +kernel
theorem dX1_drop_1 : decode cX1_drop 1 = .ok (.invokestatic 26, 3) := by decide +kernel
theorem dX1_drop_4 : decode cX1_drop 4 = .ok (.ifCond .eq 16, 3) := by decide +kernel
theorem dX1_drop_7 : decode cX1_drop 7 = .ok (.aload_n 0, 1) := by decide +kernel
theorem dX1_drop_8 : decode cX1_drop 8 = .ok (.getfield 9, 3) := by decide +kernel
theorem dX1_drop_11 : decode cX1_drop 11 = .ok (.iload_n 1, 1) := by decide +kernel
theorem dX1_drop_12 : decode cX1_drop 12 = .ok (.dup2, 1) := by decide +kernel
theorem dX1_drop_13 : decode cX1_drop 13 = .ok (.iaload, 1) := by decide +kernel
theorem dX1_drop_14 : decode cX1_drop 14 = .ok (.iload_n 2, 1) := by decide +kernel
theorem dX1_drop_15 : decode cX1_drop 15 = .ok (.iadd, 1) := by decide +kernel
theorem dX1_drop_16 : decode cX1_drop 16 = .ok (.iastore, 1) := by decide +kernel
theorem dX1_drop_17 : decode cX1_drop 17 = .ok (.goto 13, 3) := by decide +kernel
theorem dX1_drop_20 : decode cX1_drop 20 = .ok (.aload_n 0, 1) := by decide +kernel
theorem dX1_drop_21 : decode cX1_drop 21 = .ok (.dup, 1) := by decide +kernel
theorem dX1_drop_22 : decode cX1_drop 22 = .ok (.getfield 18, 3) := by decide +kernel
theorem dX1_drop_25 : decode cX1_drop 25 = .ok (.iload_n 2, 1) := by decide +kernel
theorem dX1_drop_26 : decode cX1_drop 26 = .ok (.iadd, 1) := by decide +kernel
theorem dX1_drop_27 : decode cX1_drop 27 = .ok (.putfield 18, 3) := by decide +kernel
theorem dX1_drop_30 : decode cX1_drop 30 = .ok (.return_, 1) := by decide +kernel
theorem dX1_dig_0 : decode cX1_dig 0 = .ok (.aload_n 0, 1) := by decide +kernel
theorem dX1_dig_1 : decode cX1_dig 1 = .ok (.iload_n 1, 1) := by decide +kernel
theorem dX1_dig_2 : decode cX1_dig 2 = .ok (.invokevirtual 30, 3) := by decide +kernel
theorem dX1_dig_5 : decode cX1_dig 5 = .ok (.aload_n 2, 1) := by decide +kernel
theorem dX1_dig_6 : decode cX1_dig 6 = .ok (.getfield 34, 3) := by decide +kernel
theorem dX1_dig_9 : decode cX1_dig 9 = .ok (.invokestatic 39, 3) := by decide +kernel
theorem dX1_dig_12 : decode cX1_dig 12 = .ok (.istore_n 3, 1) := by decide +kernel
theorem dX1_dig_13 : decode cX1_dig 13 = .ok (.aload_n 2, 1) := by decide +kernel
theorem dX1_dig_14 : decode cX1_dig 14 = .ok (.iload_n 3, 1) := by decide +kernel
theorem dX1_dig_15 : decode cX1_dig 15 = .ok (.aload_n 0, 1) := by decide +kernel
theorem dX1_dig_16 : decode cX1_dig 16 = .ok (.iload_n 1, 1) := by decide +kernel
theorem dX1_dig_17 : decode cX1_dig 17 = .ok (.invokevirtual 45, 3) := by decide +kernel
theorem dX1_dig_20 : decode cX1_dig 20 = .ok (.invokevirtual 48, 3) := by decide +kernel
theorem dX1_dig_23 : decode cX1_dig 23 = .ok (.istore 4, 2) := by decide +kernel
theorem dX1_dig_25 : decode cX1_dig 25 = .ok (.aload_n 0, 1) := by decide +kernel
theorem dX1_dig_26 : decode cX1_dig 26 = .ok (.iload_n 1, 1) := by decide +kernel
theorem dX1_dig_27 : decode cX1_dig 27 = .ok (.iload_n 3, 1) := by decide +kernel
theorem dX1_dig_28 : decode cX1_dig 28 = .ok (.ineg, 1) := by decide +kernel
theorem dX1_dig_29 : decode cX1_dig 29 = .ok (.invokevirtual 51, 3) := by decide +kernel
theorem dX1_dig_32 : decode cX1_dig 32 = .ok (.aload_n 0, 1) := by decide +kernel
theorem dX1_dig_33 : decode cX1_dig 33 = .ok (.iload_n 1, 1) := by decide +kernel
theorem dX1_dig_34 : decode cX1_dig 34 = .ok (.iconst 1, 1) := by decide +kernel
theorem dX1_dig_35 : decode cX1_dig 35 = .ok (.iadd, 1) := by decide +kernel
theorem dX1_dig_36 : decode cX1_dig 36 = .ok (.iload_n 3, 1) := by decide +kernel
theorem dX1_dig_37 : decode cX1_dig 37 = .ok (.iload 4, 2) := by decide +kernel
theorem dX1_dig_39 : decode cX1_dig 39 = .ok (.isub, 1) := by decide +kernel
theorem dX1_dig_40 : decode cX1_dig 40 = .ok (.invokevirtual 51, 3) := by decide +kernel
theorem dX1_dig_43 : decode cX1_dig 43 = .ok (.iload 4, 2) := by decide +kernel
theorem dX1_dig_45 : decode cX1_dig 45 = .ok (.ireturn, 1) := by decide +kernel
theorem dX1_yieldDownwards_0 : decode cX1_yieldDownwards 0 = .ok (.iconst 0, 1) := by decide +kernel
theorem dX1_yieldDownwards_1 : decode cX1_yieldDownwards 1 = .ok (.istore 4, 2) := by decide +kernel
theorem dX1_yieldDownwards_3 : decode cX1_yieldDownwards 3 = .ok (.iconst 0, 1) := by decide +kernel
theorem dX1_yieldDownwards_4 : decode cX1_yieldDownwards 4 = .ok (.istore 5, 2) := by decide +kernel
theorem dX1_yieldDownwards_6 : decode cX1_yieldDownwards 6 = .ok (.iload_n 1, 1) := by decide +kernel
theorem dX1_yieldDownwards_7 : decode cX1_yieldDownwards 7 = .ok (.istore 6, 2) := by decide +kernel
theorem dX1_yieldDownwards_9 : decode cX1_yieldDownwards 9 = .ok (.iload 6, 2) := by decide +kernel
theorem dX1_yieldDownwards_11 : decode cX1_yieldDownwards 11 = .ok (.iload_n 1, 1) := by decide +kernel
theorem dX1_yieldDownwards_12 : decode cX1_yieldDownwards 12 = .ok (.iload_n 2, 1) := by decide +kernel
theorem dX1_yieldDownwards_13 : decode cX1_yieldDownwards 13 = .ok (.iadd, 1) := by decide +kernel
theorem dX1_yieldDownwards_14 : decode cX1_yieldDownwards 14 = .ok (.if_icmp .ge 55, 3) := by decide +kernel
theorem dX1_yieldDownwards_17 : decode cX1_yieldDownwards 17 = .ok (.aload_n 0, 1) := by decide +kernel
theorem dX1_yieldDownwards_18 : decode cX1_yieldDownwards 18 = .ok (.iload 6, 2) := by decide +kernel
theorem dX1_yieldDownwards_20 : decode cX1_yieldDownwards 20 = .ok (.invokevirtual 30, 3) := by decide +kernel
theorem dX1_yieldDownwards_23 : decode cX1_yieldDownwards 23 = .ok (.iload 5, 2) := by decide +kernel
theorem dX1_yieldDownwards_25 : decode cX1_yieldDownwards 25 = .ok (.iadd, 1) := by decide +kernel
theorem dX1_yieldDownwards_26 : decode cX1_yieldDownwards 26 = .ok (.aload_n 3, 1) := by decide +kernel
theorem dX1_yieldDownwards_27 : decode cX1_yieldDownwards 27 = .ok (.getfield 34, 3) := by decide +kernel
theorem dX1_yieldDownwards_30 : decode cX1_yieldDownwards 30 = .ok (.invokestatic 39, 3) := by decide +kernel
theorem dX1_yieldDownwards_33 : decode cX1_yieldDownwards 33 = .ok (.istore 7, 2) := by decide +kernel
theorem dX1_yieldDownwards_35 : decode cX1_yieldDownwards 35 = .ok (.aload_n 3, 1) := by decide +kernel
theorem dX1_yieldDownwards_36 : decode cX1_yieldDownwards 36 = .ok (.iload 7, 2) := by decide +kernel
theorem dX1_yieldDownwards_38 : decode cX1_yieldDownwards 38 = .ok (.aload_n 0, 1) := by decide +kernel
theorem dX1_yieldDownwards_39 : decode cX1_yieldDownwards 39 = .ok (.iload 6, 2) := by decide +kernel
theorem dX1_yieldDownwards_41 : decode cX1_yieldDownwards 41 = .ok (.invokevirtual 45, 3) := by decide +kernel
theorem dX1_yieldDownwards_44 : decode cX1_yieldDownwards 44 = .ok (.invokevirtual 48, 3) := by decide +kernel
theorem dX1_yieldDownwards_47 : decode cX1_yieldDownwards 47 = .ok (.istore 8, 2) := by decide +kernel
theorem dX1_yieldDownwards_49 : decode cX1_yieldDownwards 49 = .ok (.iload 4, 2) := by decide +kernel
theorem dX1_yieldDownwards_51 : decode cX1_yieldDownwards 51 = .ok (.iload 8, 2) := by decide +kernel
theorem dX1_yieldDownwards_53 : decode cX1_yieldDownwards 53 = .ok (.iadd, 1) := by decide +kernel
theorem dX1_yieldDownwards_54 : decode cX1_yieldDownwards 54 = .ok (.istore 4, 2) := by decide +kernel
theorem dX1_yieldDownwards_56 : decode cX1_yieldDownwards 56 = .ok (.iload 7, 2) := by decide +kernel
theorem dX1_yieldDownwards_58 : decode cX1_yieldDownwards 58 = .ok (.iload 8, 2) := by decide +kernel
theorem dX1_yieldDownwards_60 : decode cX1_yieldDownwards 60 = .ok (.isub, 1) := by decide +kernel
theorem dX1_yieldDownwards_61 : decode cX1_yieldDownwards 61 = .ok (.istore 5, 2) := by decide +kernel
theorem dX1_yieldDownwards_63 : decode cX1_yieldDownwards 63 = .ok (.iinc 6 1, 3) := by decide +kernel
theorem dX1_yieldDownwards_66 : decode cX1_yieldDownwards 66 = .ok (.goto (-57), 3) := by decide +kernel
theorem dX1_yieldDownwards_69 : decode cX1_yieldDownwards 69 = .ok (.iload 4, 2) := by decide +kernel
theorem dX1_yieldDownwards_71 : decode cX1_yieldDownwards 71 = .ok (.ireturn, 1) := by decide +kernel
theorem dX1_goldInGround_0 : decode cX1_goldInGround 0 = .ok (.iconst 0, 1) := by decide +kernel
theorem dX1_goldInGround_1 : decode cX1_goldInGround 1 = .ok (.istore_n 1, 1) := by decide +kernel
theorem dX1_goldInGround_2 : decode cX1_goldInGround 2 = .ok (.iconst 0, 1) := by decide +kernel
theorem dX1_goldInGround_3 : decode cX1_goldInGround 3 = .ok (.istore_n 2, 1) := by decide +kernel
theorem dX1_goldInGround_4 : decode cX1_goldInGround 4 = .ok (.iload_n 2, 1) := by decide +kernel
theorem dX1_goldInGround_5 : decode cX1_goldInGround 5 = .ok (.aload_n 0, 1) := by decide +kernel
theorem dX1_goldInGround_6 : decode cX1_goldInGround 6 = .ok (.getfield 9, 3) := by decide +kernel
theorem dX1_goldInGround_9 : decode cX1_goldInGround 9 = .ok (.arraylength, 1) := by decide +kernel
theorem dX1_goldInGround_10 : decode cX1_goldInGround 10 = .ok (.if_icmp .ge 18, 3) := by decide +kernel
theorem dX1_goldInGround_13 : decode cX1_goldInGround 13 = .ok (.iload_n 1, 1) := by decide +kernel
theorem dX1_goldInGround_14 : decode cX1_goldInGround 14 = .ok (.aload_n 0, 1) := by decide +kernel
theorem dX1_goldInGround_15 : decode cX1_goldInGround 15 = .ok (.getfield 9, 3) := by decide +kernel
theorem dX1_goldInGround_18 : decode cX1_goldInGround 18 = .ok (.iload_n 2, 1) := by decide +kernel
theorem dX1_goldInGround_19 : decode cX1_goldInGround 19 = .ok (.iaload, 1) := by decide +kernel
theorem dX1_goldInGround_20 : decode cX1_goldInGround 20 = .ok (.iadd, 1) := by decide +kernel
theorem dX1_goldInGround_21 : decode cX1_goldInGround 21 = .ok (.istore_n 1, 1) := by decide +kernel
theorem dX1_goldInGround_22 : decode cX1_goldInGround 22 = .ok (.iinc 2 1, 3) := by decide +kernel
theorem dX1_goldInGround_25 : decode cX1_goldInGround 25 = .ok (.goto (-21), 3) := by decide +kernel
theorem dX1_goldInGround_28 : decode cX1_goldInGround 28 = .ok (.iload_n 1, 1) := by decide +kernel
theorem dX1_goldInGround_29 : decode cX1_goldInGround 29 = .ok (.ireturn, 1) := by decide +kernel
theorem dX2_recoveredOf_0 : decode cX2_recoveredOf 0 = .ok (.iload_n 1, 1) := by decide +kernel
theorem dX2_recoveredOf_1 : decode cX2_recoveredOf 1 = .ok (.aload_n 0, 1) := by decide +kernel
theorem dX2_recoveredOf_2 : decode cX2_recoveredOf 2 = .ok (.getfield 42, 3) := by decide +kernel
theorem dX2_recoveredOf_5 : decode cX2_recoveredOf 5 = .ok (.iconst 3, 1) := by decide +kernel
theorem dX2_recoveredOf_6 : decode cX2_recoveredOf 6 = .ok (.iload_n 2, 1) := by decide +kernel
theorem dX2_recoveredOf_7 : decode cX2_recoveredOf 7 = .ok (.imul, 1) := by decide +kernel
theorem dX2_recoveredOf_8 : decode cX2_recoveredOf 8 = .ok (.isub, 1) := by decide +kernel
theorem dX2_recoveredOf_9 : decode cX2_recoveredOf 9 = .ok (.imul, 1) := by decide +kernel
theorem dX2_recoveredOf_10 : decode cX2_recoveredOf 10 = .ok (.bipush 100, 2) := by decide +kernel
theorem dX2_recoveredOf_12 : decode cX2_recoveredOf 12 = .ok (.idiv, 1) := by decide +kernel
theorem dX2_recoveredOf_13 : decode cX2_recoveredOf 13 = .ok (.ireturn, 1) := by decide +kernel
theorem dX3_init_0 : decode cX3_init 0 = .ok (.aload_n 0, 1) := by decide +kernel
theorem dX3_init_1 : decode cX3_init 1 = .ok (.invokespecial 3, 3) := by decide +kernel
theorem dX3_init_4 : decode cX3_init 4 = .ok (.aload_n 0, 1) := by decide +kernel
theorem dX3_init_5 : decode cX3_init 5 = .ok (.bipush 12, 2) := by decide +kernel
theorem dX3_init_7 : decode cX3_init 7 = .ok (.newarray .int, 2) := by decide +kernel
theorem dX3_init_9 : decode cX3_init 9 = .ok (.putfield 9, 3) := by decide +kernel
theorem dX3_init_12 : decode cX3_init 12 = .ok (.aload_n 0, 1) := by decide +kernel
theorem dX3_init_13 : decode cX3_init 13 = .ok (.bipush 40, 2) := by decide +kernel
theorem dX3_init_15 : decode cX3_init 15 = .ok (.newarray .int, 2) := by decide +kernel
theorem dX3_init_17 : decode cX3_init 17 = .ok (.putfield 15, 3) := by decide +kernel
theorem dX3_init_20 : decode cX3_init 20 = .ok (.aload_n 0, 1) := by decide +kernel
theorem dX3_init_21 : decode cX3_init 21 = .ok (.iconst 0, 1) := by decide +kernel
theorem dX3_init_22 : decode cX3_init 22 = .ok (.putfield 18, 3) := by decide +kernel
theorem dX3_init_25 : decode cX3_init 25 = .ok (.aload_n 0, 1) := by decide +kernel
theorem dX3_init_26 : decode cX3_init 26 = .ok (.iconst 0, 1) := by decide +kernel
theorem dX3_init_27 : decode cX3_init 27 = .ok (.putfield 22, 3) := by decide +kernel
theorem dX3_init_30 : decode cX3_init 30 = .ok (.aload_n 0, 1) := by decide +kernel
theorem dX3_init_31 : decode cX3_init 31 = .ok (.bipush 10, 2) := by decide +kernel
theorem dX3_init_33 : decode cX3_init 33 = .ok (.putfield 25, 3) := by decide +kernel
theorem dX3_init_36 : decode cX3_init 36 = .ok (.aload_n 0, 1) := by decide +kernel
theorem dX3_init_37 : decode cX3_init 37 = .ok (.iconst 0, 1) := by decide +kernel
theorem dX3_init_38 : decode cX3_init 38 = .ok (.putfield 28, 3) := by decide +kernel
theorem dX3_init_41 : decode cX3_init 41 = .ok (.aload_n 0, 1) := by decide +kernel
theorem dX3_init_42 : decode cX3_init 42 = .ok (.iconst (-1), 1) := by decide +kernel
theorem dX3_init_43 : decode cX3_init 43 = .ok (.putfield 31, 3) := by decide +kernel
theorem dX3_init_46 : decode cX3_init 46 = .ok (.aload_n 0, 1) := by decide +kernel
theorem dX3_init_47 : decode cX3_init 47 = .ok (.iload_n 1, 1) := by decide +kernel
theorem dX3_init_48 : decode cX3_init 48 = .ok (.putfield 34, 3) := by decide +kernel
theorem dX3_init_51 : decode cX3_init 51 = .ok (.aload_n 0, 1) := by decide +kernel
theorem dX3_init_52 : decode cX3_init 52 = .ok (.iload_n 2, 1) := by decide +kernel
theorem dX3_init_53 : decode cX3_init 53 = .ok (.putfield 37, 3) := by decide +kernel
theorem dX3_init_56 : decode cX3_init 56 = .ok (.iconst 0, 1) := by decide +kernel
theorem dX3_init_57 : decode cX3_init 57 = .ok (.istore_n 3, 1) := by decide +kernel
theorem dX3_init_58 : decode cX3_init 58 = .ok (.iload_n 3, 1) := by decide +kernel
theorem dX3_init_59 : decode cX3_init 59 = .ok (.aload_n 0, 1) := by decide +kernel
theorem dX3_init_60 : decode cX3_init 60 = .ok (.getfield 15, 3) := by decide +kernel
theorem dX3_init_63 : decode cX3_init 63 = .ok (.arraylength, 1) := by decide +kernel
theorem dX3_init_64 : decode cX3_init 64 = .ok (.if_icmp .ge 16, 3) := by decide +kernel
theorem dX3_init_67 : decode cX3_init 67 = .ok (.aload_n 0, 1) := by decide +kernel
theorem dX3_init_68 : decode cX3_init 68 = .ok (.getfield 15, 3) := by decide +kernel
theorem dX3_init_71 : decode cX3_init 71 = .ok (.iload_n 3, 1) := by decide +kernel
theorem dX3_init_72 : decode cX3_init 72 = .ok (.iconst (-1), 1) := by decide +kernel
theorem dX3_init_73 : decode cX3_init 73 = .ok (.iastore, 1) := by decide +kernel
theorem dX3_init_74 : decode cX3_init 74 = .ok (.iinc 3 1, 3) := by decide +kernel
theorem dX3_init_77 : decode cX3_init 77 = .ok (.goto (-19), 3) := by decide +kernel
theorem dX3_init_80 : decode cX3_init 80 = .ok (.return_, 1) := by decide +kernel
theorem dX3_isDead_0 : decode cX3_isDead 0 = .ok (.aload_n 0, 1) := by decide +kernel
theorem dX3_isDead_1 : decode cX3_isDead 1 = .ok (.getfield 25, 3) := by decide +kernel
theorem dX3_isDead_4 : decode cX3_isDead 4 = .ok (.ifCond .ne 7, 3) := by decide +kernel
theorem dX3_isDead_7 : decode cX3_isDead 7 = .ok (.iconst 1, 1) := by decide +kernel
theorem dX3_isDead_8 : decode cX3_isDead 8 = .ok (.goto 4, 3) := by decide +kernel
theorem dX3_isDead_11 : decode cX3_isDead 11 = .ok (.iconst 0, 1) := by decide +kernel
theorem dX3_isDead_12 : decode cX3_isDead 12 = .ok (.ireturn, 1) := by decide +kernel
theorem dX3_liveOneDay_0 : decode cX3_liveOneDay 0 = .ok (.aload_n 0, 1) := by decide +kernel
theorem dX3_liveOneDay_1 : decode cX3_liveOneDay 1 = .ok (.invokevirtual 40, 3) := by decide +kernel
theorem dX3_liveOneDay_4 : decode cX3_liveOneDay 4 = .ok (.ifCond .eq 4, 3) := by decide +kernel
theorem dX3_liveOneDay_7 : decode cX3_liveOneDay 7 = .ok (.return_, 1) := by decide +kernel
theorem dX3_liveOneDay_8 : decode cX3_liveOneDay 8 = .ok (.aload_n 0, 1) := by decide +kernel
theorem dX3_liveOneDay_9 : decode cX3_liveOneDay 9 = .ok (.getfield 34, 3) := by decide +kernel
theorem dX3_liveOneDay_12 : decode cX3_liveOneDay 12 = .ok (.ifCond .le 31, 3) := by decide +kernel
theorem dX3_liveOneDay_15 : decode cX3_liveOneDay 15 = .ok (.aload_n 0, 1) := by decide +kernel
theorem dX3_liveOneDay_16 : decode cX3_liveOneDay 16 = .ok (.dup, 1) := by decide +kernel
theorem dX3_liveOneDay_17 : decode cX3_liveOneDay 17 = .ok (.getfield 34, 3) := by decide +kernel
theorem dX3_liveOneDay_20 : decode cX3_liveOneDay 20 = .ok (.iconst 1, 1) := by decide +kernel
theorem dX3_liveOneDay_21 : decode cX3_liveOneDay 21 = .ok (.isub, 1) := by decide +kernel
theorem dX3_liveOneDay_22 : decode cX3_liveOneDay 22 = .ok (.putfield 34, 3) := by decide +kernel
theorem dX3_liveOneDay_25 : decode cX3_liveOneDay 25 = .ok (.aload_n 0, 1) := by decide +kernel
theorem dX3_liveOneDay_26 : decode cX3_liveOneDay 26 = .ok (.bipush 10, 2) := by decide +kernel
theorem dX3_liveOneDay_28 : decode cX3_liveOneDay 28 = .ok (.aload_n 0, 1) := by decide +kernel
theorem dX3_liveOneDay_29 : decode cX3_liveOneDay 29 = .ok (.getfield 25, 3) := by decide +kernel
theorem dX3_liveOneDay_32 : decode cX3_liveOneDay 32 = .ok (.iconst 1, 1) := by decide +kernel
theorem dX3_liveOneDay_33 : decode cX3_liveOneDay 33 = .ok (.iadd, 1) := by decide +kernel
theorem dX3_liveOneDay_34 : decode cX3_liveOneDay 34 = .ok (.invokestatic 44, 3) := by decide +kernel
theorem dX3_liveOneDay_37 : decode cX3_liveOneDay 37 = .ok (.putfield 25, 3) := by decide +kernel
theorem dX3_liveOneDay_40 : decode cX3_liveOneDay 40 = .ok (.goto 17, 3) := by decide +kernel
theorem dX3_liveOneDay_43 : decode cX3_liveOneDay 43 = .ok (.aload_n 0, 1) := by decide +kernel
theorem dX3_liveOneDay_44 : decode cX3_liveOneDay 44 = .ok (.iconst 0, 1) := by decide +kernel
theorem dX3_liveOneDay_45 : decode cX3_liveOneDay 45 = .ok (.aload_n 0, 1) := by decide +kernel
theorem dX3_liveOneDay_46 : decode cX3_liveOneDay 46 = .ok (.getfield 25, 3) := by decide +kernel
theorem dX3_liveOneDay_49 : decode cX3_liveOneDay 49 = .ok (.iconst 2, 1) := by decide +kernel
theorem dX3_liveOneDay_50 : decode cX3_liveOneDay 50 = .ok (.isub, 1) := by decide +kernel
theorem dX3_liveOneDay_51 : decode cX3_liveOneDay 51 = .ok (.invokestatic 50, 3) := by decide +kernel
theorem dX3_liveOneDay_54 : decode cX3_liveOneDay 54 = .ok (.putfield 25, 3) := by decide +kernel
theorem dX3_liveOneDay_57 : decode cX3_liveOneDay 57 = .ok (.return_, 1) := by decide +kernel
theorem dX3_dust_0 : decode cX3_dust 0 = .ok (.aload_n 0, 1) := by decide +kernel
theorem dX3_dust_1 : decode cX3_dust 1 = .ok (.getfield 18, 3) := by decide +kernel
theorem dX3_dust_4 : decode cX3_dust 4 = .ok (.aload_n 0, 1) := by decide +kernel
theorem dX3_dust_5 : decode cX3_dust 5 = .ok (.getfield 22, 3) := by decide +kernel
theorem dX3_dust_8 : decode cX3_dust 8 = .ok (.iadd, 1) := by decide +kernel
theorem dX3_dust_9 : decode cX3_dust 9 = .ok (.ireturn, 1) := by decide +kernel
theorem dX3_isSuspect_0 : decode cX3_isSuspect 0 = .ok (.aload_n 0, 1) := by decide +kernel
theorem dX3_isSuspect_1 : decode cX3_isSuspect 1 = .ok (.getfield 22, 3) := by decide +kernel
theorem dX3_isSuspect_4 : decode cX3_isSuspect 4 = .ok (.bipush 20, 2) := by decide +kernel
theorem dX3_isSuspect_6 : decode cX3_isSuspect 6 = .ok (.imul, 1) := by decide +kernel
theorem dX3_isSuspect_7 : decode cX3_isSuspect 7 = .ok (.aload_n 0, 1) := by decide +kernel
theorem dX3_isSuspect_8 : decode cX3_isSuspect 8 = .ok (.invokevirtual 53, 3) := by decide +kernel
theorem dX3_isSuspect_11 : decode cX3_isSuspect 11 = .ok (.if_icmp .le 7, 3) := by decide +kernel
theorem dX3_isSuspect_14 : decode cX3_isSuspect 14 = .ok (.iconst 1, 1) := by decide +kernel
theorem dX3_isSuspect_15 : decode cX3_isSuspect 15 = .ok (.goto 4, 3) := by decide +kernel
theorem dX3_isSuspect_18 : decode cX3_isSuspect 18 = .ok (.iconst 0, 1) := by decide +kernel
theorem dX3_isSuspect_19 : decode cX3_isSuspect 19 = .ok (.ireturn, 1) := by decide +kernel
theorem dX3_brassIn_0 : decode cX3_brassIn 0 = .ok (.aload_n 0, 1) := by decide +kernel
theorem dX3_brassIn_1 : decode cX3_brassIn 1 = .ok (.invokevirtual 53, 3) := by decide +kernel
theorem dX3_brassIn_4 : decode cX3_brassIn 4 = .ok (.istore_n 2, 1) := by decide +kernel
theorem dX3_brassIn_5 : decode cX3_brassIn 5 = .ok (.iload_n 2, 1) := by decide +kernel
theorem dX3_brassIn_6 : decode cX3_brassIn 6 = .ok (.ifCond .le 18, 3) := by decide +kernel
theorem dX3_brassIn_9 : decode cX3_brassIn 9 = .ok (.iload_n 1, 1) := by decide +kernel
theorem dX3_brassIn_10 : decode cX3_brassIn 10 = .ok (.i2l, 1) := by decide +kernel
theorem dX3_brassIn_11 : decode cX3_brassIn 11 = .ok (.aload_n 0, 1) := by decide +kernel
theorem dX3_brassIn_12 : decode cX3_brassIn 12 = .ok (.getfield 22, 3) := by decide +kernel
theorem dX3_brassIn_15 : decode cX3_brassIn 15 = .ok (.i2l, 1) := by decide +kernel
theorem dX3_brassIn_16 : decode cX3_brassIn 16 = .ok (.lmul, 1) := by decide +kernel
theorem dX3_brassIn_17 : decode cX3_brassIn 17 = .ok (.iload_n 2, 1) := by decide +kernel
theorem dX3_brassIn_18 : decode cX3_brassIn 18 = .ok (.i2l, 1) := by decide +kernel
theorem dX3_brassIn_19 : decode cX3_brassIn 19 = .ok (.ldiv, 1) := by decide +kernel
theorem dX3_brassIn_20 : decode cX3_brassIn 20 = .ok (.l2i, 1) := by decide +kernel
theorem dX3_brassIn_21 : decode cX3_brassIn 21 = .ok (.goto 4, 3) := by decide +kernel
theorem dX3_brassIn_24 : decode cX3_brassIn 24 = .ok (.iconst 0, 1) := by decide +kernel
theorem dX3_brassIn_25 : decode cX3_brassIn 25 = .ok (.ireturn, 1) := by decide +kernel
theorem dX3_percentOf_0 : decode cX3_percentOf 0 = .ok (.iload_n 1, 1) := by decide +kernel
theorem dX3_percentOf_1 : decode cX3_percentOf 1 = .ok (.ifCond .lt 21, 3) := by decide +kernel
theorem dX3_percentOf_4 : decode cX3_percentOf 4 = .ok (.iload_n 1, 1) := by decide +kernel
theorem dX3_percentOf_5 : decode cX3_percentOf 5 = .ok (.aload_n 0, 1) := by decide +kernel
theorem dX3_percentOf_6 : decode cX3_percentOf 6 = .ok (.getfield 9, 3) := by decide +kernel
theorem dX3_percentOf_9 : decode cX3_percentOf 9 = .ok (.arraylength, 1) := by decide +kernel
theorem dX3_percentOf_10 : decode cX3_percentOf 10 = .ok (.if_icmp .ge 12, 3) := by decide +kernel
theorem dX3_percentOf_13 : decode cX3_percentOf 13 = .ok (.aload_n 0, 1) := by decide +kernel
theorem dX3_percentOf_14 : decode cX3_percentOf 14 = .ok (.getfield 9, 3) := by decide +kernel
theorem dX3_percentOf_17 : decode cX3_percentOf 17 = .ok (.iload_n 1, 1) := by decide +kernel
theorem dX3_percentOf_18 : decode cX3_percentOf 18 = .ok (.iaload, 1) := by decide +kernel
theorem dX3_percentOf_19 : decode cX3_percentOf 19 = .ok (.goto 4, 3) := by decide +kernel
theorem dX3_percentOf_22 : decode cX3_percentOf 22 = .ok (.iconst 0, 1) := by decide +kernel
theorem dX3_percentOf_23 : decode cX3_percentOf 23 = .ok (.ireturn, 1) := by decide +kernel
theorem dX3_setPercent_0 : decode cX3_setPercent 0 = .ok (.iload_n 1, 1) := by decide +kernel
theorem dX3_setPercent_1 : decode cX3_setPercent 1 = .ok (.ifCond .lt 19, 3) := by decide +kernel
theorem dX3_setPercent_4 : decode cX3_setPercent 4 = .ok (.iload_n 1, 1) := by decide +kernel
theorem dX3_setPercent_5 : decode cX3_setPercent 5 = .ok (.aload_n 0, 1) := by decide +kernel
theorem dX3_setPercent_6 : decode cX3_setPercent 6 = .ok (.getfield 9, 3) := by decide +kernel
theorem dX3_setPercent_9 : decode cX3_setPercent 9 = .ok (.arraylength, 1) := by decide +kernel
theorem dX3_setPercent_10 : decode cX3_setPercent 10 = .ok (.if_icmp .ge 10, 3) := by decide +kernel
theorem dX3_setPercent_13 : decode cX3_setPercent 13 = .ok (.aload_n 0, 1) := by decide +kernel
theorem dX3_setPercent_14 : decode cX3_setPercent 14 = .ok (.getfield 9, 3) := by decide +kernel
theorem dX3_setPercent_17 : decode cX3_setPercent 17 = .ok (.iload_n 1, 1) := by decide +kernel
theorem dX3_setPercent_18 : decode cX3_setPercent 18 = .ok (.iload_n 2, 1) := by decide +kernel
theorem dX3_setPercent_19 : decode cX3_setPercent 19 = .ok (.iastore, 1) := by decide +kernel
theorem dX3_setPercent_20 : decode cX3_setPercent 20 = .ok (.return_, 1) := by decide +kernel
theorem dX3_percentBacked_0 : decode cX3_percentBacked 0 = .ok (.iconst 0, 1) := by decide +kernel
theorem dX3_percentBacked_1 : decode cX3_percentBacked 1 = .ok (.istore_n 1, 1) := by decide +kernel
theorem dX3_percentBacked_2 : decode cX3_percentBacked 2 = .ok (.iconst 0, 1) := by decide +kernel
theorem dX3_percentBacked_3 : decode cX3_percentBacked 3 = .ok (.istore_n 2, 1) := by decide +kernel
theorem dX3_percentBacked_4 : decode cX3_percentBacked 4 = .ok (.iload_n 2, 1) := by decide +kernel
theorem dX3_percentBacked_5 : decode cX3_percentBacked 5 = .ok (.aload_n 0, 1) := by decide +kernel
theorem dX3_percentBacked_6 : decode cX3_percentBacked 6 = .ok (.getfield 9, 3) := by decide +kernel
theorem dX3_percentBacked_9 : decode cX3_percentBacked 9 = .ok (.arraylength, 1) := by decide +kernel
theorem dX3_percentBacked_10 : decode cX3_percentBacked 10 = .ok (.if_icmp .ge 18, 3) := by decide +kernel
theorem dX3_percentBacked_13 : decode cX3_percentBacked 13 = .ok (.iload_n 1, 1) := by decide +kernel
theorem dX3_percentBacked_14 : decode cX3_percentBacked 14 = .ok (.aload_n 0, 1) := by decide +kernel
theorem dX3_percentBacked_15 : decode cX3_percentBacked 15 = .ok (.getfield 9, 3) := by decide +kernel
theorem dX3_percentBacked_18 : decode cX3_percentBacked 18 = .ok (.iload_n 2, 1) := by decide +kernel
theorem dX3_percentBacked_19 : decode cX3_percentBacked 19 = .ok (.iaload, 1) := by decide +kernel
theorem dX3_percentBacked_20 : decode cX3_percentBacked 20 = .ok (.iadd, 1) := by decide +kernel
theorem dX3_percentBacked_21 : decode cX3_percentBacked 21 = .ok (.istore_n 1, 1) := by decide +kernel
theorem dX3_percentBacked_22 : decode cX3_percentBacked 22 = .ok (.iinc 2 1, 3) := by decide +kernel
theorem dX3_percentBacked_25 : decode cX3_percentBacked 25 = .ok (.goto (-21), 3) := by decide +kernel
theorem dX3_percentBacked_28 : decode cX3_percentBacked 28 = .ok (.iload_n 1, 1) := by decide +kernel
theorem dX3_percentBacked_29 : decode cX3_percentBacked 29 = .ok (.ireturn, 1) := by decide +kernel
theorem dX3_noteSalting_0 : decode cX3_noteSalting 0 = .ok (.iload_n 1, 1) := by decide +kernel
theorem dX3_noteSalting_1 : decode cX3_noteSalting 1 = .ok (.ifCond .lt 19, 3) := by decide +kernel
theorem dX3_noteSalting_4 : decode cX3_noteSalting 4 = .ok (.iload_n 1, 1) := by decide +kernel
theorem dX3_noteSalting_5 : decode cX3_noteSalting 5 = .ok (.aload_n 0, 1) := by decide +kernel
theorem dX3_noteSalting_6 : decode cX3_noteSalting 6 = .ok (.getfield 15, 3) := by decide +kernel
theorem dX3_noteSalting_9 : decode cX3_noteSalting 9 = .ok (.arraylength, 1) := by decide +kernel
theorem dX3_noteSalting_10 : decode cX3_noteSalting 10 = .ok (.if_icmp .ge 10, 3) := by decide +kernel
theorem dX3_noteSalting_13 : decode cX3_noteSalting 13 = .ok (.aload_n 0, 1) := by decide +kernel
theorem dX3_noteSalting_14 : decode cX3_noteSalting 14 = .ok (.getfield 15, 3) := by decide +kernel
theorem dX3_noteSalting_17 : decode cX3_noteSalting 17 = .ok (.iload_n 1, 1) := by decide +kernel
theorem dX3_noteSalting_18 : decode cX3_noteSalting 18 = .ok (.iload_n 2, 1) := by decide +kernel
theorem dX3_noteSalting_19 : decode cX3_noteSalting 19 = .ok (.iastore, 1) := by decide +kernel
theorem dX3_noteSalting_20 : decode cX3_noteSalting 20 = .ok (.return_, 1) := by decide +kernel
theorem dX3_saltedLately_0 : decode cX3_saltedLately 0 = .ok (.iconst 0, 1) := by decide +kernel
theorem dX3_saltedLately_1 : decode cX3_saltedLately 1 = .ok (.iload_n 1, 1) := by decide +kernel
theorem dX3_saltedLately_2 : decode cX3_saltedLately 2 = .ok (.invokestatic 50, 3) := by decide +kernel
theorem dX3_saltedLately_5 : decode cX3_saltedLately 5 = .ok (.istore 4, 2) := by decide +kernel
theorem dX3_saltedLately_7 : decode cX3_saltedLately 7 = .ok (.iload 4, 2) := by decide +kernel
theorem dX3_saltedLately_9 : decode cX3_saltedLately 9 = .ok (.iload_n 1, 1) := by decide +kernel
theorem dX3_saltedLately_10 : decode cX3_saltedLately 10 = .ok (.iload_n 2, 1) := by decide +kernel
theorem dX3_saltedLately_11 : decode cX3_saltedLately 11 = .ok (.iadd, 1) := by decide +kernel
theorem dX3_saltedLately_12 : decode cX3_saltedLately 12 = .ok (.if_icmp .ge 46, 3) := by decide +kernel
theorem dX3_saltedLately_15 : decode cX3_saltedLately 15 = .ok (.iload 4, 2) := by decide +kernel
theorem dX3_saltedLately_17 : decode cX3_saltedLately 17 = .ok (.aload_n 0, 1) := by decide +kernel
theorem dX3_saltedLately_18 : decode cX3_saltedLately 18 = .ok (.getfield 15, 3) := by decide +kernel
theorem dX3_saltedLately_21 : decode cX3_saltedLately 21 = .ok (.arraylength, 1) := by decide +kernel
theorem dX3_saltedLately_22 : decode cX3_saltedLately 22 = .ok (.if_icmp .ge 36, 3) := by decide +kernel
theorem dX3_saltedLately_25 : decode cX3_saltedLately 25 = .ok (.aload_n 0, 1) := by decide +kernel
theorem dX3_saltedLately_26 : decode cX3_saltedLately 26 = .ok (.getfield 15, 3) := by decide +kernel
theorem dX3_saltedLately_29 : decode cX3_saltedLately 29 = .ok (.iload 4, 2) := by decide +kernel
theorem dX3_saltedLately_31 : decode cX3_saltedLately 31 = .ok (.iaload, 1) := by decide +kernel
theorem dX3_saltedLately_32 : decode cX3_saltedLately 32 = .ok (.iconst (-1), 1) := by decide +kernel
theorem dX3_saltedLately_33 : decode cX3_saltedLately 33 = .ok (.if_icmp .eq 19, 3) := by decide +kernel
theorem dX3_saltedLately_36 : decode cX3_saltedLately 36 = .ok (.iload_n 3, 1) := by decide +kernel
theorem dX3_saltedLately_37 : decode cX3_saltedLately 37 = .ok (.aload_n 0, 1) := by decide +kernel
theorem dX3_saltedLately_38 : decode cX3_saltedLately 38 = .ok (.getfield 15, 3) := by decide +kernel
theorem dX3_saltedLately_41 : decode cX3_saltedLately 41 = .ok (.iload 4, 2) := by decide +kernel
theorem dX3_saltedLately_43 : decode cX3_saltedLately 43 = .ok (.iaload, 1) := by decide +kernel
theorem dX3_saltedLately_44 : decode cX3_saltedLately 44 = .ok (.isub, 1) := by decide +kernel
theorem dX3_saltedLately_45 : decode cX3_saltedLately 45 = .ok (.bipush 30, 2) := by decide +kernel
theorem dX3_saltedLately_47 : decode cX3_saltedLately 47 = .ok (.if_icmp .gt 5, 3) := by decide +kernel
theorem dX3_saltedLately_50 : decode cX3_saltedLately 50 = .ok (.iconst 1, 1) := by decide +kernel
theorem dX3_saltedLately_51 : decode cX3_saltedLately 51 = .ok (.ireturn, 1) := by decide +kernel
theorem dX3_saltedLately_52 : decode cX3_saltedLately 52 = .ok (.iinc 4 1, 3) := by decide +kernel
theorem dX3_saltedLately_55 : decode cX3_saltedLately 55 = .ok (.goto (-48), 3) := by decide +kernel
theorem dX3_saltedLately_58 : decode cX3_saltedLately 58 = .ok (.iconst 0, 1) := by decide +kernel
theorem dX3_saltedLately_59 : decode cX3_saltedLately 59 = .ok (.ireturn, 1) := by decide +kernel
theorem dX4_init_0 : decode cX4_init 0 = .ok (.aload_n 0, 1) := by decide +kernel
theorem dX4_init_1 : decode cX4_init 1 = .ok (.invokespecial 1, 3) := by decide +kernel
theorem dX4_init_4 : decode cX4_init 4 = .ok (.aload_n 0, 1) := by decide +kernel
theorem dX4_init_5 : decode cX4_init 5 = .ok (.iload_n 1, 1) := by decide +kernel
theorem dX4_init_6 : decode cX4_init 6 = .ok (.putfield 7, 3) := by decide +kernel
theorem dX4_init_9 : decode cX4_init 9 = .ok (.aload_n 0, 1) := by decide +kernel
theorem dX4_init_10 : decode cX4_init 10 = .ok (.iload_n 2, 1) := by decide +kernel
theorem dX4_init_11 : decode cX4_init 11 = .ok (.putfield 13, 3) := by decide +kernel
theorem dX4_init_14 : decode cX4_init 14 = .ok (.return_, 1) := by decide +kernel
theorem dX5_init_0 : decode cX5_init 0 = .ok (.aload_n 0, 1) := by decide +kernel
theorem dX5_init_1 : decode cX5_init 1 = .ok (.invokespecial 3, 3) := by decide +kernel
theorem dX5_init_4 : decode cX5_init 4 = .ok (.aload_n 0, 1) := by decide +kernel
theorem dX5_init_5 : decode cX5_init 5 = .ok (.bipush 40, 2) := by decide +kernel
theorem dX5_init_7 : decode cX5_init 7 = .ok (.newarray .int, 2) := by decide +kernel
theorem dX5_init_9 : decode cX5_init 9 = .ok (.putfield 9, 3) := by decide +kernel
theorem dX5_init_12 : decode cX5_init 12 = .ok (.return_, 1) := by decide +kernel
theorem dX5_beliefOf_0 : decode cX5_beliefOf 0 = .ok (.iload_n 1, 1) := by decide +kernel
theorem dX5_beliefOf_1 : decode cX5_beliefOf 1 = .ok (.invokestatic 15, 3) := by decide +kernel
theorem dX5_beliefOf_4 : decode cX5_beliefOf 4 = .ok (.ifCond .eq 12, 3) := by decide +kernel
theorem dX5_beliefOf_7 : decode cX5_beliefOf 7 = .ok (.aload_n 0, 1) := by decide +kernel
theorem dX5_beliefOf_8 : decode cX5_beliefOf 8 = .ok (.getfield 9, 3) := by decide +kernel
theorem dX5_beliefOf_11 : decode cX5_beliefOf 11 = .ok (.iload_n 1, 1) := by decide +kernel
theorem dX5_beliefOf_12 : decode cX5_beliefOf 12 = .ok (.iaload, 1) := by decide +kernel
theorem dX5_beliefOf_13 : decode cX5_beliefOf 13 = .ok (.goto 4, 3) := by decide +kernel
theorem dX5_beliefOf_16 : decode cX5_beliefOf 16 = .ok (.iconst 0, 1) := by decide +kernel
theorem dX5_beliefOf_17 : decode cX5_beliefOf 17 = .ok (.ireturn, 1) := by decide +kernel
theorem dX5_tell_0 : decode cX5_tell 0 = .ok (.iload_n 1, 1) := by decide +kernel
theorem dX5_tell_1 : decode cX5_tell 1 = .ok (.invokestatic 15, 3) := by decide +kernel
theorem dX5_tell_4 : decode cX5_tell 4 = .ok (.ifCond .eq 10, 3) := by decide +kernel
theorem dX5_tell_7 : decode cX5_tell 7 = .ok (.aload_n 0, 1) := by decide +kernel
theorem dX5_tell_8 : decode cX5_tell 8 = .ok (.getfield 9, 3) := by decide +kernel
theorem dX5_tell_11 : decode cX5_tell 11 = .ok (.iload_n 1, 1) := by decide +kernel
theorem dX5_tell_12 : decode cX5_tell 12 = .ok (.iload_n 2, 1) := by decide +kernel
theorem dX5_tell_13 : decode cX5_tell 13 = .ok (.iastore, 1) := by decide +kernel
theorem dX5_tell_14 : decode cX5_tell 14 = .ok (.return_, 1) := by decide +kernel
theorem dX5_fade_0 : decode cX5_fade 0 = .ok (.iconst 0, 1) := by decide +kernel
theorem dX5_fade_1 : decode cX5_fade 1 = .ok (.istore_n 1, 1) := by decide +kernel
theorem dX5_fade_2 : decode cX5_fade 2 = .ok (.iload_n 1, 1) := by decide +kernel
theorem dX5_fade_3 : decode cX5_fade 3 = .ok (.aload_n 0, 1) := by decide +kernel
theorem dX5_fade_4 : decode cX5_fade 4 = .ok (.getfield 9, 3) := by decide +kernel
theorem dX5_fade_7 : decode cX5_fade 7 = .ok (.arraylength, 1) := by decide +kernel
theorem dX5_fade_8 : decode cX5_fade 8 = .ok (.if_icmp .ge 37, 3) := by decide +kernel
theorem dX5_fade_11 : decode cX5_fade 11 = .ok (.aload_n 0, 1) := by decide +kernel
theorem dX5_fade_12 : decode cX5_fade 12 = .ok (.getfield 9, 3) := by decide +kernel
theorem dX5_fade_15 : decode cX5_fade 15 = .ok (.iload_n 1, 1) := by decide +kernel
theorem dX5_fade_16 : decode cX5_fade 16 = .ok (.iconst 0, 1) := by decide +kernel
theorem dX5_fade_17 : decode cX5_fade 17 = .ok (.aload_n 0, 1) := by decide +kernel
theorem dX5_fade_18 : decode cX5_fade 18 = .ok (.getfield 9, 3) := by decide +kernel
theorem dX5_fade_21 : decode cX5_fade 21 = .ok (.iload_n 1, 1) := by decide +kernel
theorem dX5_fade_22 : decode cX5_fade 22 = .ok (.iaload, 1) := by decide +kernel
theorem dX5_fade_23 : decode cX5_fade 23 = .ok (.aload_n 0, 1) := by decide +kernel
theorem dX5_fade_24 : decode cX5_fade 24 = .ok (.getfield 9, 3) := by decide +kernel
theorem dX5_fade_27 : decode cX5_fade 27 = .ok (.iload_n 1, 1) := by decide +kernel
theorem dX5_fade_28 : decode cX5_fade 28 = .ok (.iaload, 1) := by decide +kernel
theorem dX5_fade_29 : decode cX5_fade 29 = .ok (.bipush 10, 2) := by decide +kernel
theorem dX5_fade_31 : decode cX5_fade 31 = .ok (.idiv, 1) := by decide +kernel
theorem dX5_fade_32 : decode cX5_fade 32 = .ok (.isub, 1) := by decide +kernel
theorem dX5_fade_33 : decode cX5_fade 33 = .ok (.iconst 1, 1) := by decide +kernel
theorem dX5_fade_34 : decode cX5_fade 34 = .ok (.isub, 1) := by decide +kernel
theorem dX5_fade_35 : decode cX5_fade 35 = .ok (.invokestatic 19, 3) := by decide +kernel
theorem dX5_fade_38 : decode cX5_fade 38 = .ok (.iastore, 1) := by decide +kernel
theorem dX5_fade_39 : decode cX5_fade 39 = .ok (.iinc 1 1, 3) := by decide +kernel
theorem dX5_fade_42 : decode cX5_fade 42 = .ok (.goto (-40), 3) := by decide +kernel
theorem dX5_fade_45 : decode cX5_fade 45 = .ok (.return_, 1) := by decide +kernel
theorem dX6_init_0 : decode cX6_init 0 = .ok (.aload_n 0, 1) := by decide +kernel
theorem dX6_init_1 : decode cX6_init 1 = .ok (.invokespecial 3, 3) := by decide +kernel
theorem dX6_init_4 : decode cX6_init 4 = .ok (.aload_n 0, 1) := by decide +kernel
theorem dX6_init_5 : decode cX6_init 5 = .ok (.bipush 20, 2) := by decide +kernel
theorem dX6_init_7 : decode cX6_init 7 = .ok (.newarray .int, 2) := by decide +kernel
theorem dX6_init_9 : decode cX6_init 9 = .ok (.putfield 9, 3) := by decide +kernel
theorem dX6_init_12 : decode cX6_init 12 = .ok (.aload_n 0, 1) := by decide +kernel
theorem dX6_init_13 : decode cX6_init 13 = .ok (.bipush 20, 2) := by decide +kernel
theorem dX6_init_15 : decode cX6_init 15 = .ok (.newarray .int, 2) := by decide +kernel
theorem dX6_init_17 : decode cX6_init 17 = .ok (.putfield 15, 3) := by decide +kernel
theorem dX6_init_20 : decode cX6_init 20 = .ok (.aload_n 0, 1) := by decide +kernel
theorem dX6_init_21 : decode cX6_init 21 = .ok (.bipush 50, 2) := by decide +kernel
theorem dX6_init_23 : decode cX6_init 23 = .ok (.putfield 18, 3) := by decide +kernel
theorem dX6_init_26 : decode cX6_init 26 = .ok (.return_, 1) := by decide +kernel
theorem dX6_price_0 : decode cX6_price 0 = .ok (.aload_n 0, 1) := by decide +kernel
theorem dX6_price_1 : decode cX6_price 1 = .ok (.getfield 18, 3) := by decide +kernel
theorem dX6_price_4 : decode cX6_price 4 = .ok (.bipush 100, 2) := by decide +kernel
theorem dX6_price_6 : decode cX6_price 6 = .ok (.if_icmp .ge 17, 3) := by decide +kernel
theorem dX6_price_9 : decode cX6_price 9 = .ok (.iconst 5, 1) := by decide +kernel
theorem dX6_price_10 : decode cX6_price 10 = .ok (.bipush 100, 2) := by decide +kernel
theorem dX6_price_12 : decode cX6_price 12 = .ok (.aload_n 0, 1) := by decide +kernel
theorem dX6_price_13 : decode cX6_price 13 = .ok (.getfield 18, 3) := by decide +kernel
theorem dX6_price_16 : decode cX6_price 16 = .ok (.isub, 1) := by decide +kernel
theorem dX6_price_17 : decode cX6_price 17 = .ok (.iconst 5, 1) := by decide +kernel
theorem dX6_price_18 : decode cX6_price 18 = .ok (.idiv, 1) := by decide +kernel
theorem dX6_price_19 : decode cX6_price 19 = .ok (.iadd, 1) := by decide +kernel
theorem dX6_price_20 : decode cX6_price 20 = .ok (.goto 4, 3) := by decide +kernel
theorem dX6_price_23 : decode cX6_price 23 = .ok (.iconst 5, 1) := by decide +kernel
theorem dX6_price_24 : decode cX6_price 24 = .ok (.ireturn, 1) := by decide +kernel
theorem dX6_freightsUnderWay_0 : decode cX6_freightsUnderWay 0 = .ok (.iconst 0, 1) := by decide +kernel
theorem dX6_freightsUnderWay_1 : decode cX6_freightsUnderWay 1 = .ok (.istore_n 1, 1) := by decide +kernel
theorem dX6_freightsUnderWay_2 : decode cX6_freightsUnderWay 2 = .ok (.iconst 0, 1) := by decide +kernel
theorem dX6_freightsUnderWay_3 : decode cX6_freightsUnderWay 3 = .ok (.istore_n 2, 1) := by decide +kernel
theorem dX6_freightsUnderWay_4 : decode cX6_freightsUnderWay 4 = .ok (.iload_n 2, 1) := by decide +kernel
theorem dX6_freightsUnderWay_5 : decode cX6_freightsUnderWay 5 = .ok (.aload_n 0, 1) := by decide +kernel
theorem dX6_freightsUnderWay_6 : decode cX6_freightsUnderWay 6 = .ok (.getfield 9, 3) := by decide +kernel
theorem dX6_freightsUnderWay_9 : decode cX6_freightsUnderWay 9 = .ok (.arraylength, 1) := by decide +kernel
theorem dX6_freightsUnderWay_10 : decode cX6_freightsUnderWay 10 = .ok (.if_icmp .ge 21, 3) := by decide +kernel
theorem dX6_freightsUnderWay_13 : decode cX6_freightsUnderWay 13 = .ok (.aload_n 0, 1) := by decide +kernel
theorem dX6_freightsUnderWay_14 : decode cX6_freightsUnderWay 14 = .ok (.getfield 9, 3) := by decide +kernel
theorem dX6_freightsUnderWay_17 : decode cX6_freightsUnderWay 17 = .ok (.iload_n 2, 1) := by decide +kernel
theorem dX6_freightsUnderWay_18 : decode cX6_freightsUnderWay 18 = .ok (.iaload, 1) := by decide +kernel
theorem dX6_freightsUnderWay_19 : decode cX6_freightsUnderWay 19 = .ok (.ifCond .le 6, 3) := by decide +kernel
theorem dX6_freightsUnderWay_22 : decode cX6_freightsUnderWay 22 = .ok (.iinc 1 1, 3) := by decide +kernel
theorem dX6_freightsUnderWay_25 : decode cX6_freightsUnderWay 25 = .ok (.iinc 2 1, 3) := by decide +kernel
theorem dX6_freightsUnderWay_28 : decode cX6_freightsUnderWay 28 = .ok (.goto (-24), 3) := by decide +kernel
theorem dX6_freightsUnderWay_31 : decode cX6_freightsUnderWay 31 = .ok (.iload_n 1, 1) := by decide +kernel
theorem dX6_freightsUnderWay_32 : decode cX6_freightsUnderWay 32 = .ok (.ireturn, 1) := by decide +kernel
theorem dX6_send_0 : decode cX6_send 0 = .ok (.iconst 0, 1) := by decide +kernel
theorem dX6_send_1 : decode cX6_send 1 = .ok (.istore_n 3, 1) := by decide +kernel
theorem dX6_send_2 : decode cX6_send 2 = .ok (.iload_n 3, 1) := by decide +kernel
theorem dX6_send_3 : decode cX6_send 3 = .ok (.bipush 20, 2) := by decide +kernel
theorem dX6_send_5 : decode cX6_send 5 = .ok (.if_icmp .ge 33, 3) := by decide +kernel
theorem dX6_send_8 : decode cX6_send 8 = .ok (.aload_n 0, 1) := by decide +kernel
theorem dX6_send_9 : decode cX6_send 9 = .ok (.getfield 9, 3) := by decide +kernel
theorem dX6_send_12 : decode cX6_send 12 = .ok (.iload_n 3, 1) := by decide +kernel
theorem dX6_send_13 : decode cX6_send 13 = .ok (.iaload, 1) := by decide +kernel
theorem dX6_send_14 : decode cX6_send 14 = .ok (.ifCond .ne 18, 3) := by decide +kernel
theorem dX6_send_17 : decode cX6_send 17 = .ok (.aload_n 0, 1) := by decide +kernel
theorem dX6_send_18 : decode cX6_send 18 = .ok (.getfield 9, 3) := by decide +kernel
theorem dX6_send_21 : decode cX6_send 21 = .ok (.iload_n 3, 1) := by decide +kernel
theorem dX6_send_22 : decode cX6_send 22 = .ok (.iload_n 1, 1) := by decide +kernel
theorem dX6_send_23 : decode cX6_send 23 = .ok (.iastore, 1) := by decide +kernel
theorem dX6_send_24 : decode cX6_send 24 = .ok (.aload_n 0, 1) := by decide +kernel
theorem dX6_send_25 : decode cX6_send 25 = .ok (.getfield 15, 3) := by decide +kernel
theorem dX6_send_28 : decode cX6_send 28 = .ok (.iload_n 3, 1) := by decide +kernel
theorem dX6_send_29 : decode cX6_send 29 = .ok (.iload_n 2, 1) := by decide +kernel
theorem dX6_send_30 : decode cX6_send 30 = .ok (.iastore, 1) := by decide +kernel
theorem dX6_send_31 : decode cX6_send 31 = .ok (.return_, 1) := by decide +kernel
theorem dX6_send_32 : decode cX6_send 32 = .ok (.iinc 3 1, 3) := by decide +kernel
theorem dX6_send_35 : decode cX6_send 35 = .ok (.goto (-33), 3) := by decide +kernel
theorem dX6_send_38 : decode cX6_send 38 = .ok (.return_, 1) := by decide +kernel
theorem dX6_unload_0 : decode cX6_unload 0 = .ok (.iconst 0, 1) := by decide +kernel
theorem dX6_unload_1 : decode cX6_unload 1 = .ok (.istore_n 2, 1) := by decide +kernel
theorem dX6_unload_2 : decode cX6_unload 2 = .ok (.iload_n 2, 1) := by decide +kernel
theorem dX6_unload_3 : decode cX6_unload 3 = .ok (.bipush 20, 2) := by decide +kernel
theorem dX6_unload_5 : decode cX6_unload 5 = .ok (.if_icmp .ge 50, 3) := by decide +kernel
theorem dX6_unload_8 : decode cX6_unload 8 = .ok (.aload_n 0, 1) := by decide +kernel
theorem dX6_unload_9 : decode cX6_unload 9 = .ok (.getfield 9, 3) := by decide +kernel
theorem dX6_unload_12 : decode cX6_unload 12 = .ok (.iload_n 2, 1) := by decide +kernel
theorem dX6_unload_13 : decode cX6_unload 13 = .ok (.iaload, 1) := by decide +kernel
theorem dX6_unload_14 : decode cX6_unload 14 = .ok (.ifCond .le 35, 3) := by decide +kernel
theorem dX6_unload_17 : decode cX6_unload 17 = .ok (.aload_n 0, 1) := by decide +kernel
theorem dX6_unload_18 : decode cX6_unload 18 = .ok (.getfield 15, 3) := by decide +kernel
theorem dX6_unload_21 : decode cX6_unload 21 = .ok (.iload_n 2, 1) := by decide +kernel
theorem dX6_unload_22 : decode cX6_unload 22 = .ok (.iaload, 1) := by decide +kernel
theorem dX6_unload_23 : decode cX6_unload 23 = .ok (.iload_n 1, 1) := by decide +kernel
theorem dX6_unload_24 : decode cX6_unload 24 = .ok (.if_icmp .ne 25, 3) := by decide +kernel
theorem dX6_unload_27 : decode cX6_unload 27 = .ok (.aload_n 0, 1) := by decide +kernel
theorem dX6_unload_28 : decode cX6_unload 28 = .ok (.dup, 1) := by decide +kernel
theorem dX6_unload_29 : decode cX6_unload 29 = .ok (.getfield 18, 3) := by decide +kernel
theorem dX6_unload_32 : decode cX6_unload 32 = .ok (.aload_n 0, 1) := by decide +kernel
theorem dX6_unload_33 : decode cX6_unload 33 = .ok (.getfield 9, 3) := by decide +kernel
theorem dX6_unload_36 : decode cX6_unload 36 = .ok (.iload_n 2, 1) := by decide +kernel
theorem dX6_unload_37 : decode cX6_unload 37 = .ok (.iaload, 1) := by decide +kernel
theorem dX6_unload_38 : decode cX6_unload 38 = .ok (.iadd, 1) := by decide +kernel
theorem dX6_unload_39 : decode cX6_unload 39 = .ok (.putfield 18, 3) := by decide +kernel
theorem dX6_unload_42 : decode cX6_unload 42 = .ok (.aload_n 0, 1) := by decide +kernel
theorem dX6_unload_43 : decode cX6_unload 43 = .ok (.getfield 9, 3) := by decide +kernel
theorem dX6_unload_46 : decode cX6_unload 46 = .ok (.iload_n 2, 1) := by decide +kernel
theorem dX6_unload_47 : decode cX6_unload 47 = .ok (.iconst 0, 1) := by decide +kernel
theorem dX6_unload_48 : decode cX6_unload 48 = .ok (.iastore, 1) := by decide +kernel
theorem dX6_unload_49 : decode cX6_unload 49 = .ok (.iinc 2 1, 3) := by decide +kernel
theorem dX6_unload_52 : decode cX6_unload 52 = .ok (.goto (-50), 3) := by decide +kernel
theorem dX6_unload_55 : decode cX6_unload 55 = .ok (.return_, 1) := by decide +kernel
theorem dX7_init_0 : decode cX7_init 0 = .ok (.aload_n 0, 1) := by decide +kernel
theorem dX7_init_1 : decode cX7_init 1 = .ok (.invokespecial 1, 3) := by decide +kernel
theorem dX7_init_4 : decode cX7_init 4 = .ok (.aload_n 0, 1) := by decide +kernel
theorem dX7_init_5 : decode cX7_init 5 = .ok (.new 7, 3) := by decide +kernel
theorem dX7_init_8 : decode cX7_init 8 = .ok (.dup, 1) := by decide +kernel
theorem dX7_init_9 : decode cX7_init 9 = .ok (.invokespecial 9, 3) := by decide +kernel
theorem dX7_init_12 : decode cX7_init 12 = .ok (.putfield 10, 3) := by decide +kernel
theorem dX7_init_15 : decode cX7_init 15 = .ok (.aload_n 0, 1) := by decide +kernel
theorem dX7_init_16 : decode cX7_init 16 = .ok (.new 16, 3) := by decide +kernel
theorem dX7_init_19 : decode cX7_init 19 = .ok (.dup, 1) := by decide +kernel
theorem dX7_init_20 : decode cX7_init 20 = .ok (.invokespecial 18, 3) := by decide +kernel
theorem dX7_init_23 : decode cX7_init 23 = .ok (.putfield 19, 3) := by decide +kernel
theorem dX7_init_26 : decode cX7_init 26 = .ok (.aload_n 0, 1) := by decide +kernel
theorem dX7_init_27 : decode cX7_init 27 = .ok (.new 23, 3) := by decide +kernel
theorem dX7_init_30 : decode cX7_init 30 = .ok (.dup, 1) := by decide +kernel
theorem dX7_init_31 : decode cX7_init 31 = .ok (.invokespecial 25, 3) := by decide +kernel
theorem dX7_init_34 : decode cX7_init 34 = .ok (.putfield 26, 3) := by decide +kernel
theorem dX7_init_37 : decode cX7_init 37 = .ok (.aload_n 0, 1) := by decide +kernel
theorem dX7_init_38 : decode cX7_init 38 = .ok (.new 30, 3) := by decide +kernel
theorem dX7_init_41 : decode cX7_init 41 = .ok (.dup, 1) := by decide +kernel
theorem dX7_init_42 : decode cX7_init 42 = .ok (.invokespecial 32, 3) := by decide +kernel
theorem dX7_init_45 : decode cX7_init 45 = .ok (.putfield 33, 3) := by decide +kernel
theorem dX7_init_48 : decode cX7_init 48 = .ok (.aload_n 0, 1) := by decide +kernel
theorem dX7_init_49 : decode cX7_init 49 = .ok (.new 30, 3) := by decide +kernel
theorem dX7_init_52 : decode cX7_init 52 = .ok (.dup, 1) := by decide +kernel
theorem dX7_init_53 : decode cX7_init 53 = .ok (.invokespecial 32, 3) := by decide +kernel
theorem dX7_init_56 : decode cX7_init 56 = .ok (.putfield 37, 3) := by decide +kernel
theorem dX7_init_59 : decode cX7_init 59 = .ok (.aload_n 0, 1) := by decide +kernel
theorem dX7_init_60 : decode cX7_init 60 = .ok (.new 30, 3) := by decide +kernel
theorem dX7_init_63 : decode cX7_init 63 = .ok (.dup, 1) := by decide +kernel
theorem dX7_init_64 : decode cX7_init 64 = .ok (.invokespecial 32, 3) := by decide +kernel
theorem dX7_init_67 : decode cX7_init 67 = .ok (.putfield 40, 3) := by decide +kernel
theorem dX7_init_70 : decode cX7_init 70 = .ok (.aload_n 0, 1) := by decide +kernel
theorem dX7_init_71 : decode cX7_init 71 = .ok (.iconst 0, 1) := by decide +kernel
theorem dX7_init_72 : decode cX7_init 72 = .ok (.putfield 43, 3) := by decide +kernel
theorem dX7_init_75 : decode cX7_init 75 = .ok (.aload_n 0, 1) := by decide +kernel
theorem dX7_init_76 : decode cX7_init 76 = .ok (.bipush 100, 2) := by decide +kernel
theorem dX7_init_78 : decode cX7_init 78 = .ok (.putfield 47, 3) := by decide +kernel
theorem dX7_init_81 : decode cX7_init 81 = .ok (.aload_n 0, 1) := by decide +kernel
theorem dX7_init_82 : decode cX7_init 82 = .ok (.iconst 3, 1) := by decide +kernel
theorem dX7_init_83 : decode cX7_init 83 = .ok (.putfield 50, 3) := by decide +kernel
theorem dX7_init_86 : decode cX7_init 86 = .ok (.aload_n 0, 1) := by decide +kernel
theorem dX7_init_87 : decode cX7_init 87 = .ok (.bipush 7, 2) := by decide +kernel
theorem dX7_init_89 : decode cX7_init 89 = .ok (.putfield 53, 3) := by decide +kernel
theorem dX7_init_92 : decode cX7_init 92 = .ok (.aload_n 0, 1) := by decide +kernel
theorem dX7_init_93 : decode cX7_init 93 = .ok (.bipush 10, 2) := by decide +kernel
theorem dX7_init_95 : decode cX7_init 95 = .ok (.putfield 56, 3) := by decide +kernel
theorem dX7_init_98 : decode cX7_init 98 = .ok (.aload_n 0, 1) := by decide +kernel
theorem dX7_init_99 : decode cX7_init 99 = .ok (.iconst 0, 1) := by decide +kernel
theorem dX7_init_100 : decode cX7_init 100 = .ok (.putfield 59, 3) := by decide +kernel
theorem dX7_init_103 : decode cX7_init 103 = .ok (.return_, 1) := by decide +kernel
theorem dX7_ground_0 : decode cX7_ground 0 = .ok (.iload_n 1, 1) := by decide +kernel
theorem dX7_ground_1 : decode cX7_ground 1 = .ok (.invokestatic 62, 3) := by decide +kernel
theorem dX7_ground_4 : decode cX7_ground 4 = .ok (.iload_n 2, 1) := by decide +kernel
theorem dX7_ground_5 : decode cX7_ground 5 = .ok (.iconst 0, 1) := by decide +kernel
theorem dX7_ground_6 : decode cX7_ground 6 = .ok (.ldc 66, 2) := by decide +kernel
theorem dX7_ground_8 : decode cX7_ground 8 = .ok (.invokestatic 67, 3) := by decide +kernel
theorem dX7_ground_11 : decode cX7_ground 11 = .ok (.iload_n 3, 1) := by decide +kernel
theorem dX7_ground_12 : decode cX7_ground 12 = .ok (.iconst 0, 1) := by decide +kernel
theorem dX7_ground_13 : decode cX7_ground 13 = .ok (.bipush 9, 2) := by decide +kernel
theorem dX7_ground_15 : decode cX7_ground 15 = .ok (.invokestatic 67, 3) := by decide +kernel
theorem dX7_ground_18 : decode cX7_ground 18 = .ok (.aload_n 0, 1) := by decide +kernel
theorem dX7_ground_19 : decode cX7_ground 19 = .ok (.getfield 43, 3) := by decide +kernel
theorem dX7_ground_22 : decode cX7_ground 22 = .ok (.ifCond .ne 17, 3) := by decide +kernel
theorem dX7_ground_25 : decode cX7_ground 25 = .ok (.aload_n 0, 1) := by decide +kernel
theorem dX7_ground_26 : decode cX7_ground 26 = .ok (.getfield 10, 3) := by decide +kernel
theorem dX7_ground_29 : decode cX7_ground 29 = .ok (.getfield 71, 3) := by decide +kernel
theorem dX7_ground_32 : decode cX7_ground 32 = .ok (.ifCond .ne 7, 3) := by decide +kernel
theorem dX7_ground_35 : decode cX7_ground 35 = .ok (.iconst 1, 1) := by decide +kernel
theorem dX7_ground_36 : decode cX7_ground 36 = .ok (.goto 4, 3) := by decide +kernel
theorem dX7_ground_39 : decode cX7_ground 39 = .ok (.iconst 0, 1) := by decide +kernel
theorem dX7_ground_40 : decode cX7_ground 40 = .ok (.invokestatic 75, 3) := by decide +kernel
theorem dX7_ground_43 : decode cX7_ground 43 = .ok (.aload_n 0, 1) := by decide +kernel
theorem dX7_ground_44 : decode cX7_ground 44 = .ok (.getfield 10, 3) := by decide +kernel
theorem dX7_ground_47 : decode cX7_ground 47 = .ok (.iload_n 1, 1) := by decide +kernel
theorem dX7_ground_48 : decode cX7_ground 48 = .ok (.invokevirtual 79, 3) := by decide +kernel
theorem dX7_ground_51 : decode cX7_ground 51 = .ok (.istore 4, 2) := by decide +kernel
theorem dX7_ground_53 : decode cX7_ground 53 = .ok (.aload_n 0, 1) := by decide +kernel
theorem dX7_ground_54 : decode cX7_ground 54 = .ok (.getfield 10, 3) := by decide +kernel
theorem dX7_ground_57 : decode cX7_ground 57 = .ok (.iload_n 1, 1) := by decide +kernel
theorem dX7_ground_58 : decode cX7_ground 58 = .ok (.iload_n 2, 1) := by decide +kernel
theorem dX7_ground_59 : decode cX7_ground 59 = .ok (.iload_n 3, 1) := by decide +kernel
theorem dX7_ground_60 : decode cX7_ground 60 = .ok (.invokevirtual 83, 3) := by decide +kernel
theorem dX7_ground_63 : decode cX7_ground 63 = .ok (.iload 4, 2) := by decide +kernel
theorem dX7_ground_65 : decode cX7_ground 65 = .ok (.ireturn, 1) := by decide +kernel
theorem dX7_flow_0 : decode cX7_flow 0 = .ok (.iload_n 1, 1) := by decide +kernel
theorem dX7_flow_1 : decode cX7_flow 1 = .ok (.iconst 0, 1) := by decide +kernel
theorem dX7_flow_2 : decode cX7_flow 2 = .ok (.sipush 1000, 3) := by decide +kernel
theorem dX7_flow_5 : decode cX7_flow 5 = .ok (.invokestatic 67, 3) := by decide +kernel
theorem dX7_flow_8 : decode cX7_flow 8 = .ok (.aload_n 0, 1) := by decide +kernel
theorem dX7_flow_9 : decode cX7_flow 9 = .ok (.getfield 47, 3) := by decide +kernel
theorem dX7_flow_12 : decode cX7_flow 12 = .ok (.istore_n 2, 1) := by decide +kernel
theorem dX7_flow_13 : decode cX7_flow 13 = .ok (.aload_n 0, 1) := by decide +kernel
theorem dX7_flow_14 : decode cX7_flow 14 = .ok (.iload_n 1, 1) := by decide +kernel
theorem dX7_flow_15 : decode cX7_flow 15 = .ok (.putfield 47, 3) := by decide +kernel
theorem dX7_flow_18 : decode cX7_flow 18 = .ok (.iload_n 2, 1) := by decide +kernel
theorem dX7_flow_19 : decode cX7_flow 19 = .ok (.ireturn, 1) := by decide +kernel
theorem dX7_miner_0 : decode cX7_miner 0 = .ok (.iload_n 1, 1) := by decide +kernel
theorem dX7_miner_1 : decode cX7_miner 1 = .ok (.iconst 0, 1) := by decide +kernel
theorem dX7_miner_2 : decode cX7_miner 2 = .ok (.sipush 1000, 3) := by decide +kernel
theorem dX7_miner_5 : decode cX7_miner 5 = .ok (.invokestatic 67, 3) := by decide +kernel
theorem dX7_miner_8 : decode cX7_miner 8 = .ok (.iload_n 2, 1) := by decide +kernel
theorem dX7_miner_9 : decode cX7_miner 9 = .ok (.iconst 0, 1) := by decide +kernel
theorem dX7_miner_10 : decode cX7_miner 10 = .ok (.ldc 66, 2) := by decide +kernel
theorem dX7_miner_12 : decode cX7_miner 12 = .ok (.invokestatic 67, 3) := by decide +kernel
theorem dX7_miner_15 : decode cX7_miner 15 = .ok (.aload_n 0, 1) := by decide +kernel
theorem dX7_miner_16 : decode cX7_miner 16 = .ok (.getfield 33, 3) := by decide +kernel
theorem dX7_miner_19 : decode cX7_miner 19 = .ok (.invokevirtual 86, 3) := by decide +kernel
theorem dX7_miner_22 : decode cX7_miner 22 = .ok (.bipush 12, 2) := by decide +kernel
theorem dX7_miner_24 : decode cX7_miner 24 = .ok (.if_icmp .ge 7, 3) := by decide +kernel
theorem dX7_miner_27 : decode cX7_miner 27 = .ok (.iconst 1, 1) := by decide +kernel
theorem dX7_miner_28 : decode cX7_miner 28 = .ok (.goto 4, 3) := by decide +kernel
theorem dX7_miner_31 : decode cX7_miner 31 = .ok (.iconst 0, 1) := by decide +kernel
theorem dX7_miner_32 : decode cX7_miner 32 = .ok (.invokestatic 75, 3) := by decide +kernel
theorem dX7_miner_35 : decode cX7_miner 35 = .ok (.aload_n 0, 1) := by decide +kernel
theorem dX7_miner_36 : decode cX7_miner 36 = .ok (.getfield 33, 3) := by decide +kernel
theorem dX7_miner_39 : decode cX7_miner 39 = .ok (.new 90, 3) := by decide +kernel
theorem dX7_miner_42 : decode cX7_miner 42 = .ok (.dup, 1) := by decide +kernel
theorem dX7_miner_43 : decode cX7_miner 43 = .ok (.iload_n 1, 1) := by decide +kernel
theorem dX7_miner_44 : decode cX7_miner 44 = .ok (.iload_n 2, 1) := by decide +kernel
theorem dX7_miner_45 : decode cX7_miner 45 = .ok (.invokespecial 92, 3) := by decide +kernel
theorem dX7_miner_48 : decode cX7_miner 48 = .ok (.invokevirtual 95, 3) := by decide +kernel
theorem dX7_miner_51 : decode cX7_miner 51 = .ok (.pop, 1) := by decide +kernel
theorem dX7_miner_52 : decode cX7_miner 52 = .ok (.aload_n 0, 1) := by decide +kernel
theorem dX7_miner_53 : decode cX7_miner 53 = .ok (.getfield 33, 3) := by decide +kernel
theorem dX7_miner_56 : decode cX7_miner 56 = .ok (.invokevirtual 86, 3) := by decide +kernel
theorem dX7_miner_59 : decode cX7_miner 59 = .ok (.iconst 1, 1) := by decide +kernel
theorem dX7_miner_60 : decode cX7_miner 60 = .ok (.isub, 1) := by decide +kernel
theorem dX7_miner_61 : decode cX7_miner 61 = .ok (.ireturn, 1) := by decide +kernel
theorem dX7_pass_0 : decode cX7_pass 0 = .ok (.iload_n 1, 1) := by decide +kernel
theorem dX7_pass_1 : decode cX7_pass 1 = .ok (.iconst 1, 1) := by decide +kernel
theorem dX7_pass_2 : decode cX7_pass 2 = .ok (.sipush 200, 3) := by decide +kernel
theorem dX7_pass_5 : decode cX7_pass 5 = .ok (.invokestatic 67, 3) := by decide +kernel
theorem dX7_pass_8 : decode cX7_pass 8 = .ok (.aload_n 0, 1) := by decide +kernel
theorem dX7_pass_9 : decode cX7_pass 9 = .ok (.getfield 43, 3) := by decide +kernel
theorem dX7_pass_12 : decode cX7_pass 12 = .ok (.iload_n 1, 1) := by decide +kernel
theorem dX7_pass_13 : decode cX7_pass 13 = .ok (.iadd, 1) := by decide +kernel
theorem dX7_pass_14 : decode cX7_pass 14 = .ok (.sipush 5000, 3) := by decide +kernel
theorem dX7_pass_17 : decode cX7_pass 17 = .ok (.if_icmp .gt 7, 3) := by decide +kernel
theorem dX7_pass_20 : decode cX7_pass 20 = .ok (.iconst 1, 1) := by decide +kernel
theorem dX7_pass_21 : decode cX7_pass 21 = .ok (.goto 4, 3) := by decide +kernel
theorem dX7_pass_24 : decode cX7_pass 24 = .ok (.iconst 0, 1) := by decide +kernel
theorem dX7_pass_25 : decode cX7_pass 25 = .ok (.invokestatic 75, 3) := by decide +kernel
theorem dX7_pass_28 : decode cX7_pass 28 = .ok (.iconst 0, 1) := by decide +kernel
theorem dX7_pass_29 : decode cX7_pass 29 = .ok (.istore_n 2, 1) := by decide +kernel
theorem dX7_pass_30 : decode cX7_pass 30 = .ok (.iload_n 2, 1) := by decide +kernel
theorem dX7_pass_31 : decode cX7_pass 31 = .ok (.iload_n 1, 1) := by decide +kernel
theorem dX7_pass_32 : decode cX7_pass 32 = .ok (.if_icmp .ge 13, 3) := by decide +kernel
theorem dX7_pass_35 : decode cX7_pass 35 = .ok (.aload_n 0, 1) := by decide +kernel
theorem dX7_pass_36 : decode cX7_pass 36 = .ok (.invokevirtual 99, 3) := by decide +kernel
theorem dX7_pass_39 : decode cX7_pass 39 = .ok (.iinc 2 1, 3) := by decide +kernel
theorem dX7_pass_42 : decode cX7_pass 42 = .ok (.goto (-12), 3) := by decide +kernel
theorem dX7_pass_45 : decode cX7_pass 45 = .ok (.aload_n 0, 1) := by decide +kernel
theorem dX7_pass_46 : decode cX7_pass 46 = .ok (.getfield 43, 3) := by decide +kernel
theorem dX7_pass_49 : decode cX7_pass 49 = .ok (.ireturn, 1) := by decide +kernel
theorem dX7_meet_0 : decode cX7_meet 0 = .ok (.iload_n 1, 1) := by decide +kernel
theorem dX7_meet_1 : decode cX7_meet 1 = .ok (.iconst 1, 1) := by decide +kernel
theorem dX7_meet_2 : decode cX7_meet 2 = .ok (.bipush 10, 2) := by decide +kernel
theorem dX7_meet_4 : decode cX7_meet 4 = .ok (.invokestatic 67, 3) := by decide +kernel
theorem dX7_meet_7 : decode cX7_meet 7 = .ok (.iload_n 2, 1) := by decide +kernel
theorem dX7_meet_8 : decode cX7_meet 8 = .ok (.iconst 1, 1) := by decide +kernel
theorem dX7_meet_9 : decode cX7_meet 9 = .ok (.bipush 100, 2) := by decide +kernel
theorem dX7_meet_11 : decode cX7_meet 11 = .ok (.invokestatic 67, 3) := by decide +kernel
theorem dX7_meet_14 : decode cX7_meet 14 = .ok (.iload_n 3, 1) := by decide +kernel
theorem dX7_meet_15 : decode cX7_meet 15 = .ok (.iconst 0, 1) := by decide +kernel
theorem dX7_meet_16 : decode cX7_meet 16 = .ok (.bipush 12, 2) := by decide +kernel
theorem dX7_meet_18 : decode cX7_meet 18 = .ok (.invokestatic 67, 3) := by decide +kernel
theorem dX7_meet_21 : decode cX7_meet 21 = .ok (.iload 4, 2) := by decide +kernel
theorem dX7_meet_23 : decode cX7_meet 23 = .ok (.iconst 0, 1) := by decide +kernel
theorem dX7_meet_24 : decode cX7_meet 24 = .ok (.bipush 12, 2) := by decide +kernel
theorem dX7_meet_26 : decode cX7_meet 26 = .ok (.invokestatic 67, 3) := by decide +kernel
theorem dX7_meet_29 : decode cX7_meet 29 = .ok (.iload_n 3, 1) := by decide +kernel
theorem dX7_meet_30 : decode cX7_meet 30 = .ok (.iload 4, 2) := by decide +kernel
theorem dX7_meet_32 : decode cX7_meet 32 = .ok (.iadd, 1) := by decide +kernel
theorem dX7_meet_33 : decode cX7_meet 33 = .ok (.aload_n 0, 1) := by decide +kernel
theorem dX7_meet_34 : decode cX7_meet 34 = .ok (.invokevirtual 102, 3) := by decide +kernel
theorem dX7_meet_37 : decode cX7_meet 37 = .ok (.if_icmp .gt 7, 3) := by decide +kernel
theorem dX7_meet_40 : decode cX7_meet 40 = .ok (.iconst 1, 1) := by decide +kernel
theorem dX7_meet_41 : decode cX7_meet 41 = .ok (.goto 4, 3) := by decide +kernel
theorem dX7_meet_44 : decode cX7_meet 44 = .ok (.iconst 0, 1) := by decide +kernel
theorem dX7_meet_45 : decode cX7_meet 45 = .ok (.invokestatic 105, 3) := by decide +kernel
theorem dX7_meet_48 : decode cX7_meet 48 = .ok (.iload_n 3, 1) := by decide +kernel
theorem dX7_meet_49 : decode cX7_meet 49 = .ok (.iload 4, 2) := by decide +kernel
theorem dX7_meet_51 : decode cX7_meet 51 = .ok (.if_icmp .le 7, 3) := by decide +kernel
theorem dX7_meet_54 : decode cX7_meet 54 = .ok (.iconst 1, 1) := by decide +kernel
theorem dX7_meet_55 : decode cX7_meet 55 = .ok (.goto 4, 3) := by decide +kernel
theorem dX7_meet_58 : decode cX7_meet 58 = .ok (.iconst 0, 1) := by decide +kernel
theorem dX7_meet_59 : decode cX7_meet 59 = .ok (.istore 5, 2) := by decide +kernel
theorem dX7_meet_61 : decode cX7_meet 61 = .ok (.iload 5, 2) := by decide +kernel
theorem dX7_meet_63 : decode cX7_meet 63 = .ok (.ifCond .eq 13, 3) := by decide +kernel
theorem dX7_meet_66 : decode cX7_meet 66 = .ok (.aload_n 0, 1) := by decide +kernel
theorem dX7_meet_67 : decode cX7_meet 67 = .ok (.iload_n 1, 1) := by decide +kernel
theorem dX7_meet_68 : decode cX7_meet 68 = .ok (.putfield 50, 3) := by decide +kernel
theorem dX7_meet_71 : decode cX7_meet 71 = .ok (.aload_n 0, 1) := by decide +kernel
theorem dX7_meet_72 : decode cX7_meet 72 = .ok (.iload_n 2, 1) := by decide +kernel
theorem dX7_meet_73 : decode cX7_meet 73 = .ok (.putfield 53, 3) := by decide +kernel
theorem dX7_meet_76 : decode cX7_meet 76 = .ok (.iload 5, 2) := by decide +kernel
theorem dX7_meet_78 : decode cX7_meet 78 = .ok (.ireturn, 1) := by decide +kernel
theorem dX7_peg_0 : decode cX7_peg 0 = .ok (.aload_n 0, 1) := by decide +kernel
theorem dX7_peg_1 : decode cX7_peg 1 = .ok (.iload_n 1, 1) := by decide +kernel
theorem dX7_peg_2 : decode cX7_peg 2 = .ok (.invokevirtual 108, 3) := by decide +kernel
theorem dX7_peg_5 : decode cX7_peg 5 = .ok (.astore 4, 2) := by decide +kernel
theorem dX7_peg_7 : decode cX7_peg 7 = .ok (.iload_n 2, 1) := by decide +kernel
theorem dX7_peg_8 : decode cX7_peg 8 = .ok (.invokestatic 62, 3) := by decide +kernel
theorem dX7_peg_11 : decode cX7_peg 11 = .ok (.iload_n 3, 1) := by decide +kernel
theorem dX7_peg_12 : decode cX7_peg 12 = .ok (.bipush 40, 2) := by decide +kernel
theorem dX7_peg_14 : decode cX7_peg 14 = .ok (.iload_n 2, 1) := by decide +kernel
theorem dX7_peg_15 : decode cX7_peg 15 = .ok (.isub, 1) := by decide +kernel
theorem dX7_peg_16 : decode cX7_peg 16 = .ok (.if_icmp .gt 7, 3) := by decide +kernel
theorem dX7_peg_19 : decode cX7_peg 19 = .ok (.iconst 1, 1) := by decide +kernel
theorem dX7_peg_20 : decode cX7_peg 20 = .ok (.goto 4, 3) := by decide +kernel
theorem dX7_peg_23 : decode cX7_peg 23 = .ok (.iconst 0, 1) := by decide +kernel
theorem dX7_peg_24 : decode cX7_peg 24 = .ok (.invokestatic 112, 3) := by decide +kernel
theorem dX7_peg_27 : decode cX7_peg 27 = .ok (.iload_n 3, 1) := by decide +kernel
theorem dX7_peg_28 : decode cX7_peg 28 = .ok (.iconst 1, 1) := by decide +kernel
theorem dX7_peg_29 : decode cX7_peg 29 = .ok (.bipush 10, 2) := by decide +kernel
theorem dX7_peg_31 : decode cX7_peg 31 = .ok (.invokestatic 67, 3) := by decide +kernel
theorem dX7_peg_34 : decode cX7_peg 34 = .ok (.aload 4, 2) := by decide +kernel
theorem dX7_peg_36 : decode cX7_peg 36 = .ok (.invokevirtual 115, 3) := by decide +kernel
theorem dX7_peg_39 : decode cX7_peg 39 = .ok (.ifCond .ne 36, 3) := by decide +kernel
theorem dX7_peg_42 : decode cX7_peg 42 = .ok (.iload_n 3, 1) := by decide +kernel
theorem dX7_peg_43 : decode cX7_peg 43 = .ok (.aload_n 0, 1) := by decide +kernel
theorem dX7_peg_44 : decode cX7_peg 44 = .ok (.getfield 50, 3) := by decide +kernel
theorem dX7_peg_47 : decode cX7_peg 47 = .ok (.if_icmp .gt 28, 3) := by decide +kernel
theorem dX7_peg_50 : decode cX7_peg 50 = .ok (.aload_n 0, 1) := by decide +kernel
theorem dX7_peg_51 : decode cX7_peg 51 = .ok (.getfield 37, 3) := by decide +kernel
theorem dX7_peg_54 : decode cX7_peg 54 = .ok (.invokevirtual 86, 3) := by decide +kernel
theorem dX7_peg_57 : decode cX7_peg 57 = .ok (.bipush 30, 2) := by decide +kernel
theorem dX7_peg_59 : decode cX7_peg 59 = .ok (.if_icmp .ge 16, 3) := by decide +kernel
theorem dX7_peg_62 : decode cX7_peg 62 = .ok (.aload_n 0, 1) := by decide +kernel
theorem dX7_peg_63 : decode cX7_peg 63 = .ok (.iload_n 2, 1) := by decide +kernel
theorem dX7_peg_64 : decode cX7_peg 64 = .ok (.iload_n 3, 1) := by decide +kernel
theorem dX7_peg_65 : decode cX7_peg 65 = .ok (.invokevirtual 119, 3) := by decide +kernel
theorem dX7_peg_68 : decode cX7_peg 68 = .ok (.ifCond .eq 7, 3) := by decide +kernel
theorem dX7_peg_71 : decode cX7_peg 71 = .ok (.iconst 1, 1) := by decide +kernel
theorem dX7_peg_72 : decode cX7_peg 72 = .ok (.goto 4, 3) := by decide +kernel
theorem dX7_peg_75 : decode cX7_peg 75 = .ok (.iconst 0, 1) := by decide +kernel
theorem dX7_peg_76 : decode cX7_peg 76 = .ok (.invokestatic 75, 3) := by decide +kernel
theorem dX7_peg_79 : decode cX7_peg 79 = .ok (.aload_n 0, 1) := by decide +kernel
theorem dX7_peg_80 : decode cX7_peg 80 = .ok (.getfield 37, 3) := by decide +kernel
theorem dX7_peg_83 : decode cX7_peg 83 = .ok (.new 123, 3) := by decide +kernel
theorem dX7_peg_86 : decode cX7_peg 86 = .ok (.dup, 1) := by decide +kernel
theorem dX7_peg_87 : decode cX7_peg 87 = .ok (.iload_n 1, 1) := by decide +kernel
theorem dX7_peg_88 : decode cX7_peg 88 = .ok (.iload_n 2, 1) := by decide +kernel
theorem dX7_peg_89 : decode cX7_peg 89 = .ok (.iload_n 3, 1) := by decide +kernel
theorem dX7_peg_90 : decode cX7_peg 90 = .ok (.aload_n 0, 1) := by decide +kernel
theorem dX7_peg_91 : decode cX7_peg 91 = .ok (.getfield 53, 3) := by decide +kernel
theorem dX7_peg_94 : decode cX7_peg 94 = .ok (.aload_n 0, 1) := by decide +kernel
theorem dX7_peg_95 : decode cX7_peg 95 = .ok (.getfield 43, 3) := by decide +kernel
theorem dX7_peg_98 : decode cX7_peg 98 = .ok (.invokespecial 125, 3) := by decide +kernel
theorem dX7_peg_101 : decode cX7_peg 101 = .ok (.invokevirtual 95, 3) := by decide +kernel
theorem dX7_peg_104 : decode cX7_peg 104 = .ok (.pop, 1) := by decide +kernel
theorem dX7_peg_105 : decode cX7_peg 105 = .ok (.aload_n 0, 1) := by decide +kernel
theorem dX7_peg_106 : decode cX7_peg 106 = .ok (.getfield 37, 3) := by decide +kernel
theorem dX7_peg_109 : decode cX7_peg 109 = .ok (.invokevirtual 86, 3) := by decide +kernel
theorem dX7_peg_112 : decode cX7_peg 112 = .ok (.iconst 1, 1) := by decide +kernel
theorem dX7_peg_113 : decode cX7_peg 113 = .ok (.isub, 1) := by decide +kernel
theorem dX7_peg_114 : decode cX7_peg 114 = .ok (.ireturn, 1) := by decide +kernel
theorem dX7_right_0 : decode cX7_right 0 = .ok (.aload_n 0, 1) := by decide +kernel
theorem dX7_right_1 : decode cX7_right 1 = .ok (.iload_n 1, 1) := by decide +kernel
theorem dX7_right_2 : decode cX7_right 2 = .ok (.invokevirtual 108, 3) := by decide +kernel
theorem dX7_right_5 : decode cX7_right 5 = .ok (.astore_n 3, 1) := by decide +kernel
theorem dX7_right_6 : decode cX7_right 6 = .ok (.iload_n 2, 1) := by decide +kernel
theorem dX7_right_7 : decode cX7_right 7 = .ok (.iconst 1, 1) := by decide +kernel
theorem dX7_right_8 : decode cX7_right 8 = .ok (.sipush 200, 3) := by decide +kernel
theorem dX7_right_11 : decode cX7_right 11 = .ok (.invokestatic 67, 3) := by decide +kernel
theorem dX7_right_14 : decode cX7_right 14 = .ok (.aload_n 3, 1) := by decide +kernel
theorem dX7_right_15 : decode cX7_right 15 = .ok (.invokevirtual 115, 3) := by decide +kernel
theorem dX7_right_18 : decode cX7_right 18 = .ok (.ifCond .ne 19, 3) := by decide +kernel
theorem dX7_right_21 : decode cX7_right 21 = .ok (.aload_n 0, 1) := by decide +kernel
theorem dX7_right_22 : decode cX7_right 22 = .ok (.getfield 40, 3) := by decide +kernel
theorem dX7_right_25 : decode cX7_right 25 = .ok (.invokevirtual 86, 3) := by decide +kernel
theorem dX7_right_28 : decode cX7_right 28 = .ok (.bipush 20, 2) := by decide +kernel
theorem dX7_right_30 : decode cX7_right 30 = .ok (.if_icmp .ge 7, 3) := by decide +kernel
theorem dX7_right_33 : decode cX7_right 33 = .ok (.iconst 1, 1) := by decide +kernel
theorem dX7_right_34 : decode cX7_right 34 = .ok (.goto 4, 3) := by decide +kernel
theorem dX7_right_37 : decode cX7_right 37 = .ok (.iconst 0, 1) := by decide +kernel
theorem dX7_right_38 : decode cX7_right 38 = .ok (.invokestatic 75, 3) := by decide +kernel
theorem dX7_right_41 : decode cX7_right 41 = .ok (.aload_n 0, 1) := by decide +kernel
theorem dX7_right_42 : decode cX7_right 42 = .ok (.getfield 40, 3) := by decide +kernel
theorem dX7_right_45 : decode cX7_right 45 = .ok (.new 128, 3) := by decide +kernel
theorem dX7_right_48 : decode cX7_right 48 = .ok (.dup, 1) := by decide +kernel
theorem dX7_right_49 : decode cX7_right 49 = .ok (.iload_n 1, 1) := by decide +kernel
theorem dX7_right_50 : decode cX7_right 50 = .ok (.iload_n 2, 1) := by decide +kernel
theorem dX7_right_51 : decode cX7_right 51 = .ok (.invokespecial 130, 3) := by decide +kernel
theorem dX7_right_54 : decode cX7_right 54 = .ok (.invokevirtual 95, 3) := by decide +kernel
theorem dX7_right_57 : decode cX7_right 57 = .ok (.pop, 1) := by decide +kernel
theorem dX7_right_58 : decode cX7_right 58 = .ok (.aload_n 0, 1) := by decide +kernel
theorem dX7_right_59 : decode cX7_right 59 = .ok (.getfield 40, 3) := by decide +kernel
theorem dX7_right_62 : decode cX7_right 62 = .ok (.invokevirtual 86, 3) := by decide +kernel
theorem dX7_right_65 : decode cX7_right 65 = .ok (.iconst 1, 1) := by decide +kernel
theorem dX7_right_66 : decode cX7_right 66 = .ok (.isub, 1) := by decide +kernel
theorem dX7_right_67 : decode cX7_right 67 = .ok (.ireturn, 1) := by decide +kernel
theorem dX7_work_0 : decode cX7_work 0 = .ok (.aload_n 0, 1) := by decide +kernel
theorem dX7_work_1 : decode cX7_work 1 = .ok (.iload_n 1, 1) := by decide +kernel
theorem dX7_work_2 : decode cX7_work 2 = .ok (.invokevirtual 108, 3) := by decide +kernel
theorem dX7_work_5 : decode cX7_work 5 = .ok (.astore 4, 2) := by decide +kernel
theorem dX7_work_7 : decode cX7_work 7 = .ok (.iload_n 2, 1) := by decide +kernel
theorem dX7_work_8 : decode cX7_work 8 = .ok (.invokestatic 62, 3) := by decide +kernel
theorem dX7_work_11 : decode cX7_work 11 = .ok (.iload_n 3, 1) := by decide +kernel
theorem dX7_work_12 : decode cX7_work 12 = .ok (.invokestatic 131, 3) := by decide +kernel
theorem dX7_work_15 : decode cX7_work 15 = .ok (.astore 5, 2) := by decide +kernel
theorem dX7_work_17 : decode cX7_work 17 = .ok (.aload_n 0, 1) := by decide +kernel
theorem dX7_work_18 : decode cX7_work 18 = .ok (.iload_n 2, 1) := by decide +kernel
theorem dX7_work_19 : decode cX7_work 19 = .ok (.invokevirtual 135, 3) := by decide +kernel
theorem dX7_work_22 : decode cX7_work 22 = .ok (.istore 6, 2) := by decide +kernel
theorem dX7_work_24 : decode cX7_work 24 = .ok (.aload 4, 2) := by decide +kernel
theorem dX7_work_26 : decode cX7_work 26 = .ok (.invokevirtual 115, 3) := by decide +kernel
theorem dX7_work_29 : decode cX7_work 29 = .ok (.ifCond .ne 44, 3) := by decide +kernel
theorem dX7_work_32 : decode cX7_work 32 = .ok (.aload 4, 2) := by decide +kernel
theorem dX7_work_34 : decode cX7_work 34 = .ok (.getfield 138, 3) := by decide +kernel
theorem dX7_work_37 : decode cX7_work 37 = .ok (.aload_n 0, 1) := by decide +kernel
theorem dX7_work_38 : decode cX7_work 38 = .ok (.getfield 43, 3) := by decide +kernel
theorem dX7_work_41 : decode cX7_work 41 = .ok (.if_icmp .eq 32, 3) := by decide +kernel
theorem dX7_work_44 : decode cX7_work 44 = .ok (.aload_n 0, 1) := by decide +kernel
theorem dX7_work_45 : decode cX7_work 45 = .ok (.aload 5, 2) := by decide +kernel
theorem dX7_work_47 : decode cX7_work 47 = .ok (.iload_n 1, 1) := by decide +kernel
theorem dX7_work_48 : decode cX7_work 48 = .ok (.iload 6, 2) := by decide +kernel
theorem dX7_work_50 : decode cX7_work 50 = .ok (.invokevirtual 141, 3) := by decide +kernel
theorem dX7_work_53 : decode cX7_work 53 = .ok (.ifCond .eq 20, 3) := by decide +kernel
theorem dX7_work_56 : decode cX7_work 56 = .ok (.aload_n 0, 1) := by decide +kernel
theorem dX7_work_57 : decode cX7_work 57 = .ok (.iload_n 1, 1) := by decide +kernel
theorem dX7_work_58 : decode cX7_work 58 = .ok (.invokevirtual 145, 3) := by decide +kernel
theorem dX7_work_61 : decode cX7_work 61 = .ok (.aload 5, 2) := by decide +kernel
theorem dX7_work_63 : decode cX7_work 63 = .ok (.getfield 148, 3) := by decide +kernel
theorem dX7_work_66 : decode cX7_work 66 = .ok (.if_icmp .lt 7, 3) := by decide +kernel
theorem dX7_work_69 : decode cX7_work 69 = .ok (.iconst 1, 1) := by decide +kernel
theorem dX7_work_70 : decode cX7_work 70 = .ok (.goto 4, 3) := by decide +kernel
theorem dX7_work_73 : decode cX7_work 73 = .ok (.iconst 0, 1) := by decide +kernel
theorem dX7_work_74 : decode cX7_work 74 = .ok (.invokestatic 75, 3) := by decide +kernel
theorem dX7_work_77 : decode cX7_work 77 = .ok (.aload_n 0, 1) := by decide +kernel
theorem dX7_work_78 : decode cX7_work 78 = .ok (.getfield 10, 3) := by decide +kernel
theorem dX7_work_81 : decode cX7_work 81 = .ok (.iload_n 2, 1) := by decide +kernel
theorem dX7_work_82 : decode cX7_work 82 = .ok (.aload 5, 2) := by decide +kernel
theorem dX7_work_84 : decode cX7_work 84 = .ok (.invokevirtual 153, 3) := by decide +kernel
theorem dX7_work_87 : decode cX7_work 87 = .ok (.istore 7, 2) := by decide +kernel
theorem dX7_work_89 : decode cX7_work 89 = .ok (.aload_n 0, 1) := by decide +kernel
theorem dX7_work_90 : decode cX7_work 90 = .ok (.getfield 10, 3) := by decide +kernel
theorem dX7_work_93 : decode cX7_work 93 = .ok (.iconst 1, 1) := by decide +kernel
theorem dX7_work_94 : decode cX7_work 94 = .ok (.putfield 71, 3) := by decide +kernel
theorem dX7_work_97 : decode cX7_work 97 = .ok (.aload 4, 2) := by decide +kernel
theorem dX7_work_99 : decode cX7_work 99 = .ok (.aload_n 0, 1) := by decide +kernel
theorem dX7_work_100 : decode cX7_work 100 = .ok (.getfield 43, 3) := by decide +kernel
theorem dX7_work_103 : decode cX7_work 103 = .ok (.putfield 138, 3) := by decide +kernel
theorem dX7_work_106 : decode cX7_work 106 = .ok (.iload 6, 2) := by decide +kernel
theorem dX7_work_108 : decode cX7_work 108 = .ok (.iconst (-1), 1) := by decide +kernel
theorem dX7_work_109 : decode cX7_work 109 = .ok (.if_icmp .eq 16, 3) := by decide +kernel
theorem dX7_work_112 : decode cX7_work 112 = .ok (.aload_n 0, 1) := by decide +kernel
theorem dX7_work_113 : decode cX7_work 113 = .ok (.iload 6, 2) := by decide +kernel
theorem dX7_work_115 : decode cX7_work 115 = .ok (.invokevirtual 157, 3) := by decide +kernel
theorem dX7_work_118 : decode cX7_work 118 = .ok (.aload_n 0, 1) := by decide +kernel
theorem dX7_work_119 : decode cX7_work 119 = .ok (.getfield 43, 3) := by decide +kernel
theorem dX7_work_122 : decode cX7_work 122 = .ok (.putfield 161, 3) := by decide +kernel
theorem dX7_work_125 : decode cX7_work 125 = .ok (.aload_n 0, 1) := by decide +kernel
theorem dX7_work_126 : decode cX7_work 126 = .ok (.aload 4, 2) := by decide +kernel
theorem dX7_work_128 : decode cX7_work 128 = .ok (.iload 7, 2) := by decide +kernel
theorem dX7_work_130 : decode cX7_work 130 = .ok (.invokevirtual 162, 3) := by decide +kernel
theorem dX7_work_133 : decode cX7_work 133 = .ok (.iload 7, 2) := by decide +kernel
theorem dX7_work_135 : decode cX7_work 135 = .ok (.ireturn, 1) := by decide +kernel
theorem dX7_sample_0 : decode cX7_sample 0 = .ok (.iload_n 1, 1) := by decide +kernel
theorem dX7_sample_1 : decode cX7_sample 1 = .ok (.invokestatic 62, 3) := by decide +kernel
theorem dX7_sample_4 : decode cX7_sample 4 = .ok (.aload_n 0, 1) := by decide +kernel
theorem dX7_sample_5 : decode cX7_sample 5 = .ok (.getfield 10, 3) := by decide +kernel
theorem dX7_sample_8 : decode cX7_sample 8 = .ok (.iload_n 1, 1) := by decide +kernel
theorem dX7_sample_9 : decode cX7_sample 9 = .ok (.invokevirtual 79, 3) := by decide +kernel
theorem dX7_sample_12 : decode cX7_sample 12 = .ok (.bipush 100, 2) := by decide +kernel
theorem dX7_sample_14 : decode cX7_sample 14 = .ok (.idiv, 1) := by decide +kernel
theorem dX7_sample_15 : decode cX7_sample 15 = .ok (.ireturn, 1) := by decide +kernel
theorem dX7_salt_0 : decode cX7_salt 0 = .ok (.aload_n 0, 1) := by decide +kernel
theorem dX7_salt_1 : decode cX7_salt 1 = .ok (.iload_n 1, 1) := by decide +kernel
theorem dX7_salt_2 : decode cX7_salt 2 = .ok (.invokevirtual 108, 3) := by decide +kernel
theorem dX7_salt_5 : decode cX7_salt 5 = .ok (.astore 4, 2) := by decide +kernel
theorem dX7_salt_7 : decode cX7_salt 7 = .ok (.iload_n 2, 1) := by decide +kernel
theorem dX7_salt_8 : decode cX7_salt 8 = .ok (.invokestatic 62, 3) := by decide +kernel
theorem dX7_salt_11 : decode cX7_salt 11 = .ok (.iload_n 3, 1) := by decide +kernel
theorem dX7_salt_12 : decode cX7_salt 12 = .ok (.iconst 1, 1) := by decide +kernel
theorem dX7_salt_13 : decode cX7_salt 13 = .ok (.sipush 10000, 3) := by decide +kernel
theorem dX7_salt_16 : decode cX7_salt 16 = .ok (.invokestatic 67, 3) := by decide +kernel
theorem dX7_salt_19 : decode cX7_salt 19 = .ok (.aload 4, 2) := by decide +kernel
theorem dX7_salt_21 : decode cX7_salt 21 = .ok (.invokevirtual 115, 3) := by decide +kernel
theorem dX7_salt_24 : decode cX7_salt 24 = .ok (.ifCond .ne 16, 3) := by decide +kernel
theorem dX7_salt_27 : decode cX7_salt 27 = .ok (.aload 4, 2) := by decide +kernel
theorem dX7_salt_29 : decode cX7_salt 29 = .ok (.getfield 166, 3) := by decide +kernel
theorem dX7_salt_32 : decode cX7_salt 32 = .ok (.iload_n 3, 1) := by decide +kernel
theorem dX7_salt_33 : decode cX7_salt 33 = .ok (.if_icmp .lt 7, 3) := by decide +kernel
theorem dX7_salt_36 : decode cX7_salt 36 = .ok (.iconst 1, 1) := by decide +kernel
theorem dX7_salt_37 : decode cX7_salt 37 = .ok (.goto 4, 3) := by decide +kernel
theorem dX7_salt_40 : decode cX7_salt 40 = .ok (.iconst 0, 1) := by decide +kernel
theorem dX7_salt_41 : decode cX7_salt 41 = .ok (.invokestatic 75, 3) := by decide +kernel
theorem dX7_salt_44 : decode cX7_salt 44 = .ok (.aload 4, 2) := by decide +kernel
theorem dX7_salt_46 : decode cX7_salt 46 = .ok (.dup, 1) := by decide +kernel
theorem dX7_salt_47 : decode cX7_salt 47 = .ok (.getfield 166, 3) := by decide +kernel
theorem dX7_salt_50 : decode cX7_salt 50 = .ok (.iload_n 3, 1) := by decide +kernel
theorem dX7_salt_51 : decode cX7_salt 51 = .ok (.isub, 1) := by decide +kernel
theorem dX7_salt_52 : decode cX7_salt 52 = .ok (.putfield 166, 3) := by decide +kernel
theorem dX7_salt_55 : decode cX7_salt 55 = .ok (.aload_n 0, 1) := by decide +kernel
theorem dX7_salt_56 : decode cX7_salt 56 = .ok (.getfield 10, 3) := by decide +kernel
theorem dX7_salt_59 : decode cX7_salt 59 = .ok (.iload_n 2, 1) := by decide +kernel
theorem dX7_salt_60 : decode cX7_salt 60 = .ok (.iload_n 3, 1) := by decide +kernel
theorem dX7_salt_61 : decode cX7_salt 61 = .ok (.invokevirtual 169, 3) := by decide +kernel
theorem dX7_salt_64 : decode cX7_salt 64 = .ok (.aload_n 0, 1) := by decide +kernel
theorem dX7_salt_65 : decode cX7_salt 65 = .ok (.getfield 10, 3) := by decide +kernel
theorem dX7_salt_68 : decode cX7_salt 68 = .ok (.iconst 1, 1) := by decide +kernel
theorem dX7_salt_69 : decode cX7_salt 69 = .ok (.putfield 71, 3) := by decide +kernel
theorem dX7_salt_72 : decode cX7_salt 72 = .ok (.aload 4, 2) := by decide +kernel
theorem dX7_salt_74 : decode cX7_salt 74 = .ok (.iload_n 2, 1) := by decide +kernel
theorem dX7_salt_75 : decode cX7_salt 75 = .ok (.aload_n 0, 1) := by decide +kernel
theorem dX7_salt_76 : decode cX7_salt 76 = .ok (.getfield 43, 3) := by decide +kernel
theorem dX7_salt_79 : decode cX7_salt 79 = .ok (.invokevirtual 172, 3) := by decide +kernel
theorem dX7_salt_82 : decode cX7_salt 82 = .ok (.aload_n 0, 1) := by decide +kernel
theorem dX7_salt_83 : decode cX7_salt 83 = .ok (.iload_n 1, 1) := by decide +kernel
theorem dX7_salt_84 : decode cX7_salt 84 = .ok (.iload_n 2, 1) := by decide +kernel
theorem dX7_salt_85 : decode cX7_salt 85 = .ok (.invokevirtual 175, 3) := by decide +kernel
theorem dX7_salt_88 : decode cX7_salt 88 = .ok (.aload_n 0, 1) := by decide +kernel
theorem dX7_salt_89 : decode cX7_salt 89 = .ok (.getfield 10, 3) := by decide +kernel
theorem dX7_salt_92 : decode cX7_salt 92 = .ok (.iload_n 2, 1) := by decide +kernel
theorem dX7_salt_93 : decode cX7_salt 93 = .ok (.invokevirtual 79, 3) := by decide +kernel
theorem dX7_salt_96 : decode cX7_salt 96 = .ok (.ireturn, 1) := by decide +kernel
theorem dX7_brass_0 : decode cX7_brass 0 = .ok (.aload_n 0, 1) := by decide +kernel
theorem dX7_brass_1 : decode cX7_brass 1 = .ok (.iload_n 1, 1) := by decide +kernel
theorem dX7_brass_2 : decode cX7_brass 2 = .ok (.invokevirtual 108, 3) := by decide +kernel
theorem dX7_brass_5 : decode cX7_brass 5 = .ok (.astore_n 3, 1) := by decide +kernel
theorem dX7_brass_6 : decode cX7_brass 6 = .ok (.iload_n 2, 1) := by decide +kernel
theorem dX7_brass_7 : decode cX7_brass 7 = .ok (.iconst 1, 1) := by decide +kernel
theorem dX7_brass_8 : decode cX7_brass 8 = .ok (.sipush 10000, 3) := by decide +kernel
theorem dX7_brass_11 : decode cX7_brass 11 = .ok (.invokestatic 67, 3) := by decide +kernel
theorem dX7_brass_14 : decode cX7_brass 14 = .ok (.aload_n 3, 1) := by decide +kernel
theorem dX7_brass_15 : decode cX7_brass 15 = .ok (.invokevirtual 115, 3) := by decide +kernel
theorem dX7_brass_18 : decode cX7_brass 18 = .ok (.ifCond .ne 18, 3) := by decide +kernel
theorem dX7_brass_21 : decode cX7_brass 21 = .ok (.aload_n 3, 1) := by decide +kernel
theorem dX7_brass_22 : decode cX7_brass 22 = .ok (.getfield 178, 3) := by decide +kernel
theorem dX7_brass_25 : decode cX7_brass 25 = .ok (.iload_n 2, 1) := by decide +kernel
theorem dX7_brass_26 : decode cX7_brass 26 = .ok (.iadd, 1) := by decide +kernel
theorem dX7_brass_27 : decode cX7_brass 27 = .ok (.ldc 66, 2) := by decide +kernel
theorem dX7_brass_29 : decode cX7_brass 29 = .ok (.if_icmp .gt 7, 3) := by decide +kernel
theorem dX7_brass_32 : decode cX7_brass 32 = .ok (.iconst 1, 1) := by decide +kernel
theorem dX7_brass_33 : decode cX7_brass 33 = .ok (.goto 4, 3) := by decide +kernel
theorem dX7_brass_36 : decode cX7_brass 36 = .ok (.iconst 0, 1) := by decide +kernel
theorem dX7_brass_37 : decode cX7_brass 37 = .ok (.invokestatic 75, 3) := by decide +kernel
theorem dX7_brass_40 : decode cX7_brass 40 = .ok (.aload_n 3, 1) := by decide +kernel
theorem dX7_brass_41 : decode cX7_brass 41 = .ok (.dup, 1) := by decide +kernel
theorem dX7_brass_42 : decode cX7_brass 42 = .ok (.getfield 178, 3) := by decide +kernel
theorem dX7_brass_45 : decode cX7_brass 45 = .ok (.iload_n 2, 1) := by decide +kernel
theorem dX7_brass_46 : decode cX7_brass 46 = .ok (.iadd, 1) := by decide +kernel
theorem dX7_brass_47 : decode cX7_brass 47 = .ok (.putfield 178, 3) := by decide +kernel
theorem dX7_brass_50 : decode cX7_brass 50 = .ok (.aload_n 3, 1) := by decide +kernel
theorem dX7_brass_51 : decode cX7_brass 51 = .ok (.getfield 178, 3) := by decide +kernel
theorem dX7_brass_54 : decode cX7_brass 54 = .ok (.ireturn, 1) := by decide +kernel
theorem dX7_sell_0 : decode cX7_sell 0 = .ok (.aload_n 0, 1) := by decide +kernel
theorem dX7_sell_1 : decode cX7_sell 1 = .ok (.iload_n 1, 1) := by decide +kernel
theorem dX7_sell_2 : decode cX7_sell 2 = .ok (.invokevirtual 108, 3) := by decide +kernel
theorem dX7_sell_5 : decode cX7_sell 5 = .ok (.astore_n 3, 1) := by decide +kernel
theorem dX7_sell_6 : decode cX7_sell 6 = .ok (.iload_n 2, 1) := by decide +kernel
theorem dX7_sell_7 : decode cX7_sell 7 = .ok (.iconst 1, 1) := by decide +kernel
theorem dX7_sell_8 : decode cX7_sell 8 = .ok (.ldc 181, 2) := by decide +kernel
theorem dX7_sell_10 : decode cX7_sell 10 = .ok (.invokestatic 67, 3) := by decide +kernel
theorem dX7_sell_13 : decode cX7_sell 13 = .ok (.aload_n 3, 1) := by decide +kernel
theorem dX7_sell_14 : decode cX7_sell 14 = .ok (.invokevirtual 115, 3) := by decide +kernel
theorem dX7_sell_17 : decode cX7_sell 17 = .ok (.ifCond .ne 15, 3) := by decide +kernel
theorem dX7_sell_20 : decode cX7_sell 20 = .ok (.aload_n 3, 1) := by decide +kernel
theorem dX7_sell_21 : decode cX7_sell 21 = .ok (.invokevirtual 182, 3) := by decide +kernel
theorem dX7_sell_24 : decode cX7_sell 24 = .ok (.iload_n 2, 1) := by decide +kernel
theorem dX7_sell_25 : decode cX7_sell 25 = .ok (.if_icmp .lt 7, 3) := by decide +kernel
theorem dX7_sell_28 : decode cX7_sell 28 = .ok (.iconst 1, 1) := by decide +kernel
theorem dX7_sell_29 : decode cX7_sell 29 = .ok (.goto 4, 3) := by decide +kernel
theorem dX7_sell_32 : decode cX7_sell 32 = .ok (.iconst 0, 1) := by decide +kernel
theorem dX7_sell_33 : decode cX7_sell 33 = .ok (.invokestatic 75, 3) := by decide +kernel
theorem dX7_sell_36 : decode cX7_sell 36 = .ok (.aload_n 3, 1) := by decide +kernel
theorem dX7_sell_37 : decode cX7_sell 37 = .ok (.invokevirtual 185, 3) := by decide +kernel
theorem dX7_sell_40 : decode cX7_sell 40 = .ok (.ifCond .eq 15, 3) := by decide +kernel
theorem dX7_sell_43 : decode cX7_sell 43 = .ok (.aload_n 3, 1) := by decide +kernel
theorem dX7_sell_44 : decode cX7_sell 44 = .ok (.dup, 1) := by decide +kernel
theorem dX7_sell_45 : decode cX7_sell 45 = .ok (.getfield 188, 3) := by decide +kernel
theorem dX7_sell_48 : decode cX7_sell 48 = .ok (.iconst 1, 1) := by decide +kernel
theorem dX7_sell_49 : decode cX7_sell 49 = .ok (.iadd, 1) := by decide +kernel
theorem dX7_sell_50 : decode cX7_sell 50 = .ok (.putfield 188, 3) := by decide +kernel
theorem dX7_sell_53 : decode cX7_sell 53 = .ok (.iconst (-1), 1) := by decide +kernel
theorem dX7_sell_54 : decode cX7_sell 54 = .ok (.ireturn, 1) := by decide +kernel
theorem dX7_sell_55 : decode cX7_sell 55 = .ok (.aload_n 3, 1) := by decide +kernel
theorem dX7_sell_56 : decode cX7_sell 56 = .ok (.iload_n 2, 1) := by decide +kernel
theorem dX7_sell_57 : decode cX7_sell 57 = .ok (.invokevirtual 191, 3) := by decide +kernel
theorem dX7_sell_60 : decode cX7_sell 60 = .ok (.istore 4, 2) := by decide +kernel
theorem dX7_sell_62 : decode cX7_sell 62 = .ok (.iload_n 2, 1) := by decide +kernel
theorem dX7_sell_63 : decode cX7_sell 63 = .ok (.iload 4, 2) := by decide +kernel
theorem dX7_sell_65 : decode cX7_sell 65 = .ok (.isub, 1) := by decide +kernel
theorem dX7_sell_66 : decode cX7_sell 66 = .ok (.istore 5, 2) := by decide +kernel
theorem dX7_sell_68 : decode cX7_sell 68 = .ok (.iload_n 2, 1) := by decide +kernel
theorem dX7_sell_69 : decode cX7_sell 69 = .ok (.aload_n 0, 1) := by decide +kernel
theorem dX7_sell_70 : decode cX7_sell 70 = .ok (.getfield 56, 3) := by decide +kernel
theorem dX7_sell_73 : decode cX7_sell 73 = .ok (.imul, 1) := by decide +kernel
theorem dX7_sell_74 : decode cX7_sell 74 = .ok (.bipush 10, 2) := by decide +kernel
theorem dX7_sell_76 : decode cX7_sell 76 = .ok (.idiv, 1) := by decide +kernel
theorem dX7_sell_77 : decode cX7_sell 77 = .ok (.istore 6, 2) := by decide +kernel
theorem dX7_sell_79 : decode cX7_sell 79 = .ok (.aload_n 3, 1) := by decide +kernel
theorem dX7_sell_80 : decode cX7_sell 80 = .ok (.dup, 1) := by decide +kernel
theorem dX7_sell_81 : decode cX7_sell 81 = .ok (.getfield 178, 3) := by decide +kernel
theorem dX7_sell_84 : decode cX7_sell 84 = .ok (.iload 4, 2) := by decide +kernel
theorem dX7_sell_86 : decode cX7_sell 86 = .ok (.isub, 1) := by decide +kernel
theorem dX7_sell_87 : decode cX7_sell 87 = .ok (.putfield 178, 3) := by decide +kernel
theorem dX7_sell_90 : decode cX7_sell 90 = .ok (.aload_n 3, 1) := by decide +kernel
theorem dX7_sell_91 : decode cX7_sell 91 = .ok (.dup, 1) := by decide +kernel
theorem dX7_sell_92 : decode cX7_sell 92 = .ok (.getfield 166, 3) := by decide +kernel
theorem dX7_sell_95 : decode cX7_sell 95 = .ok (.iload 5, 2) := by decide +kernel
theorem dX7_sell_97 : decode cX7_sell 97 = .ok (.isub, 1) := by decide +kernel
theorem dX7_sell_98 : decode cX7_sell 98 = .ok (.putfield 166, 3) := by decide +kernel
theorem dX7_sell_101 : decode cX7_sell 101 = .ok (.aload_n 3, 1) := by decide +kernel
theorem dX7_sell_102 : decode cX7_sell 102 = .ok (.dup, 1) := by decide +kernel
theorem dX7_sell_103 : decode cX7_sell 103 = .ok (.getfield 194, 3) := by decide +kernel
theorem dX7_sell_106 : decode cX7_sell 106 = .ok (.iload 6, 2) := by decide +kernel
theorem dX7_sell_108 : decode cX7_sell 108 = .ok (.iadd, 1) := by decide +kernel
theorem dX7_sell_109 : decode cX7_sell 109 = .ok (.putfield 194, 3) := by decide +kernel
theorem dX7_sell_112 : decode cX7_sell 112 = .ok (.aload_n 0, 1) := by decide +kernel
theorem dX7_sell_113 : decode cX7_sell 113 = .ok (.dup, 1) := by decide +kernel
theorem dX7_sell_114 : decode cX7_sell 114 = .ok (.getfield 59, 3) := by decide +kernel
theorem dX7_sell_117 : decode cX7_sell 117 = .ok (.iload 5, 2) := by decide +kernel
theorem dX7_sell_119 : decode cX7_sell 119 = .ok (.iadd, 1) := by decide +kernel
theorem dX7_sell_120 : decode cX7_sell 120 = .ok (.putfield 59, 3) := by decide +kernel
theorem dX7_sell_123 : decode cX7_sell 123 = .ok (.iload 6, 2) := by decide +kernel
theorem dX7_sell_125 : decode cX7_sell 125 = .ok (.ireturn, 1) := by decide +kernel
theorem dX7_rate_0 : decode cX7_rate 0 = .ok (.iload_n 1, 1) := by decide +kernel
theorem dX7_rate_1 : decode cX7_rate 1 = .ok (.iconst 1, 1) := by decide +kernel
theorem dX7_rate_2 : decode cX7_rate 2 = .ok (.bipush 100, 2) := by decide +kernel
theorem dX7_rate_4 : decode cX7_rate 4 = .ok (.invokestatic 67, 3) := by decide +kernel
theorem dX7_rate_7 : decode cX7_rate 7 = .ok (.aload_n 0, 1) := by decide +kernel
theorem dX7_rate_8 : decode cX7_rate 8 = .ok (.getfield 56, 3) := by decide +kernel
theorem dX7_rate_11 : decode cX7_rate 11 = .ok (.istore_n 2, 1) := by decide +kernel
theorem dX7_rate_12 : decode cX7_rate 12 = .ok (.aload_n 0, 1) := by decide +kernel
theorem dX7_rate_13 : decode cX7_rate 13 = .ok (.iload_n 1, 1) := by decide +kernel
theorem dX7_rate_14 : decode cX7_rate 14 = .ok (.putfield 56, 3) := by decide +kernel
theorem dX7_rate_17 : decode cX7_rate 17 = .ok (.iload_n 2, 1) := by decide +kernel
theorem dX7_rate_18 : decode cX7_rate 18 = .ok (.ireturn, 1) := by decide +kernel
theorem dX7_freight_0 : decode cX7_freight 0 = .ok (.iload_n 1, 1) := by decide +kernel
theorem dX7_freight_1 : decode cX7_freight 1 = .ok (.iconst 1, 1) := by decide +kernel
theorem dX7_freight_2 : decode cX7_freight 2 = .ok (.sipush 1000, 3) := by decide +kernel
theorem dX7_freight_5 : decode cX7_freight 5 = .ok (.invokestatic 67, 3) := by decide +kernel
theorem dX7_freight_8 : decode cX7_freight 8 = .ok (.iload_n 2, 1) := by decide +kernel
theorem dX7_freight_9 : decode cX7_freight 9 = .ok (.aload_n 0, 1) := by decide +kernel
theorem dX7_freight_10 : decode cX7_freight 10 = .ok (.getfield 43, 3) := by decide +kernel
theorem dX7_freight_13 : decode cX7_freight 13 = .ok (.iconst 1, 1) := by decide +kernel
theorem dX7_freight_14 : decode cX7_freight 14 = .ok (.iadd, 1) := by decide +kernel
theorem dX7_freight_15 : decode cX7_freight 15 = .ok (.sipush 5000, 3) := by decide +kernel
theorem dX7_freight_18 : decode cX7_freight 18 = .ok (.invokestatic 67, 3) := by decide +kernel
theorem dX7_freight_21 : decode cX7_freight 21 = .ok (.aload_n 0, 1) := by decide +kernel
theorem dX7_freight_22 : decode cX7_freight 22 = .ok (.getfield 19, 3) := by decide +kernel
theorem dX7_freight_25 : decode cX7_freight 25 = .ok (.invokevirtual 197, 3) := by decide +kernel
theorem dX7_freight_28 : decode cX7_freight 28 = .ok (.bipush 20, 2) := by decide +kernel
theorem dX7_freight_30 : decode cX7_freight 30 = .ok (.if_icmp .ge 7, 3) := by decide +kernel
theorem dX7_freight_33 : decode cX7_freight 33 = .ok (.iconst 1, 1) := by decide +kernel
theorem dX7_freight_34 : decode cX7_freight 34 = .ok (.goto 4, 3) := by decide +kernel
theorem dX7_freight_37 : decode cX7_freight 37 = .ok (.iconst 0, 1) := by decide +kernel
theorem dX7_freight_38 : decode cX7_freight 38 = .ok (.invokestatic 75, 3) := by decide +kernel
theorem dX7_freight_41 : decode cX7_freight 41 = .ok (.aload_n 0, 1) := by decide +kernel
theorem dX7_freight_42 : decode cX7_freight 42 = .ok (.getfield 19, 3) := by decide +kernel
theorem dX7_freight_45 : decode cX7_freight 45 = .ok (.iload_n 1, 1) := by decide +kernel
theorem dX7_freight_46 : decode cX7_freight 46 = .ok (.iload_n 2, 1) := by decide +kernel
theorem dX7_freight_47 : decode cX7_freight 47 = .ok (.invokevirtual 200, 3) := by decide +kernel
theorem dX7_freight_50 : decode cX7_freight 50 = .ok (.return_, 1) := by decide +kernel
theorem dX7_buy_0 : decode cX7_buy 0 = .ok (.aload_n 0, 1) := by decide +kernel
theorem dX7_buy_1 : decode cX7_buy 1 = .ok (.iload_n 1, 1) := by decide +kernel
theorem dX7_buy_2 : decode cX7_buy 2 = .ok (.invokevirtual 108, 3) := by decide +kernel
theorem dX7_buy_5 : decode cX7_buy 5 = .ok (.astore_n 3, 1) := by decide +kernel
theorem dX7_buy_6 : decode cX7_buy 6 = .ok (.iload_n 2, 1) := by decide +kernel
theorem dX7_buy_7 : decode cX7_buy 7 = .ok (.iconst 1, 1) := by decide +kernel
theorem dX7_buy_8 : decode cX7_buy 8 = .ok (.sipush 1000, 3) := by decide +kernel
theorem dX7_buy_11 : decode cX7_buy 11 = .ok (.invokestatic 67, 3) := by decide +kernel
theorem dX7_buy_14 : decode cX7_buy 14 = .ok (.iload_n 2, 1) := by decide +kernel
theorem dX7_buy_15 : decode cX7_buy 15 = .ok (.aload_n 0, 1) := by decide +kernel
theorem dX7_buy_16 : decode cX7_buy 16 = .ok (.getfield 19, 3) := by decide +kernel
theorem dX7_buy_19 : decode cX7_buy 19 = .ok (.invokevirtual 203, 3) := by decide +kernel
theorem dX7_buy_22 : decode cX7_buy 22 = .ok (.imul, 1) := by decide +kernel
theorem dX7_buy_23 : decode cX7_buy 23 = .ok (.istore 4, 2) := by decide +kernel
theorem dX7_buy_25 : decode cX7_buy 25 = .ok (.aload_n 3, 1) := by decide +kernel
theorem dX7_buy_26 : decode cX7_buy 26 = .ok (.invokevirtual 115, 3) := by decide +kernel
theorem dX7_buy_29 : decode cX7_buy 29 = .ok (.ifCond .ne 27, 3) := by decide +kernel
theorem dX7_buy_32 : decode cX7_buy 32 = .ok (.aload_n 0, 1) := by decide +kernel
theorem dX7_buy_33 : decode cX7_buy 33 = .ok (.getfield 19, 3) := by decide +kernel
theorem dX7_buy_36 : decode cX7_buy 36 = .ok (.getfield 206, 3) := by decide +kernel
theorem dX7_buy_39 : decode cX7_buy 39 = .ok (.iload_n 2, 1) := by decide +kernel
theorem dX7_buy_40 : decode cX7_buy 40 = .ok (.if_icmp .lt 16, 3) := by decide +kernel
theorem dX7_buy_43 : decode cX7_buy 43 = .ok (.aload_n 3, 1) := by decide +kernel
theorem dX7_buy_44 : decode cX7_buy 44 = .ok (.getfield 194, 3) := by decide +kernel
theorem dX7_buy_47 : decode cX7_buy 47 = .ok (.iload 4, 2) := by decide +kernel
theorem dX7_buy_49 : decode cX7_buy 49 = .ok (.if_icmp .lt 7, 3) := by decide +kernel
theorem dX7_buy_52 : decode cX7_buy 52 = .ok (.iconst 1, 1) := by decide +kernel
theorem dX7_buy_53 : decode cX7_buy 53 = .ok (.goto 4, 3) := by decide +kernel
theorem dX7_buy_56 : decode cX7_buy 56 = .ok (.iconst 0, 1) := by decide +kernel
theorem dX7_buy_57 : decode cX7_buy 57 = .ok (.invokestatic 75, 3) := by decide +kernel
theorem dX7_buy_60 : decode cX7_buy 60 = .ok (.aload_n 0, 1) := by decide +kernel
theorem dX7_buy_61 : decode cX7_buy 61 = .ok (.getfield 19, 3) := by decide +kernel
theorem dX7_buy_64 : decode cX7_buy 64 = .ok (.dup, 1) := by decide +kernel
theorem dX7_buy_65 : decode cX7_buy 65 = .ok (.getfield 206, 3) := by decide +kernel
theorem dX7_buy_68 : decode cX7_buy 68 = .ok (.iload_n 2, 1) := by decide +kernel
theorem dX7_buy_69 : decode cX7_buy 69 = .ok (.isub, 1) := by decide +kernel
theorem dX7_buy_70 : decode cX7_buy 70 = .ok (.putfield 206, 3) := by decide +kernel
theorem dX7_buy_73 : decode cX7_buy 73 = .ok (.aload_n 3, 1) := by decide +kernel
theorem dX7_buy_74 : decode cX7_buy 74 = .ok (.dup, 1) := by decide +kernel
theorem dX7_buy_75 : decode cX7_buy 75 = .ok (.getfield 209, 3) := by decide +kernel
theorem dX7_buy_78 : decode cX7_buy 78 = .ok (.iload_n 2, 1) := by decide +kernel
theorem dX7_buy_79 : decode cX7_buy 79 = .ok (.iadd, 1) := by decide +kernel
theorem dX7_buy_80 : decode cX7_buy 80 = .ok (.putfield 209, 3) := by decide +kernel
theorem dX7_buy_83 : decode cX7_buy 83 = .ok (.aload_n 3, 1) := by decide +kernel
theorem dX7_buy_84 : decode cX7_buy 84 = .ok (.dup, 1) := by decide +kernel
theorem dX7_buy_85 : decode cX7_buy 85 = .ok (.getfield 194, 3) := by decide +kernel
theorem dX7_buy_88 : decode cX7_buy 88 = .ok (.iload 4, 2) := by decide +kernel
theorem dX7_buy_90 : decode cX7_buy 90 = .ok (.isub, 1) := by decide +kernel
theorem dX7_buy_91 : decode cX7_buy 91 = .ok (.putfield 194, 3) := by decide +kernel
theorem dX7_buy_94 : decode cX7_buy 94 = .ok (.iload 4, 2) := by decide +kernel
theorem dX7_buy_96 : decode cX7_buy 96 = .ok (.ireturn, 1) := by decide +kernel
theorem dX7_back_0 : decode cX7_back 0 = .ok (.aload_n 0, 1) := by decide +kernel
theorem dX7_back_1 : decode cX7_back 1 = .ok (.iload_n 1, 1) := by decide +kernel
theorem dX7_back_2 : decode cX7_back 2 = .ok (.invokevirtual 108, 3) := by decide +kernel
theorem dX7_back_5 : decode cX7_back 5 = .ok (.astore 5, 2) := by decide +kernel
theorem dX7_back_7 : decode cX7_back 7 = .ok (.aload_n 0, 1) := by decide +kernel
theorem dX7_back_8 : decode cX7_back 8 = .ok (.iload_n 2, 1) := by decide +kernel
theorem dX7_back_9 : decode cX7_back 9 = .ok (.invokevirtual 108, 3) := by decide +kernel
theorem dX7_back_12 : decode cX7_back 12 = .ok (.astore 6, 2) := by decide +kernel
theorem dX7_back_14 : decode cX7_back 14 = .ok (.iload_n 3, 1) := by decide +kernel
theorem dX7_back_15 : decode cX7_back 15 = .ok (.iconst 1, 1) := by decide +kernel
theorem dX7_back_16 : decode cX7_back 16 = .ok (.bipush 100, 2) := by decide +kernel
theorem dX7_back_18 : decode cX7_back 18 = .ok (.invokestatic 67, 3) := by decide +kernel
theorem dX7_back_21 : decode cX7_back 21 = .ok (.iload 4, 2) := by decide +kernel
theorem dX7_back_23 : decode cX7_back 23 = .ok (.iconst 0, 1) := by decide +kernel
theorem dX7_back_24 : decode cX7_back 24 = .ok (.ldc 66, 2) := by decide +kernel
theorem dX7_back_26 : decode cX7_back 26 = .ok (.invokestatic 67, 3) := by decide +kernel
theorem dX7_back_29 : decode cX7_back 29 = .ok (.iload_n 1, 1) := by decide +kernel
theorem dX7_back_30 : decode cX7_back 30 = .ok (.iload_n 2, 1) := by decide +kernel
theorem dX7_back_31 : decode cX7_back 31 = .ok (.if_icmp .eq 7, 3) := by decide +kernel
theorem dX7_back_34 : decode cX7_back 34 = .ok (.iconst 1, 1) := by decide +kernel
theorem dX7_back_35 : decode cX7_back 35 = .ok (.goto 4, 3) := by decide +kernel
theorem dX7_back_38 : decode cX7_back 38 = .ok (.iconst 0, 1) := by decide +kernel
theorem dX7_back_39 : decode cX7_back 39 = .ok (.invokestatic 105, 3) := by decide +kernel
theorem dX7_back_42 : decode cX7_back 42 = .ok (.aload 5, 2) := by decide +kernel
theorem dX7_back_44 : decode cX7_back 44 = .ok (.invokevirtual 115, 3) := by decide +kernel
theorem dX7_back_47 : decode cX7_back 47 = .ok (.ifCond .ne 46, 3) := by decide +kernel
theorem dX7_back_50 : decode cX7_back 50 = .ok (.aload 6, 2) := by decide +kernel
theorem dX7_back_52 : decode cX7_back 52 = .ok (.invokevirtual 115, 3) := by decide +kernel
theorem dX7_back_55 : decode cX7_back 55 = .ok (.ifCond .ne 38, 3) := by decide +kernel
theorem dX7_back_58 : decode cX7_back 58 = .ok (.aload 6, 2) := by decide +kernel
theorem dX7_back_60 : decode cX7_back 60 = .ok (.iload_n 1, 1) := by decide +kernel
theorem dX7_back_61 : decode cX7_back 61 = .ok (.invokevirtual 210, 3) := by decide +kernel
theorem dX7_back_64 : decode cX7_back 64 = .ok (.ifCond .ne 29, 3) := by decide +kernel
theorem dX7_back_67 : decode cX7_back 67 = .ok (.aload 5, 2) := by decide +kernel
theorem dX7_back_69 : decode cX7_back 69 = .ok (.getfield 194, 3) := by decide +kernel
theorem dX7_back_72 : decode cX7_back 72 = .ok (.iload 4, 2) := by decide +kernel
theorem dX7_back_74 : decode cX7_back 74 = .ok (.if_icmp .lt 19, 3) := by decide +kernel
theorem dX7_back_77 : decode cX7_back 77 = .ok (.aload 6, 2) := by decide +kernel
theorem dX7_back_79 : decode cX7_back 79 = .ok (.invokevirtual 213, 3) := by decide +kernel
theorem dX7_back_82 : decode cX7_back 82 = .ok (.iload_n 3, 1) := by decide +kernel
theorem dX7_back_83 : decode cX7_back 83 = .ok (.iadd, 1) := by decide +kernel
theorem dX7_back_84 : decode cX7_back 84 = .ok (.bipush 100, 2) := by decide +kernel
theorem dX7_back_86 : decode cX7_back 86 = .ok (.if_icmp .gt 7, 3) := by decide +kernel
theorem dX7_back_89 : decode cX7_back 89 = .ok (.iconst 1, 1) := by decide +kernel
theorem dX7_back_90 : decode cX7_back 90 = .ok (.goto 4, 3) := by decide +kernel
theorem dX7_back_93 : decode cX7_back 93 = .ok (.iconst 0, 1) := by decide +kernel
theorem dX7_back_94 : decode cX7_back 94 = .ok (.invokestatic 75, 3) := by decide +kernel
theorem dX7_back_97 : decode cX7_back 97 = .ok (.aload 5, 2) := by decide +kernel
theorem dX7_back_99 : decode cX7_back 99 = .ok (.dup, 1) := by decide +kernel
theorem dX7_back_100 : decode cX7_back 100 = .ok (.getfield 194, 3) := by decide +kernel
theorem dX7_back_103 : decode cX7_back 103 = .ok (.iload 4, 2) := by decide +kernel
theorem dX7_back_105 : decode cX7_back 105 = .ok (.isub, 1) := by decide +kernel
theorem dX7_back_106 : decode cX7_back 106 = .ok (.putfield 194, 3) := by decide +kernel
theorem dX7_back_109 : decode cX7_back 109 = .ok (.aload 6, 2) := by decide +kernel
theorem dX7_back_111 : decode cX7_back 111 = .ok (.dup, 1) := by decide +kernel
theorem dX7_back_112 : decode cX7_back 112 = .ok (.getfield 194, 3) := by decide +kernel
theorem dX7_back_115 : decode cX7_back 115 = .ok (.iload 4, 2) := by decide +kernel
theorem dX7_back_117 : decode cX7_back 117 = .ok (.iadd, 1) := by decide +kernel
theorem dX7_back_118 : decode cX7_back 118 = .ok (.putfield 194, 3) := by decide +kernel
theorem dX7_back_121 : decode cX7_back 121 = .ok (.aload 6, 2) := by decide +kernel
theorem dX7_back_123 : decode cX7_back 123 = .ok (.iload_n 1, 1) := by decide +kernel
theorem dX7_back_124 : decode cX7_back 124 = .ok (.iload_n 3, 1) := by decide +kernel
theorem dX7_back_125 : decode cX7_back 125 = .ok (.invokevirtual 216, 3) := by decide +kernel
theorem dX7_back_128 : decode cX7_back 128 = .ok (.return_, 1) := by decide +kernel
theorem dX7_end_0 : decode cX7_end 0 = .ok (.aload_n 0, 1) := by decide +kernel
theorem dX7_end_1 : decode cX7_end 1 = .ok (.iload_n 1, 1) := by decide +kernel
theorem dX7_end_2 : decode cX7_end 2 = .ok (.invokevirtual 219, 3) := by decide +kernel
theorem dX7_end_5 : decode cX7_end 5 = .ok (.invokestatic 112, 3) := by decide +kernel
theorem dX7_end_8 : decode cX7_end 8 = .ok (.aload_n 0, 1) := by decide +kernel
theorem dX7_end_9 : decode cX7_end 9 = .ok (.iload_n 2, 1) := by decide +kernel
theorem dX7_end_10 : decode cX7_end 10 = .ok (.invokevirtual 108, 3) := by decide +kernel
theorem dX7_end_13 : decode cX7_end 13 = .ok (.astore_n 3, 1) := by decide +kernel
theorem dX7_end_14 : decode cX7_end 14 = .ok (.aload_n 3, 1) := by decide +kernel
theorem dX7_end_15 : decode cX7_end 15 = .ok (.iload_n 1, 1) := by decide +kernel
theorem dX7_end_16 : decode cX7_end 16 = .ok (.invokevirtual 210, 3) := by decide +kernel
theorem dX7_end_19 : decode cX7_end 19 = .ok (.istore 4, 2) := by decide +kernel
theorem dX7_end_21 : decode cX7_end 21 = .ok (.iload 4, 2) := by decide +kernel
theorem dX7_end_23 : decode cX7_end 23 = .ok (.ifCond .le 7, 3) := by decide +kernel
theorem dX7_end_26 : decode cX7_end 26 = .ok (.iconst 1, 1) := by decide +kernel
theorem dX7_end_27 : decode cX7_end 27 = .ok (.goto 4, 3) := by decide +kernel
theorem dX7_end_30 : decode cX7_end 30 = .ok (.iconst 0, 1) := by decide +kernel
theorem dX7_end_31 : decode cX7_end 31 = .ok (.invokestatic 75, 3) := by decide +kernel
theorem dX7_end_34 : decode cX7_end 34 = .ok (.aload_n 3, 1) := by decide +kernel
theorem dX7_end_35 : decode cX7_end 35 = .ok (.iload_n 1, 1) := by decide +kernel
theorem dX7_end_36 : decode cX7_end 36 = .ok (.iconst 0, 1) := by decide +kernel
theorem dX7_end_37 : decode cX7_end 37 = .ok (.invokevirtual 216, 3) := by decide +kernel
theorem dX7_end_40 : decode cX7_end 40 = .ok (.iload 4, 2) := by decide +kernel
theorem dX7_end_42 : decode cX7_end 42 = .ok (.ireturn, 1) := by decide +kernel
theorem dX7_trade_0 : decode cX7_trade 0 = .ok (.aload_n 0, 1) := by decide +kernel
theorem dX7_trade_1 : decode cX7_trade 1 = .ok (.iload_n 1, 1) := by decide +kernel
theorem dX7_trade_2 : decode cX7_trade 2 = .ok (.invokevirtual 157, 3) := by decide +kernel
theorem dX7_trade_5 : decode cX7_trade 5 = .ok (.astore 4, 2) := by decide +kernel
theorem dX7_trade_7 : decode cX7_trade 7 = .ok (.aload_n 0, 1) := by decide +kernel
theorem dX7_trade_8 : decode cX7_trade 8 = .ok (.iload_n 2, 1) := by decide +kernel
theorem dX7_trade_9 : decode cX7_trade 9 = .ok (.invokevirtual 108, 3) := by decide +kernel
theorem dX7_trade_12 : decode cX7_trade 12 = .ok (.astore 5, 2) := by decide +kernel
theorem dX7_trade_14 : decode cX7_trade 14 = .ok (.iload_n 3, 1) := by decide +kernel
theorem dX7_trade_15 : decode cX7_trade 15 = .ok (.iconst 0, 1) := by decide +kernel
theorem dX7_trade_16 : decode cX7_trade 16 = .ok (.ldc 66, 2) := by decide +kernel
theorem dX7_trade_18 : decode cX7_trade 18 = .ok (.invokestatic 67, 3) := by decide +kernel
theorem dX7_trade_21 : decode cX7_trade 21 = .ok (.iload_n 2, 1) := by decide +kernel
theorem dX7_trade_22 : decode cX7_trade 22 = .ok (.aload 4, 2) := by decide +kernel
theorem dX7_trade_24 : decode cX7_trade 24 = .ok (.getfield 223, 3) := by decide +kernel
theorem dX7_trade_27 : decode cX7_trade 27 = .ok (.if_icmp .eq 7, 3) := by decide +kernel
theorem dX7_trade_30 : decode cX7_trade 30 = .ok (.iconst 1, 1) := by decide +kernel
theorem dX7_trade_31 : decode cX7_trade 31 = .ok (.goto 4, 3) := by decide +kernel
theorem dX7_trade_34 : decode cX7_trade 34 = .ok (.iconst 0, 1) := by decide +kernel
theorem dX7_trade_35 : decode cX7_trade 35 = .ok (.invokestatic 105, 3) := by decide +kernel
theorem dX7_trade_38 : decode cX7_trade 38 = .ok (.aload 4, 2) := by decide +kernel
theorem dX7_trade_40 : decode cX7_trade 40 = .ok (.getfield 226, 3) := by decide +kernel
theorem dX7_trade_43 : decode cX7_trade 43 = .ok (.ifCond .eq 24, 3) := by decide +kernel
theorem dX7_trade_46 : decode cX7_trade 46 = .ok (.aload 5, 2) := by decide +kernel
theorem dX7_trade_48 : decode cX7_trade 48 = .ok (.invokevirtual 115, 3) := by decide +kernel
theorem dX7_trade_51 : decode cX7_trade 51 = .ok (.ifCond .ne 16, 3) := by decide +kernel
theorem dX7_trade_54 : decode cX7_trade 54 = .ok (.aload 5, 2) := by decide +kernel
theorem dX7_trade_56 : decode cX7_trade 56 = .ok (.getfield 194, 3) := by decide +kernel
theorem dX7_trade_59 : decode cX7_trade 59 = .ok (.iload_n 3, 1) := by decide +kernel
theorem dX7_trade_60 : decode cX7_trade 60 = .ok (.if_icmp .lt 7, 3) := by decide +kernel
theorem dX7_trade_63 : decode cX7_trade 63 = .ok (.iconst 1, 1) := by decide +kernel
theorem dX7_trade_64 : decode cX7_trade 64 = .ok (.goto 4, 3) := by decide +kernel
theorem dX7_trade_67 : decode cX7_trade 67 = .ok (.iconst 0, 1) := by decide +kernel
theorem dX7_trade_68 : decode cX7_trade 68 = .ok (.invokestatic 75, 3) := by decide +kernel
theorem dX7_trade_71 : decode cX7_trade 71 = .ok (.aload 4, 2) := by decide +kernel
theorem dX7_trade_73 : decode cX7_trade 73 = .ok (.getfield 223, 3) := by decide +kernel
theorem dX7_trade_76 : decode cX7_trade 76 = .ok (.istore 6, 2) := by decide +kernel
theorem dX7_trade_78 : decode cX7_trade 78 = .ok (.aload_n 0, 1) := by decide +kernel
theorem dX7_trade_79 : decode cX7_trade 79 = .ok (.iload 6, 2) := by decide +kernel
theorem dX7_trade_81 : decode cX7_trade 81 = .ok (.invokevirtual 108, 3) := by decide +kernel
theorem dX7_trade_84 : decode cX7_trade 84 = .ok (.astore 7, 2) := by decide +kernel
theorem dX7_trade_86 : decode cX7_trade 86 = .ok (.aload 5, 2) := by decide +kernel
theorem dX7_trade_88 : decode cX7_trade 88 = .ok (.dup, 1) := by decide +kernel
theorem dX7_trade_89 : decode cX7_trade 89 = .ok (.getfield 194, 3) := by decide +kernel
theorem dX7_trade_92 : decode cX7_trade 92 = .ok (.iload_n 3, 1) := by decide +kernel
theorem dX7_trade_93 : decode cX7_trade 93 = .ok (.isub, 1) := by decide +kernel
theorem dX7_trade_94 : decode cX7_trade 94 = .ok (.putfield 194, 3) := by decide +kernel
theorem dX7_trade_97 : decode cX7_trade 97 = .ok (.aload 7, 2) := by decide +kernel
theorem dX7_trade_99 : decode cX7_trade 99 = .ok (.dup, 1) := by decide +kernel
theorem dX7_trade_100 : decode cX7_trade 100 = .ok (.getfield 194, 3) := by decide +kernel
theorem dX7_trade_103 : decode cX7_trade 103 = .ok (.iload_n 3, 1) := by decide +kernel
theorem dX7_trade_104 : decode cX7_trade 104 = .ok (.iadd, 1) := by decide +kernel
theorem dX7_trade_105 : decode cX7_trade 105 = .ok (.putfield 194, 3) := by decide +kernel
theorem dX7_trade_108 : decode cX7_trade 108 = .ok (.aload 7, 2) := by decide +kernel
theorem dX7_trade_110 : decode cX7_trade 110 = .ok (.aload 4, 2) := by decide +kernel
theorem dX7_trade_112 : decode cX7_trade 112 = .ok (.getfield 229, 3) := by decide +kernel
theorem dX7_trade_115 : decode cX7_trade 115 = .ok (.aload 4, 2) := by decide +kernel
theorem dX7_trade_117 : decode cX7_trade 117 = .ok (.getfield 232, 3) := by decide +kernel
theorem dX7_trade_120 : decode cX7_trade 120 = .ok (.aload_n 0, 1) := by decide +kernel
theorem dX7_trade_121 : decode cX7_trade 121 = .ok (.getfield 43, 3) := by decide +kernel
theorem dX7_trade_124 : decode cX7_trade 124 = .ok (.invokevirtual 235, 3) := by decide +kernel
theorem dX7_trade_127 : decode cX7_trade 127 = .ok (.istore 8, 2) := by decide +kernel
theorem dX7_trade_129 : decode cX7_trade 129 = .ok (.aload 4, 2) := by decide +kernel
theorem dX7_trade_131 : decode cX7_trade 131 = .ok (.iload_n 2, 1) := by decide +kernel
theorem dX7_trade_132 : decode cX7_trade 132 = .ok (.iload_n 3, 1) := by decide +kernel
theorem dX7_trade_133 : decode cX7_trade 133 = .ok (.aload_n 0, 1) := by decide +kernel
theorem dX7_trade_134 : decode cX7_trade 134 = .ok (.getfield 43, 3) := by decide +kernel
theorem dX7_trade_137 : decode cX7_trade 137 = .ok (.iload 8, 2) := by decide +kernel
theorem dX7_trade_139 : decode cX7_trade 139 = .ok (.invokevirtual 239, 3) := by decide +kernel
theorem dX7_trade_142 : decode cX7_trade 142 = .ok (.iload 6, 2) := by decide +kernel
theorem dX7_trade_144 : decode cX7_trade 144 = .ok (.ireturn, 1) := by decide +kernel
theorem dX7_suit_0 : decode cX7_suit 0 = .ok (.aload_n 0, 1) := by decide +kernel
theorem dX7_suit_1 : decode cX7_suit 1 = .ok (.iload_n 1, 1) := by decide +kernel
theorem dX7_suit_2 : decode cX7_suit 2 = .ok (.invokevirtual 157, 3) := by decide +kernel
theorem dX7_suit_5 : decode cX7_suit 5 = .ok (.astore_n 2, 1) := by decide +kernel
theorem dX7_suit_6 : decode cX7_suit 6 = .ok (.aload_n 2, 1) := by decide +kernel
theorem dX7_suit_7 : decode cX7_suit 7 = .ok (.getfield 243, 3) := by decide +kernel
theorem dX7_suit_10 : decode cX7_suit 10 = .ok (.iconst (-1), 1) := by decide +kernel
theorem dX7_suit_11 : decode cX7_suit 11 = .ok (.if_icmp .eq 28, 3) := by decide +kernel
theorem dX7_suit_14 : decode cX7_suit 14 = .ok (.aload_n 2, 1) := by decide +kernel
theorem dX7_suit_15 : decode cX7_suit 15 = .ok (.getfield 246, 3) := by decide +kernel
theorem dX7_suit_18 : decode cX7_suit 18 = .ok (.ifCond .ne 21, 3) := by decide +kernel
theorem dX7_suit_21 : decode cX7_suit 21 = .ok (.aload_n 0, 1) := by decide +kernel
theorem dX7_suit_22 : decode cX7_suit 22 = .ok (.getfield 43, 3) := by decide +kernel
theorem dX7_suit_25 : decode cX7_suit 25 = .ok (.aload_n 2, 1) := by decide +kernel
theorem dX7_suit_26 : decode cX7_suit 26 = .ok (.getfield 249, 3) := by decide +kernel
theorem dX7_suit_29 : decode cX7_suit 29 = .ok (.isub, 1) := by decide +kernel
theorem dX7_suit_30 : decode cX7_suit 30 = .ok (.bipush 30, 2) := by decide +kernel
theorem dX7_suit_32 : decode cX7_suit 32 = .ok (.if_icmp .gt 7, 3) := by decide +kernel
theorem dX7_suit_35 : decode cX7_suit 35 = .ok (.iconst 1, 1) := by decide +kernel
theorem dX7_suit_36 : decode cX7_suit 36 = .ok (.goto 4, 3) := by decide +kernel
theorem dX7_suit_39 : decode cX7_suit 39 = .ok (.iconst 0, 1) := by decide +kernel
theorem dX7_suit_40 : decode cX7_suit 40 = .ok (.invokestatic 75, 3) := by decide +kernel
theorem dX7_suit_43 : decode cX7_suit 43 = .ok (.aload_n 2, 1) := by decide +kernel
theorem dX7_suit_44 : decode cX7_suit 44 = .ok (.iconst 1, 1) := by decide +kernel
theorem dX7_suit_45 : decode cX7_suit 45 = .ok (.putfield 246, 3) := by decide +kernel
theorem dX7_suit_48 : decode cX7_suit 48 = .ok (.aload_n 2, 1) := by decide +kernel
theorem dX7_suit_49 : decode cX7_suit 49 = .ok (.getfield 252, 3) := by decide +kernel
theorem dX7_suit_52 : decode cX7_suit 52 = .ok (.ifCond .ne 5, 3) := by decide +kernel
theorem dX7_suit_55 : decode cX7_suit 55 = .ok (.iconst (-1), 1) := by decide +kernel
theorem dX7_suit_56 : decode cX7_suit 56 = .ok (.ireturn, 1) := by decide +kernel
theorem dX7_suit_57 : decode cX7_suit 57 = .ok (.aload_n 0, 1) := by decide +kernel
theorem dX7_suit_58 : decode cX7_suit 58 = .ok (.aload_n 2, 1) := by decide +kernel
theorem dX7_suit_59 : decode cX7_suit 59 = .ok (.getfield 223, 3) := by decide +kernel
theorem dX7_suit_62 : decode cX7_suit 62 = .ok (.invokevirtual 108, 3) := by decide +kernel
theorem dX7_suit_65 : decode cX7_suit 65 = .ok (.astore_n 3, 1) := by decide +kernel
theorem dX7_suit_66 : decode cX7_suit 66 = .ok (.aload_n 0, 1) := by decide +kernel
theorem dX7_suit_67 : decode cX7_suit 67 = .ok (.aload_n 2, 1) := by decide +kernel
theorem dX7_suit_68 : decode cX7_suit 68 = .ok (.getfield 243, 3) := by decide +kernel
theorem dX7_suit_71 : decode cX7_suit 71 = .ok (.invokevirtual 108, 3) := by decide +kernel
theorem dX7_suit_74 : decode cX7_suit 74 = .ok (.astore 4, 2) := by decide +kernel
theorem dX7_suit_76 : decode cX7_suit 76 = .ok (.aload_n 2, 1) := by decide +kernel
theorem dX7_suit_77 : decode cX7_suit 77 = .ok (.getfield 255, 3) := by decide +kernel
theorem dX7_suit_80 : decode cX7_suit 80 = .ok (.aload 4, 2) := by decide +kernel
theorem dX7_suit_82 : decode cX7_suit 82 = .ok (.getfield 194, 3) := by decide +kernel
theorem dX7_suit_85 : decode cX7_suit 85 = .ok (.invokestatic 258, 3) := by decide +kernel
theorem dX7_suit_88 : decode cX7_suit 88 = .ok (.istore 5, 2) := by decide +kernel
theorem dX7_suit_90 : decode cX7_suit 90 = .ok (.aload 4, 2) := by decide +kernel
theorem dX7_suit_92 : decode cX7_suit 92 = .ok (.dup, 1) := by decide +kernel
theorem dX7_suit_93 : decode cX7_suit 93 = .ok (.getfield 194, 3) := by decide +kernel
theorem dX7_suit_96 : decode cX7_suit 96 = .ok (.iload 5, 2) := by decide +kernel
theorem dX7_suit_98 : decode cX7_suit 98 = .ok (.isub, 1) := by decide +kernel
theorem dX7_suit_99 : decode cX7_suit 99 = .ok (.putfield 194, 3) := by decide +kernel
theorem dX7_suit_102 : decode cX7_suit 102 = .ok (.aload_n 3, 1) := by decide +kernel
theorem dX7_suit_103 : decode cX7_suit 103 = .ok (.dup, 1) := by decide +kernel
theorem dX7_suit_104 : decode cX7_suit 104 = .ok (.getfield 194, 3) := by decide +kernel
theorem dX7_suit_107 : decode cX7_suit 107 = .ok (.iload 5, 2) := by decide +kernel
theorem dX7_suit_109 : decode cX7_suit 109 = .ok (.iadd, 1) := by decide +kernel
theorem dX7_suit_110 : decode cX7_suit 110 = .ok (.putfield 194, 3) := by decide +kernel
theorem dX7_suit_113 : decode cX7_suit 113 = .ok (.iload 5, 2) := by decide +kernel
theorem dX7_suit_115 : decode cX7_suit 115 = .ok (.ireturn, 1) := by decide +kernel
theorem dX7_rumour_0 : decode cX7_rumour 0 = .ok (.iload_n 1, 1) := by decide +kernel
theorem dX7_rumour_1 : decode cX7_rumour 1 = .ok (.invokestatic 62, 3) := by decide +kernel
theorem dX7_rumour_4 : decode cX7_rumour 4 = .ok (.iload_n 2, 1) := by decide +kernel
theorem dX7_rumour_5 : decode cX7_rumour 5 = .ok (.iconst 0, 1) := by decide +kernel
theorem dX7_rumour_6 : decode cX7_rumour 6 = .ok (.bipush 100, 2) := by decide +kernel
theorem dX7_rumour_8 : decode cX7_rumour 8 = .ok (.invokestatic 67, 3) := by decide +kernel
theorem dX7_rumour_11 : decode cX7_rumour 11 = .ok (.aload_n 0, 1) := by decide +kernel
theorem dX7_rumour_12 : decode cX7_rumour 12 = .ok (.getfield 26, 3) := by decide +kernel
theorem dX7_rumour_15 : decode cX7_rumour 15 = .ok (.iload_n 1, 1) := by decide +kernel
theorem dX7_rumour_16 : decode cX7_rumour 16 = .ok (.invokevirtual 264, 3) := by decide +kernel
theorem dX7_rumour_19 : decode cX7_rumour 19 = .ok (.istore_n 3, 1) := by decide +kernel
theorem dX7_rumour_20 : decode cX7_rumour 20 = .ok (.aload_n 0, 1) := by decide +kernel
theorem dX7_rumour_21 : decode cX7_rumour 21 = .ok (.getfield 26, 3) := by decide +kernel
theorem dX7_rumour_24 : decode cX7_rumour 24 = .ok (.iload_n 1, 1) := by decide +kernel
theorem dX7_rumour_25 : decode cX7_rumour 25 = .ok (.iload_n 2, 1) := by decide +kernel
theorem dX7_rumour_26 : decode cX7_rumour 26 = .ok (.invokevirtual 267, 3) := by decide +kernel
theorem dX7_rumour_29 : decode cX7_rumour 29 = .ok (.iload_n 3, 1) := by decide +kernel
theorem dX7_rumour_30 : decode cX7_rumour 30 = .ok (.ireturn, 1) := by decide +kernel
theorem dX7_day_0 : decode cX7_day 0 = .ok (.aload_n 0, 1) := by decide +kernel
theorem dX7_day_1 : decode cX7_day 1 = .ok (.getfield 43, 3) := by decide +kernel
theorem dX7_day_4 : decode cX7_day 4 = .ok (.ireturn, 1) := by decide +kernel
theorem dX7_holds_0 : decode cX7_holds 0 = .ok (.iload_n 1, 1) := by decide +kernel
theorem dX7_holds_1 : decode cX7_holds 1 = .ok (.invokestatic 62, 3) := by decide +kernel
theorem dX7_holds_4 : decode cX7_holds 4 = .ok (.aload_n 0, 1) := by decide +kernel
theorem dX7_holds_5 : decode cX7_holds 5 = .ok (.iload_n 1, 1) := by decide +kernel
theorem dX7_holds_6 : decode cX7_holds 6 = .ok (.invokevirtual 135, 3) := by decide +kernel
theorem dX7_holds_9 : decode cX7_holds 9 = .ok (.ireturn, 1) := by decide +kernel
theorem dX7_ofClaim_0 : decode cX7_ofClaim 0 = .ok (.aload_n 0, 1) := by decide +kernel
theorem dX7_ofClaim_1 : decode cX7_ofClaim 1 = .ok (.iload_n 1, 1) := by decide +kernel
theorem dX7_ofClaim_2 : decode cX7_ofClaim 2 = .ok (.invokevirtual 157, 3) := by decide +kernel
theorem dX7_ofClaim_5 : decode cX7_ofClaim 5 = .ok (.astore_n 3, 1) := by decide +kernel
theorem dX7_ofClaim_6 : decode cX7_ofClaim 6 = .ok (.iload_n 2, 1) := by decide +kernel
theorem dX7_ofClaim_7 : decode cX7_ofClaim 7 = .ok (.iconst 0, 1) := by decide +kernel
theorem dX7_ofClaim_8 : decode cX7_ofClaim 8 = .ok (.iconst 5, 1) := by decide +kernel
theorem dX7_ofClaim_9 : decode cX7_ofClaim 9 = .ok (.invokestatic 67, 3) := by decide +kernel
theorem dX7_ofClaim_12 : decode cX7_ofClaim 12 = .ok (.iload_n 2, 1) := by decide +kernel
theorem dX7_ofClaim_13 : decode cX7_ofClaim 13 = .ok (.tableswitch 68 0 4 #[35, 40, 45, 50, 63], 35) := by decide +kernel
theorem dX7_ofClaim_48 : decode cX7_ofClaim 48 = .ok (.aload_n 3, 1) := by decide +kernel
theorem dX7_ofClaim_49 : decode cX7_ofClaim 49 = .ok (.getfield 223, 3) := by decide +kernel
theorem dX7_ofClaim_52 : decode cX7_ofClaim 52 = .ok (.ireturn, 1) := by decide +kernel
theorem dX7_ofClaim_53 : decode cX7_ofClaim 53 = .ok (.aload_n 3, 1) := by decide +kernel
theorem dX7_ofClaim_54 : decode cX7_ofClaim 54 = .ok (.getfield 229, 3) := by decide +kernel
theorem dX7_ofClaim_57 : decode cX7_ofClaim 57 = .ok (.ireturn, 1) := by decide +kernel
theorem dX7_ofClaim_58 : decode cX7_ofClaim 58 = .ok (.aload_n 3, 1) := by decide +kernel
theorem dX7_ofClaim_59 : decode cX7_ofClaim 59 = .ok (.getfield 232, 3) := by decide +kernel
theorem dX7_ofClaim_62 : decode cX7_ofClaim 62 = .ok (.ireturn, 1) := by decide +kernel
theorem dX7_ofClaim_63 : decode cX7_ofClaim 63 = .ok (.aload_n 3, 1) := by decide +kernel
theorem dX7_ofClaim_64 : decode cX7_ofClaim 64 = .ok (.getfield 226, 3) := by decide +kernel
theorem dX7_ofClaim_67 : decode cX7_ofClaim 67 = .ok (.ifCond .eq 7, 3) := by decide +kernel
theorem dX7_ofClaim_70 : decode cX7_ofClaim 70 = .ok (.iconst 1, 1) := by decide +kernel
theorem dX7_ofClaim_71 : decode cX7_ofClaim 71 = .ok (.goto 4, 3) := by decide +kernel
theorem dX7_ofClaim_74 : decode cX7_ofClaim 74 = .ok (.iconst 0, 1) := by decide +kernel
theorem dX7_ofClaim_75 : decode cX7_ofClaim 75 = .ok (.ireturn, 1) := by decide +kernel
theorem dX7_ofClaim_76 : decode cX7_ofClaim 76 = .ok (.aload_n 3, 1) := by decide +kernel
theorem dX7_ofClaim_77 : decode cX7_ofClaim 77 = .ok (.getfield 161, 3) := by decide +kernel
theorem dX7_ofClaim_80 : decode cX7_ofClaim 80 = .ok (.ireturn, 1) := by decide +kernel
theorem dX7_ofClaim_81 : decode cX7_ofClaim 81 = .ok (.aload_n 3, 1) := by decide +kernel
theorem dX7_ofClaim_82 : decode cX7_ofClaim 82 = .ok (.getfield 270, 3) := by decide +kernel
theorem dX7_ofClaim_85 : decode cX7_ofClaim 85 = .ok (.ireturn, 1) := by decide +kernel
theorem dX7_ofMiner_0 : decode cX7_ofMiner 0 = .ok (.aload_n 0, 1) := by decide +kernel
theorem dX7_ofMiner_1 : decode cX7_ofMiner 1 = .ok (.iload_n 1, 1) := by decide +kernel
theorem dX7_ofMiner_2 : decode cX7_ofMiner 2 = .ok (.invokevirtual 108, 3) := by decide +kernel
theorem dX7_ofMiner_5 : decode cX7_ofMiner 5 = .ok (.astore_n 3, 1) := by decide +kernel
theorem dX7_ofMiner_6 : decode cX7_ofMiner 6 = .ok (.iload_n 2, 1) := by decide +kernel
theorem dX7_ofMiner_7 : decode cX7_ofMiner 7 = .ok (.iconst 0, 1) := by decide +kernel
theorem dX7_ofMiner_8 : decode cX7_ofMiner 8 = .ok (.bipush 7, 2) := by decide +kernel
theorem dX7_ofMiner_10 : decode cX7_ofMiner 10 = .ok (.invokestatic 67, 3) := by decide +kernel
theorem dX7_ofMiner_13 : decode cX7_ofMiner 13 = .ok (.iload_n 2, 1) := by decide +kernel
theorem dX7_ofMiner_14 : decode cX7_ofMiner 14 = .ok (.tableswitch 78 0 6 #[42, 47, 52, 57, 62, 67, 73], 42) := by decide +kernel
theorem dX7_ofMiner_56 : decode cX7_ofMiner 56 = .ok (.aload_n 3, 1) := by decide +kernel
theorem dX7_ofMiner_57 : decode cX7_ofMiner 57 = .ok (.getfield 166, 3) := by decide +kernel
theorem dX7_ofMiner_60 : decode cX7_ofMiner 60 = .ok (.ireturn, 1) := by decide +kernel
theorem dX7_ofMiner_61 : decode cX7_ofMiner 61 = .ok (.aload_n 3, 1) := by decide +kernel
theorem dX7_ofMiner_62 : decode cX7_ofMiner 62 = .ok (.getfield 178, 3) := by decide +kernel
theorem dX7_ofMiner_65 : decode cX7_ofMiner 65 = .ok (.ireturn, 1) := by decide +kernel
theorem dX7_ofMiner_66 : decode cX7_ofMiner 66 = .ok (.aload_n 3, 1) := by decide +kernel
theorem dX7_ofMiner_67 : decode cX7_ofMiner 67 = .ok (.getfield 209, 3) := by decide +kernel
theorem dX7_ofMiner_70 : decode cX7_ofMiner 70 = .ok (.ireturn, 1) := by decide +kernel
theorem dX7_ofMiner_71 : decode cX7_ofMiner 71 = .ok (.aload_n 3, 1) := by decide +kernel
theorem dX7_ofMiner_72 : decode cX7_ofMiner 72 = .ok (.getfield 194, 3) := by decide +kernel
theorem dX7_ofMiner_75 : decode cX7_ofMiner 75 = .ok (.ireturn, 1) := by decide +kernel
theorem dX7_ofMiner_76 : decode cX7_ofMiner 76 = .ok (.aload_n 3, 1) := by decide +kernel
theorem dX7_ofMiner_77 : decode cX7_ofMiner 77 = .ok (.getfield 273, 3) := by decide +kernel
theorem dX7_ofMiner_80 : decode cX7_ofMiner 80 = .ok (.ireturn, 1) := by decide +kernel
theorem dX7_ofMiner_81 : decode cX7_ofMiner 81 = .ok (.aload_n 0, 1) := by decide +kernel
theorem dX7_ofMiner_82 : decode cX7_ofMiner 82 = .ok (.iload_n 1, 1) := by decide +kernel
theorem dX7_ofMiner_83 : decode cX7_ofMiner 83 = .ok (.invokevirtual 145, 3) := by decide +kernel
theorem dX7_ofMiner_86 : decode cX7_ofMiner 86 = .ok (.ireturn, 1) := by decide +kernel
theorem dX7_ofMiner_87 : decode cX7_ofMiner 87 = .ok (.aload_n 3, 1) := by decide +kernel
theorem dX7_ofMiner_88 : decode cX7_ofMiner 88 = .ok (.getfield 188, 3) := by decide +kernel
theorem dX7_ofMiner_91 : decode cX7_ofMiner 91 = .ok (.ireturn, 1) := by decide +kernel
theorem dX7_ofMiner_92 : decode cX7_ofMiner 92 = .ok (.aload_n 3, 1) := by decide +kernel
theorem dX7_ofMiner_93 : decode cX7_ofMiner 93 = .ok (.invokevirtual 213, 3) := by decide +kernel
theorem dX7_ofMiner_96 : decode cX7_ofMiner 96 = .ok (.ireturn, 1) := by decide +kernel
theorem dX7_gets_0 : decode cX7_gets 0 = .ok (.iload_n 1, 1) := by decide +kernel
theorem dX7_gets_1 : decode cX7_gets 1 = .ok (.ifCond .lt 18, 3) := by decide +kernel
theorem dX7_gets_4 : decode cX7_gets 4 = .ok (.iload_n 1, 1) := by decide +kernel
theorem dX7_gets_5 : decode cX7_gets 5 = .ok (.aload_n 0, 1) := by decide +kernel
theorem dX7_gets_6 : decode cX7_gets 6 = .ok (.getfield 40, 3) := by decide +kernel
theorem dX7_gets_9 : decode cX7_gets 9 = .ok (.invokevirtual 86, 3) := by decide +kernel
theorem dX7_gets_12 : decode cX7_gets 12 = .ok (.if_icmp .ge 7, 3) := by decide +kernel
theorem dX7_gets_15 : decode cX7_gets 15 = .ok (.iconst 1, 1) := by decide +kernel
theorem dX7_gets_16 : decode cX7_gets 16 = .ok (.goto 4, 3) := by decide +kernel
theorem dX7_gets_19 : decode cX7_gets 19 = .ok (.iconst 0, 1) := by decide +kernel
theorem dX7_gets_20 : decode cX7_gets 20 = .ok (.invokestatic 112, 3) := by decide +kernel
theorem dX7_gets_23 : decode cX7_gets 23 = .ok (.aload_n 0, 1) := by decide +kernel
theorem dX7_gets_24 : decode cX7_gets 24 = .ok (.iload_n 1, 1) := by decide +kernel
theorem dX7_gets_25 : decode cX7_gets 25 = .ok (.invokevirtual 276, 3) := by decide +kernel
theorem dX7_gets_28 : decode cX7_gets 28 = .ok (.ireturn, 1) := by decide +kernel
theorem dX7_gold_0 : decode cX7_gold 0 = .ok (.iload_n 1, 1) := by decide +kernel
theorem dX7_gold_1 : decode cX7_gold 1 = .ok (.iconst 0, 1) := by decide +kernel
theorem dX7_gold_2 : decode cX7_gold 2 = .ok (.iconst 4, 1) := by decide +kernel
theorem dX7_gold_3 : decode cX7_gold 3 = .ok (.invokestatic 67, 3) := by decide +kernel
theorem dX7_gold_6 : decode cX7_gold 6 = .ok (.iload_n 1, 1) := by decide +kernel
theorem dX7_gold_7 : decode cX7_gold 7 = .ok (.tableswitch 55 0 3 #[29, 37, 45, 50], 29) := by decide +kernel
theorem dX7_gold_36 : decode cX7_gold 36 = .ok (.aload_n 0, 1) := by decide +kernel
theorem dX7_gold_37 : decode cX7_gold 37 = .ok (.getfield 10, 3) := by decide +kernel
theorem dX7_gold_40 : decode cX7_gold 40 = .ok (.invokevirtual 279, 3) := by decide +kernel
theorem dX7_gold_43 : decode cX7_gold 43 = .ok (.ireturn, 1) := by decide +kernel
theorem dX7_gold_44 : decode cX7_gold 44 = .ok (.aload_n 0, 1) := by decide +kernel
theorem dX7_gold_45 : decode cX7_gold 45 = .ok (.getfield 10, 3) := by decide +kernel
theorem dX7_gold_48 : decode cX7_gold 48 = .ok (.getfield 282, 3) := by decide +kernel
theorem dX7_gold_51 : decode cX7_gold 51 = .ok (.ireturn, 1) := by decide +kernel
theorem dX7_gold_52 : decode cX7_gold 52 = .ok (.aload_n 0, 1) := by decide +kernel
theorem dX7_gold_53 : decode cX7_gold 53 = .ok (.invokevirtual 285, 3) := by decide +kernel
theorem dX7_gold_56 : decode cX7_gold 56 = .ok (.ireturn, 1) := by decide +kernel
theorem dX7_gold_57 : decode cX7_gold 57 = .ok (.aload_n 0, 1) := by decide +kernel
theorem dX7_gold_58 : decode cX7_gold 58 = .ok (.getfield 59, 3) := by decide +kernel
theorem dX7_gold_61 : decode cX7_gold 61 = .ok (.ireturn, 1) := by decide +kernel
theorem dX7_gold_62 : decode cX7_gold 62 = .ok (.aload_n 0, 1) := by decide +kernel
theorem dX7_gold_63 : decode cX7_gold 63 = .ok (.getfield 10, 3) := by decide +kernel
theorem dX7_gold_66 : decode cX7_gold 66 = .ok (.invokevirtual 279, 3) := by decide +kernel
theorem dX7_gold_69 : decode cX7_gold 69 = .ok (.aload_n 0, 1) := by decide +kernel
theorem dX7_gold_70 : decode cX7_gold 70 = .ok (.getfield 10, 3) := by decide +kernel
theorem dX7_gold_73 : decode cX7_gold 73 = .ok (.getfield 282, 3) := by decide +kernel
theorem dX7_gold_76 : decode cX7_gold 76 = .ok (.iadd, 1) := by decide +kernel
theorem dX7_gold_77 : decode cX7_gold 77 = .ok (.aload_n 0, 1) := by decide +kernel
theorem dX7_gold_78 : decode cX7_gold 78 = .ok (.invokevirtual 285, 3) := by decide +kernel
theorem dX7_gold_81 : decode cX7_gold 81 = .ok (.iadd, 1) := by decide +kernel
theorem dX7_gold_82 : decode cX7_gold 82 = .ok (.aload_n 0, 1) := by decide +kernel
theorem dX7_gold_83 : decode cX7_gold 83 = .ok (.getfield 59, 3) := by decide +kernel
theorem dX7_gold_86 : decode cX7_gold 86 = .ok (.iadd, 1) := by decide +kernel
theorem dX7_gold_87 : decode cX7_gold 87 = .ok (.ireturn, 1) := by decide +kernel
theorem dX7_camp_0 : decode cX7_camp 0 = .ok (.iload_n 1, 1) := by decide +kernel
theorem dX7_camp_1 : decode cX7_camp 1 = .ok (.iconst 0, 1) := by decide +kernel
theorem dX7_camp_2 : decode cX7_camp 2 = .ok (.iconst 5, 1) := by decide +kernel
theorem dX7_camp_3 : decode cX7_camp 3 = .ok (.invokestatic 67, 3) := by decide +kernel
theorem dX7_camp_6 : decode cX7_camp 6 = .ok (.iload_n 1, 1) := by decide +kernel
theorem dX7_camp_7 : decode cX7_camp 7 = .ok (.tableswitch 67 0 4 #[33, 38, 43, 51, 59], 33) := by decide +kernel
theorem dX7_camp_40 : decode cX7_camp 40 = .ok (.aload_n 0, 1) := by decide +kernel
theorem dX7_camp_41 : decode cX7_camp 41 = .ok (.getfield 50, 3) := by decide +kernel
theorem dX7_camp_44 : decode cX7_camp 44 = .ok (.ireturn, 1) := by decide +kernel
theorem dX7_camp_45 : decode cX7_camp 45 = .ok (.aload_n 0, 1) := by decide +kernel
theorem dX7_camp_46 : decode cX7_camp 46 = .ok (.getfield 53, 3) := by decide +kernel
theorem dX7_camp_49 : decode cX7_camp 49 = .ok (.ireturn, 1) := by decide +kernel
theorem dX7_camp_50 : decode cX7_camp 50 = .ok (.aload_n 0, 1) := by decide +kernel
theorem dX7_camp_51 : decode cX7_camp 51 = .ok (.getfield 19, 3) := by decide +kernel
theorem dX7_camp_54 : decode cX7_camp 54 = .ok (.getfield 206, 3) := by decide +kernel
theorem dX7_camp_57 : decode cX7_camp 57 = .ok (.ireturn, 1) := by decide +kernel
theorem dX7_camp_58 : decode cX7_camp 58 = .ok (.aload_n 0, 1) := by decide +kernel
theorem dX7_camp_59 : decode cX7_camp 59 = .ok (.getfield 19, 3) := by decide +kernel
theorem dX7_camp_62 : decode cX7_camp 62 = .ok (.invokevirtual 203, 3) := by decide +kernel
theorem dX7_camp_65 : decode cX7_camp 65 = .ok (.ireturn, 1) := by decide +kernel
theorem dX7_camp_66 : decode cX7_camp 66 = .ok (.aload_n 0, 1) := by decide +kernel
theorem dX7_camp_67 : decode cX7_camp 67 = .ok (.getfield 19, 3) := by decide +kernel
theorem dX7_camp_70 : decode cX7_camp 70 = .ok (.invokevirtual 197, 3) := by decide +kernel
theorem dX7_camp_73 : decode cX7_camp 73 = .ok (.ireturn, 1) := by decide +kernel
theorem dX7_camp_74 : decode cX7_camp 74 = .ok (.aload_n 0, 1) := by decide +kernel
theorem dX7_camp_75 : decode cX7_camp 75 = .ok (.invokevirtual 102, 3) := by decide +kernel
theorem dX7_camp_78 : decode cX7_camp 78 = .ok (.ireturn, 1) := by decide +kernel
theorem dX7_belief_0 : decode cX7_belief 0 = .ok (.iload_n 1, 1) := by decide +kernel
theorem dX7_belief_1 : decode cX7_belief 1 = .ok (.invokestatic 62, 3) := by decide +kernel
theorem dX7_belief_4 : decode cX7_belief 4 = .ok (.aload_n 0, 1) := by decide +kernel
theorem dX7_belief_5 : decode cX7_belief 5 = .ok (.getfield 26, 3) := by decide +kernel
theorem dX7_belief_8 : decode cX7_belief 8 = .ok (.iload_n 1, 1) := by decide +kernel
theorem dX7_belief_9 : decode cX7_belief 9 = .ok (.invokevirtual 264, 3) := by decide +kernel
theorem dX7_belief_12 : decode cX7_belief 12 = .ok (.ireturn, 1) := by decide +kernel
theorem dX7_plan_0 : decode cX7_plan 0 = .ok (.aload_n 0, 1) := by decide +kernel
theorem dX7_plan_1 : decode cX7_plan 1 = .ok (.iload_n 1, 1) := by decide +kernel
theorem dX7_plan_2 : decode cX7_plan 2 = .ok (.invokevirtual 157, 3) := by decide +kernel
theorem dX7_plan_5 : decode cX7_plan 5 = .ok (.astore_n 3, 1) := by decide +kernel
theorem dX7_plan_6 : decode cX7_plan 6 = .ok (.iload_n 2, 1) := by decide +kernel
theorem dX7_plan_7 : decode cX7_plan 7 = .ok (.invokestatic 131, 3) := by decide +kernel
theorem dX7_plan_10 : decode cX7_plan 10 = .ok (.astore 4, 2) := by decide +kernel
theorem dX7_plan_12 : decode cX7_plan 12 = .ok (.aload_n 3, 1) := by decide +kernel
theorem dX7_plan_13 : decode cX7_plan 13 = .ok (.getfield 232, 3) := by decide +kernel
theorem dX7_plan_16 : decode cX7_plan 16 = .ok (.iconst 5, 1) := by decide +kernel
theorem dX7_plan_17 : decode cX7_plan 17 = .ok (.if_icmp .gt 7, 3) := by decide +kernel
theorem dX7_plan_20 : decode cX7_plan 20 = .ok (.iconst 1, 1) := by decide +kernel
theorem dX7_plan_21 : decode cX7_plan 21 = .ok (.goto 4, 3) := by decide +kernel
theorem dX7_plan_24 : decode cX7_plan 24 = .ok (.iconst 0, 1) := by decide +kernel
theorem dX7_plan_25 : decode cX7_plan 25 = .ok (.invokestatic 75, 3) := by decide +kernel
theorem dX7_plan_28 : decode cX7_plan 28 = .ok (.aload_n 0, 1) := by decide +kernel
theorem dX7_plan_29 : decode cX7_plan 29 = .ok (.getfield 10, 3) := by decide +kernel
theorem dX7_plan_32 : decode cX7_plan 32 = .ok (.aload_n 3, 1) := by decide +kernel
theorem dX7_plan_33 : decode cX7_plan 33 = .ok (.getfield 229, 3) := by decide +kernel
theorem dX7_plan_36 : decode cX7_plan 36 = .ok (.aload_n 3, 1) := by decide +kernel
theorem dX7_plan_37 : decode cX7_plan 37 = .ok (.getfield 232, 3) := by decide +kernel
theorem dX7_plan_40 : decode cX7_plan 40 = .ok (.aload 4, 2) := by decide +kernel
theorem dX7_plan_42 : decode cX7_plan 42 = .ok (.invokevirtual 288, 3) := by decide +kernel
theorem dX7_plan_45 : decode cX7_plan 45 = .ok (.ireturn, 1) := by decide +kernel
theorem dX7_planCell_0 : decode cX7_planCell 0 = .ok (.aload_n 0, 1) := by decide +kernel
theorem dX7_planCell_1 : decode cX7_planCell 1 = .ok (.iload_n 1, 1) := by decide +kernel
theorem dX7_planCell_2 : decode cX7_planCell 2 = .ok (.invokevirtual 157, 3) := by decide +kernel
theorem dX7_planCell_5 : decode cX7_planCell 5 = .ok (.astore 4, 2) := by decide +kernel
theorem dX7_planCell_7 : decode cX7_planCell 7 = .ok (.iload_n 3, 1) := by decide +kernel
theorem dX7_planCell_8 : decode cX7_planCell 8 = .ok (.ifCond .lt 7, 3) := by decide +kernel
theorem dX7_planCell_11 : decode cX7_planCell 11 = .ok (.iconst 1, 1) := by decide +kernel
theorem dX7_planCell_12 : decode cX7_planCell 12 = .ok (.goto 4, 3) := by decide +kernel
theorem dX7_planCell_15 : decode cX7_planCell 15 = .ok (.iconst 0, 1) := by decide +kernel
theorem dX7_planCell_16 : decode cX7_planCell 16 = .ok (.invokestatic 112, 3) := by decide +kernel
theorem dX7_planCell_19 : decode cX7_planCell 19 = .ok (.iload_n 2, 1) := by decide +kernel
theorem dX7_planCell_20 : decode cX7_planCell 20 = .ok (.iconst 0, 1) := by decide +kernel
theorem dX7_planCell_21 : decode cX7_planCell 21 = .ok (.iconst 3, 1) := by decide +kernel
theorem dX7_planCell_22 : decode cX7_planCell 22 = .ok (.invokestatic 67, 3) := by decide +kernel
theorem dX7_planCell_25 : decode cX7_planCell 25 = .ok (.aload 4, 2) := by decide +kernel
theorem dX7_planCell_27 : decode cX7_planCell 27 = .ok (.getfield 232, 3) := by decide +kernel
theorem dX7_planCell_30 : decode cX7_planCell 30 = .ok (.iconst 5, 1) := by decide +kernel
theorem dX7_planCell_31 : decode cX7_planCell 31 = .ok (.if_icmp .gt 7, 3) := by decide +kernel
theorem dX7_planCell_34 : decode cX7_planCell 34 = .ok (.iconst 1, 1) := by decide +kernel
theorem dX7_planCell_35 : decode cX7_planCell 35 = .ok (.goto 4, 3) := by decide +kernel
theorem dX7_planCell_38 : decode cX7_planCell 38 = .ok (.iconst 0, 1) := by decide +kernel
theorem dX7_planCell_39 : decode cX7_planCell 39 = .ok (.invokestatic 75, 3) := by decide +kernel
theorem dX7_planCell_42 : decode cX7_planCell 42 = .ok (.iload_n 3, 1) := by decide +kernel
theorem dX7_planCell_43 : decode cX7_planCell 43 = .ok (.aload 4, 2) := by decide +kernel
theorem dX7_planCell_45 : decode cX7_planCell 45 = .ok (.getfield 232, 3) := by decide +kernel
theorem dX7_planCell_48 : decode cX7_planCell 48 = .ok (.if_icmp .ge 13, 3) := by decide +kernel
theorem dX7_planCell_51 : decode cX7_planCell 51 = .ok (.aload 4, 2) := by decide +kernel
theorem dX7_planCell_53 : decode cX7_planCell 53 = .ok (.getfield 229, 3) := by decide +kernel
theorem dX7_planCell_56 : decode cX7_planCell 56 = .ok (.iload_n 3, 1) := by decide +kernel
theorem dX7_planCell_57 : decode cX7_planCell 57 = .ok (.iadd, 1) := by decide +kernel
theorem dX7_planCell_58 : decode cX7_planCell 58 = .ok (.goto 4, 3) := by decide +kernel
theorem dX7_planCell_61 : decode cX7_planCell 61 = .ok (.iconst (-1), 1) := by decide +kernel
theorem dX7_planCell_62 : decode cX7_planCell 62 = .ok (.ireturn, 1) := by decide +kernel
theorem dX7_checkIndex_0 : decode cX7_checkIndex 0 = .ok (.iload_n 0, 1) := by decide +kernel
theorem dX7_checkIndex_1 : decode cX7_checkIndex 1 = .ok (.ifCond .ne 14, 3) := by decide +kernel
theorem dX7_checkIndex_4 : decode cX7_checkIndex 4 = .ok (.new 292, 3) := by decide +kernel
theorem dX7_checkIndex_7 : decode cX7_checkIndex 7 = .ok (.dup, 1) := by decide +kernel
theorem dX7_checkIndex_8 : decode cX7_checkIndex 8 = .ok (.ldc_w 294, 3) := by decide +kernel
theorem dX7_checkIndex_11 : decode cX7_checkIndex 11 = .ok (.invokespecial 296, 3) := by decide +kernel
theorem dX7_checkIndex_14 : decode cX7_checkIndex 14 = .ok (.athrow, 1) := by decide +kernel
theorem dX7_checkIndex_15 : decode cX7_checkIndex 15 = .ok (.return_, 1) := by decide +kernel
theorem dX7_checkArgument_0 : decode cX7_checkArgument 0 = .ok (.iload_n 0, 1) := by decide +kernel
theorem dX7_checkArgument_1 : decode cX7_checkArgument 1 = .ok (.ifCond .ne 14, 3) := by decide +kernel
theorem dX7_checkArgument_4 : decode cX7_checkArgument 4 = .ok (.new 299, 3) := by decide +kernel
theorem dX7_checkArgument_7 : decode cX7_checkArgument 7 = .ok (.dup, 1) := by decide +kernel
theorem dX7_checkArgument_8 : decode cX7_checkArgument 8 = .ok (.ldc_w 301, 3) := by decide +kernel
theorem dX7_checkArgument_11 : decode cX7_checkArgument 11 = .ok (.invokespecial 303, 3) := by decide +kernel
theorem dX7_checkArgument_14 : decode cX7_checkArgument 14 = .ok (.athrow, 1) := by decide +kernel
theorem dX7_checkArgument_15 : decode cX7_checkArgument 15 = .ok (.return_, 1) := by decide +kernel
theorem dX7_checkState_0 : decode cX7_checkState 0 = .ok (.iload_n 0, 1) := by decide +kernel
theorem dX7_checkState_1 : decode cX7_checkState 1 = .ok (.ifCond .ne 14, 3) := by decide +kernel
theorem dX7_checkState_4 : decode cX7_checkState 4 = .ok (.new 304, 3) := by decide +kernel
theorem dX7_checkState_7 : decode cX7_checkState 7 = .ok (.dup, 1) := by decide +kernel
theorem dX7_checkState_8 : decode cX7_checkState 8 = .ok (.ldc_w 306, 3) := by decide +kernel
theorem dX7_checkState_11 : decode cX7_checkState 11 = .ok (.invokespecial 308, 3) := by decide +kernel
theorem dX7_checkState_14 : decode cX7_checkState 14 = .ok (.athrow, 1) := by decide +kernel
theorem dX7_checkState_15 : decode cX7_checkState 15 = .ok (.return_, 1) := by decide +kernel
theorem dX7_checkRange_0 : decode cX7_checkRange 0 = .ok (.iload_n 0, 1) := by decide +kernel
theorem dX7_checkRange_1 : decode cX7_checkRange 1 = .ok (.iload_n 1, 1) := by decide +kernel
theorem dX7_checkRange_2 : decode cX7_checkRange 2 = .ok (.if_icmp .lt 12, 3) := by decide +kernel
theorem dX7_checkRange_5 : decode cX7_checkRange 5 = .ok (.iload_n 0, 1) := by decide +kernel
theorem dX7_checkRange_6 : decode cX7_checkRange 6 = .ok (.iload_n 2, 1) := by decide +kernel
theorem dX7_checkRange_7 : decode cX7_checkRange 7 = .ok (.if_icmp .gt 7, 3) := by decide +kernel
theorem dX7_checkRange_10 : decode cX7_checkRange 10 = .ok (.iconst 1, 1) := by decide +kernel
theorem dX7_checkRange_11 : decode cX7_checkRange 11 = .ok (.goto 4, 3) := by decide +kernel
theorem dX7_checkRange_14 : decode cX7_checkRange 14 = .ok (.iconst 0, 1) := by decide +kernel
theorem dX7_checkRange_15 : decode cX7_checkRange 15 = .ok (.invokestatic 105, 3) := by decide +kernel
theorem dX7_checkRange_18 : decode cX7_checkRange 18 = .ok (.return_, 1) := by decide +kernel
theorem dX7_checkCell_0 : decode cX7_checkCell 0 = .ok (.iload_n 0, 1) := by decide +kernel
theorem dX7_checkCell_1 : decode cX7_checkCell 1 = .ok (.invokestatic 309, 3) := by decide +kernel
theorem dX7_checkCell_4 : decode cX7_checkCell 4 = .ok (.invokestatic 112, 3) := by decide +kernel
theorem dX7_checkCell_7 : decode cX7_checkCell 7 = .ok (.return_, 1) := by decide +kernel
theorem dX7_isCell_0 : decode cX7_isCell 0 = .ok (.iload_n 0, 1) := by decide +kernel
theorem dX7_isCell_1 : decode cX7_isCell 1 = .ok (.ifCond .lt 13, 3) := by decide +kernel
theorem dX7_isCell_4 : decode cX7_isCell 4 = .ok (.iload_n 0, 1) := by decide +kernel
theorem dX7_isCell_5 : decode cX7_isCell 5 = .ok (.bipush 40, 2) := by decide +kernel
theorem dX7_isCell_7 : decode cX7_isCell 7 = .ok (.if_icmp .ge 7, 3) := by decide +kernel
theorem dX7_isCell_10 : decode cX7_isCell 10 = .ok (.iconst 1, 1) := by decide +kernel
theorem dX7_isCell_11 : decode cX7_isCell 11 = .ok (.goto 4, 3) := by decide +kernel
theorem dX7_isCell_14 : decode cX7_isCell 14 = .ok (.iconst 0, 1) := by decide +kernel
theorem dX7_isCell_15 : decode cX7_isCell 15 = .ok (.ireturn, 1) := by decide +kernel
theorem dX7_isMiner_0 : decode cX7_isMiner 0 = .ok (.iload_n 1, 1) := by decide +kernel
theorem dX7_isMiner_1 : decode cX7_isMiner 1 = .ok (.ifCond .lt 18, 3) := by decide +kernel
theorem dX7_isMiner_4 : decode cX7_isMiner 4 = .ok (.iload_n 1, 1) := by decide +kernel
theorem dX7_isMiner_5 : decode cX7_isMiner 5 = .ok (.aload_n 0, 1) := by decide +kernel
theorem dX7_isMiner_6 : decode cX7_isMiner 6 = .ok (.getfield 33, 3) := by decide +kernel
theorem dX7_isMiner_9 : decode cX7_isMiner 9 = .ok (.invokevirtual 86, 3) := by decide +kernel
theorem dX7_isMiner_12 : decode cX7_isMiner 12 = .ok (.if_icmp .ge 7, 3) := by decide +kernel
theorem dX7_isMiner_15 : decode cX7_isMiner 15 = .ok (.iconst 1, 1) := by decide +kernel
theorem dX7_isMiner_16 : decode cX7_isMiner 16 = .ok (.goto 4, 3) := by decide +kernel
theorem dX7_isMiner_19 : decode cX7_isMiner 19 = .ok (.iconst 0, 1) := by decide +kernel
theorem dX7_isMiner_20 : decode cX7_isMiner 20 = .ok (.ireturn, 1) := by decide +kernel
theorem dX7_minerAt_0 : decode cX7_minerAt 0 = .ok (.aload_n 0, 1) := by decide +kernel
theorem dX7_minerAt_1 : decode cX7_minerAt 1 = .ok (.iload_n 1, 1) := by decide +kernel
theorem dX7_minerAt_2 : decode cX7_minerAt 2 = .ok (.invokevirtual 219, 3) := by decide +kernel
theorem dX7_minerAt_5 : decode cX7_minerAt 5 = .ok (.ifCond .ne 14, 3) := by decide +kernel
theorem dX7_minerAt_8 : decode cX7_minerAt 8 = .ok (.new 292, 3) := by decide +kernel
theorem dX7_minerAt_11 : decode cX7_minerAt 11 = .ok (.dup, 1) := by decide +kernel
theorem dX7_minerAt_12 : decode cX7_minerAt 12 = .ok (.ldc_w 312, 3) := by decide +kernel
theorem dX7_minerAt_15 : decode cX7_minerAt 15 = .ok (.invokespecial 296, 3) := by decide +kernel
theorem dX7_minerAt_18 : decode cX7_minerAt 18 = .ok (.athrow, 1) := by decide +kernel
theorem dX7_minerAt_19 : decode cX7_minerAt 19 = .ok (.aload_n 0, 1) := by decide +kernel
theorem dX7_minerAt_20 : decode cX7_minerAt 20 = .ok (.getfield 33, 3) := by decide +kernel
theorem dX7_minerAt_23 : decode cX7_minerAt 23 = .ok (.iload_n 1, 1) := by decide +kernel
theorem dX7_minerAt_24 : decode cX7_minerAt 24 = .ok (.invokevirtual 314, 3) := by decide +kernel
theorem dX7_minerAt_27 : decode cX7_minerAt 27 = .ok (.checkcast 90, 3) := by decide +kernel
theorem dX7_minerAt_30 : decode cX7_minerAt 30 = .ok (.areturn, 1) := by decide +kernel
theorem dX7_claimAt_0 : decode cX7_claimAt 0 = .ok (.iload_n 1, 1) := by decide +kernel
theorem dX7_claimAt_1 : decode cX7_claimAt 1 = .ok (.ifCond .lt 14, 3) := by decide +kernel
theorem dX7_claimAt_4 : decode cX7_claimAt 4 = .ok (.iload_n 1, 1) := by decide +kernel
theorem dX7_claimAt_5 : decode cX7_claimAt 5 = .ok (.aload_n 0, 1) := by decide +kernel
theorem dX7_claimAt_6 : decode cX7_claimAt 6 = .ok (.getfield 37, 3) := by decide +kernel
theorem dX7_claimAt_9 : decode cX7_claimAt 9 = .ok (.invokevirtual 86, 3) := by decide +kernel
theorem dX7_claimAt_12 : decode cX7_claimAt 12 = .ok (.if_icmp .lt 14, 3) := by decide +kernel
theorem dX7_claimAt_15 : decode cX7_claimAt 15 = .ok (.new 292, 3) := by decide +kernel
theorem dX7_claimAt_18 : decode cX7_claimAt 18 = .ok (.dup, 1) := by decide +kernel
theorem dX7_claimAt_19 : decode cX7_claimAt 19 = .ok (.ldc_w 318, 3) := by decide +kernel
theorem dX7_claimAt_22 : decode cX7_claimAt 22 = .ok (.invokespecial 296, 3) := by decide +kernel
theorem dX7_claimAt_25 : decode cX7_claimAt 25 = .ok (.athrow, 1) := by decide +kernel
theorem dX7_claimAt_26 : decode cX7_claimAt 26 = .ok (.aload_n 0, 1) := by decide +kernel
theorem dX7_claimAt_27 : decode cX7_claimAt 27 = .ok (.getfield 37, 3) := by decide +kernel
theorem dX7_claimAt_30 : decode cX7_claimAt 30 = .ok (.iload_n 1, 1) := by decide +kernel
theorem dX7_claimAt_31 : decode cX7_claimAt 31 = .ok (.invokevirtual 314, 3) := by decide +kernel
theorem dX7_claimAt_34 : decode cX7_claimAt 34 = .ok (.checkcast 123, 3) := by decide +kernel
theorem dX7_claimAt_37 : decode cX7_claimAt 37 = .ok (.areturn, 1) := by decide +kernel
theorem dX7_gearAt_0 : decode cX7_gearAt 0 = .ok (.iload_n 0, 1) := by decide +kernel
theorem dX7_gearAt_1 : decode cX7_gearAt 1 = .ok (.ifCond .lt 11, 3) := by decide +kernel
theorem dX7_gearAt_4 : decode cX7_gearAt 4 = .ok (.iload_n 0, 1) := by decide +kernel
theorem dX7_gearAt_5 : decode cX7_gearAt 5 = .ok (.getstatic 320, 3) := by decide +kernel
theorem dX7_gearAt_8 : decode cX7_gearAt 8 = .ok (.arraylength, 1) := by decide +kernel
theorem dX7_gearAt_9 : decode cX7_gearAt 9 = .ok (.if_icmp .lt 14, 3) := by decide +kernel
theorem dX7_gearAt_12 : decode cX7_gearAt 12 = .ok (.new 299, 3) := by decide +kernel
theorem dX7_gearAt_15 : decode cX7_gearAt 15 = .ok (.dup, 1) := by decide +kernel
theorem dX7_gearAt_16 : decode cX7_gearAt 16 = .ok (.ldc_w 324, 3) := by decide +kernel
theorem dX7_gearAt_19 : decode cX7_gearAt 19 = .ok (.invokespecial 303, 3) := by decide +kernel
theorem dX7_gearAt_22 : decode cX7_gearAt 22 = .ok (.athrow, 1) := by decide +kernel
theorem dX7_gearAt_23 : decode cX7_gearAt 23 = .ok (.getstatic 320, 3) := by decide +kernel
theorem dX7_gearAt_26 : decode cX7_gearAt 26 = .ok (.iload_n 0, 1) := by decide +kernel
theorem dX7_gearAt_27 : decode cX7_gearAt 27 = .ok (.aaload, 1) := by decide +kernel
theorem dX7_gearAt_28 : decode cX7_gearAt 28 = .ok (.areturn, 1) := by decide +kernel
theorem dX7_passOneDay_0 : decode cX7_passOneDay 0 = .ok (.aload_n 0, 1) := by decide +kernel
theorem dX7_passOneDay_1 : decode cX7_passOneDay 1 = .ok (.dup, 1) := by decide +kernel
theorem dX7_passOneDay_2 : decode cX7_passOneDay 2 = .ok (.getfield 43, 3) := by decide +kernel
theorem dX7_passOneDay_5 : decode cX7_passOneDay 5 = .ok (.iconst 1, 1) := by decide +kernel
theorem dX7_passOneDay_6 : decode cX7_passOneDay 6 = .ok (.iadd, 1) := by decide +kernel
theorem dX7_passOneDay_7 : decode cX7_passOneDay 7 = .ok (.putfield 43, 3) := by decide +kernel
theorem dX7_passOneDay_10 : decode cX7_passOneDay 10 = .ok (.iconst 0, 1) := by decide +kernel
theorem dX7_passOneDay_11 : decode cX7_passOneDay 11 = .ok (.istore_n 1, 1) := by decide +kernel
theorem dX7_passOneDay_12 : decode cX7_passOneDay 12 = .ok (.iload_n 1, 1) := by decide +kernel
theorem dX7_passOneDay_13 : decode cX7_passOneDay 13 = .ok (.aload_n 0, 1) := by decide +kernel
theorem dX7_passOneDay_14 : decode cX7_passOneDay 14 = .ok (.getfield 33, 3) := by decide +kernel
theorem dX7_passOneDay_17 : decode cX7_passOneDay 17 = .ok (.invokevirtual 86, 3) := by decide +kernel
theorem dX7_passOneDay_20 : decode cX7_passOneDay 20 = .ok (.if_icmp .ge 23, 3) := by decide +kernel
theorem dX7_passOneDay_23 : decode cX7_passOneDay 23 = .ok (.aload_n 0, 1) := by decide +kernel
theorem dX7_passOneDay_24 : decode cX7_passOneDay 24 = .ok (.getfield 33, 3) := by decide +kernel
theorem dX7_passOneDay_27 : decode cX7_passOneDay 27 = .ok (.iload_n 1, 1) := by decide +kernel
theorem dX7_passOneDay_28 : decode cX7_passOneDay 28 = .ok (.invokevirtual 314, 3) := by decide +kernel
theorem dX7_passOneDay_31 : decode cX7_passOneDay 31 = .ok (.checkcast 90, 3) := by decide +kernel
theorem dX7_passOneDay_34 : decode cX7_passOneDay 34 = .ok (.invokevirtual 326, 3) := by decide +kernel
theorem dX7_passOneDay_37 : decode cX7_passOneDay 37 = .ok (.iinc 1 1, 3) := by decide +kernel
theorem dX7_passOneDay_40 : decode cX7_passOneDay 40 = .ok (.goto (-28), 3) := by decide +kernel
theorem dX7_passOneDay_43 : decode cX7_passOneDay 43 = .ok (.aload_n 0, 1) := by decide +kernel
theorem dX7_passOneDay_44 : decode cX7_passOneDay 44 = .ok (.getfield 19, 3) := by decide +kernel
theorem dX7_passOneDay_47 : decode cX7_passOneDay 47 = .ok (.aload_n 0, 1) := by decide +kernel
theorem dX7_passOneDay_48 : decode cX7_passOneDay 48 = .ok (.getfield 43, 3) := by decide +kernel
theorem dX7_passOneDay_51 : decode cX7_passOneDay 51 = .ok (.invokevirtual 329, 3) := by decide +kernel
theorem dX7_passOneDay_54 : decode cX7_passOneDay 54 = .ok (.aload_n 0, 1) := by decide +kernel
theorem dX7_passOneDay_55 : decode cX7_passOneDay 55 = .ok (.getfield 26, 3) := by decide +kernel
theorem dX7_passOneDay_58 : decode cX7_passOneDay 58 = .ok (.invokevirtual 332, 3) := by decide +kernel
theorem dX7_passOneDay_61 : decode cX7_passOneDay 61 = .ok (.iconst 0, 1) := by decide +kernel
theorem dX7_passOneDay_62 : decode cX7_passOneDay 62 = .ok (.istore_n 1, 1) := by decide +kernel
theorem dX7_passOneDay_63 : decode cX7_passOneDay 63 = .ok (.iload_n 1, 1) := by decide +kernel
theorem dX7_passOneDay_64 : decode cX7_passOneDay 64 = .ok (.aload_n 0, 1) := by decide +kernel
theorem dX7_passOneDay_65 : decode cX7_passOneDay 65 = .ok (.getfield 37, 3) := by decide +kernel
theorem dX7_passOneDay_68 : decode cX7_passOneDay 68 = .ok (.invokevirtual 86, 3) := by decide +kernel
theorem dX7_passOneDay_71 : decode cX7_passOneDay 71 = .ok (.if_icmp .ge 24, 3) := by decide +kernel
theorem dX7_passOneDay_74 : decode cX7_passOneDay 74 = .ok (.aload_n 0, 1) := by decide +kernel
theorem dX7_passOneDay_75 : decode cX7_passOneDay 75 = .ok (.aload_n 0, 1) := by decide +kernel
theorem dX7_passOneDay_76 : decode cX7_passOneDay 76 = .ok (.getfield 37, 3) := by decide +kernel
theorem dX7_passOneDay_79 : decode cX7_passOneDay 79 = .ok (.iload_n 1, 1) := by decide +kernel
theorem dX7_passOneDay_80 : decode cX7_passOneDay 80 = .ok (.invokevirtual 314, 3) := by decide +kernel
theorem dX7_passOneDay_83 : decode cX7_passOneDay 83 = .ok (.checkcast 123, 3) := by decide +kernel
theorem dX7_passOneDay_86 : decode cX7_passOneDay 86 = .ok (.invokevirtual 335, 3) := by decide +kernel
theorem dX7_passOneDay_89 : decode cX7_passOneDay 89 = .ok (.iinc 1 1, 3) := by decide +kernel
theorem dX7_passOneDay_92 : decode cX7_passOneDay 92 = .ok (.goto (-29), 3) := by decide +kernel
theorem dX7_passOneDay_95 : decode cX7_passOneDay 95 = .ok (.return_, 1) := by decide +kernel
theorem dX7_lapseIfDue_0 : decode cX7_lapseIfDue 0 = .ok (.aload_n 0, 1) := by decide +kernel
theorem dX7_lapseIfDue_1 : decode cX7_lapseIfDue 1 = .ok (.aload_n 1, 1) := by decide +kernel
theorem dX7_lapseIfDue_2 : decode cX7_lapseIfDue 2 = .ok (.getfield 223, 3) := by decide +kernel
theorem dX7_lapseIfDue_5 : decode cX7_lapseIfDue 5 = .ok (.invokevirtual 339, 3) := by decide +kernel
theorem dX7_lapseIfDue_8 : decode cX7_lapseIfDue 8 = .ok (.ifCond .ne 19, 3) := by decide +kernel
theorem dX7_lapseIfDue_11 : decode cX7_lapseIfDue 11 = .ok (.aload_n 0, 1) := by decide +kernel
theorem dX7_lapseIfDue_12 : decode cX7_lapseIfDue 12 = .ok (.getfield 43, 3) := by decide +kernel
theorem dX7_lapseIfDue_15 : decode cX7_lapseIfDue 15 = .ok (.aload_n 1, 1) := by decide +kernel
theorem dX7_lapseIfDue_16 : decode cX7_lapseIfDue 16 = .ok (.getfield 161, 3) := by decide +kernel
theorem dX7_lapseIfDue_19 : decode cX7_lapseIfDue 19 = .ok (.isub, 1) := by decide +kernel
theorem dX7_lapseIfDue_20 : decode cX7_lapseIfDue 20 = .ok (.aload_n 1, 1) := by decide +kernel
theorem dX7_lapseIfDue_21 : decode cX7_lapseIfDue 21 = .ok (.getfield 270, 3) := by decide +kernel
theorem dX7_lapseIfDue_24 : decode cX7_lapseIfDue 24 = .ok (.if_icmp .le 8, 3) := by decide +kernel
theorem dX7_lapseIfDue_27 : decode cX7_lapseIfDue 27 = .ok (.aload_n 1, 1) := by decide +kernel
theorem dX7_lapseIfDue_28 : decode cX7_lapseIfDue 28 = .ok (.iconst 0, 1) := by decide +kernel
theorem dX7_lapseIfDue_29 : decode cX7_lapseIfDue 29 = .ok (.putfield 226, 3) := by decide +kernel
theorem dX7_lapseIfDue_32 : decode cX7_lapseIfDue 32 = .ok (.return_, 1) := by decide +kernel
theorem dX7_isDead_0 : decode cX7_isDead 0 = .ok (.aload_n 0, 1) := by decide +kernel
theorem dX7_isDead_1 : decode cX7_isDead 1 = .ok (.iload_n 1, 1) := by decide +kernel
theorem dX7_isDead_2 : decode cX7_isDead 2 = .ok (.invokevirtual 219, 3) := by decide +kernel
theorem dX7_isDead_5 : decode cX7_isDead 5 = .ok (.ifCond .eq 24, 3) := by decide +kernel
theorem dX7_isDead_8 : decode cX7_isDead 8 = .ok (.aload_n 0, 1) := by decide +kernel
theorem dX7_isDead_9 : decode cX7_isDead 9 = .ok (.getfield 33, 3) := by decide +kernel
theorem dX7_isDead_12 : decode cX7_isDead 12 = .ok (.iload_n 1, 1) := by decide +kernel
theorem dX7_isDead_13 : decode cX7_isDead 13 = .ok (.invokevirtual 314, 3) := by decide +kernel
theorem dX7_isDead_16 : decode cX7_isDead 16 = .ok (.checkcast 90, 3) := by decide +kernel
theorem dX7_isDead_19 : decode cX7_isDead 19 = .ok (.invokevirtual 115, 3) := by decide +kernel
theorem dX7_isDead_22 : decode cX7_isDead 22 = .ok (.ifCond .eq 7, 3) := by decide +kernel
theorem dX7_isDead_25 : decode cX7_isDead 25 = .ok (.iconst 1, 1) := by decide +kernel
theorem dX7_isDead_26 : decode cX7_isDead 26 = .ok (.goto 4, 3) := by decide +kernel
theorem dX7_isDead_29 : decode cX7_isDead 29 = .ok (.iconst 0, 1) := by decide +kernel
theorem dX7_isDead_30 : decode cX7_isDead 30 = .ok (.ireturn, 1) := by decide +kernel
theorem dX7_livingMiners_0 : decode cX7_livingMiners 0 = .ok (.iconst 0, 1) := by decide +kernel
theorem dX7_livingMiners_1 : decode cX7_livingMiners 1 = .ok (.istore_n 1, 1) := by decide +kernel
theorem dX7_livingMiners_2 : decode cX7_livingMiners 2 = .ok (.iconst 0, 1) := by decide +kernel
theorem dX7_livingMiners_3 : decode cX7_livingMiners 3 = .ok (.istore_n 2, 1) := by decide +kernel
theorem dX7_livingMiners_4 : decode cX7_livingMiners 4 = .ok (.iload_n 2, 1) := by decide +kernel
theorem dX7_livingMiners_5 : decode cX7_livingMiners 5 = .ok (.aload_n 0, 1) := by decide +kernel
theorem dX7_livingMiners_6 : decode cX7_livingMiners 6 = .ok (.getfield 33, 3) := by decide +kernel
theorem dX7_livingMiners_9 : decode cX7_livingMiners 9 = .ok (.invokevirtual 86, 3) := by decide +kernel
theorem dX7_livingMiners_12 : decode cX7_livingMiners 12 = .ok (.if_icmp .ge 20, 3) := by decide +kernel
theorem dX7_livingMiners_15 : decode cX7_livingMiners 15 = .ok (.aload_n 0, 1) := by decide +kernel
theorem dX7_livingMiners_16 : decode cX7_livingMiners 16 = .ok (.iload_n 2, 1) := by decide +kernel
theorem dX7_livingMiners_17 : decode cX7_livingMiners 17 = .ok (.invokevirtual 339, 3) := by decide +kernel
theorem dX7_livingMiners_20 : decode cX7_livingMiners 20 = .ok (.ifCond .ne 6, 3) := by decide +kernel
theorem dX7_livingMiners_23 : decode cX7_livingMiners 23 = .ok (.iinc 1 1, 3) := by decide +kernel
theorem dX7_livingMiners_26 : decode cX7_livingMiners 26 = .ok (.iinc 2 1, 3) := by decide +kernel
theorem dX7_livingMiners_29 : decode cX7_livingMiners 29 = .ok (.goto (-25), 3) := by decide +kernel
theorem dX7_livingMiners_32 : decode cX7_livingMiners 32 = .ok (.iload_n 1, 1) := by decide +kernel
theorem dX7_livingMiners_33 : decode cX7_livingMiners 33 = .ok (.ireturn, 1) := by decide +kernel
theorem dX7_goldOfMiners_0 : decode cX7_goldOfMiners 0 = .ok (.iconst 0, 1) := by decide +kernel
theorem dX7_goldOfMiners_1 : decode cX7_goldOfMiners 1 = .ok (.istore_n 1, 1) := by decide +kernel
theorem dX7_goldOfMiners_2 : decode cX7_goldOfMiners 2 = .ok (.iconst 0, 1) := by decide +kernel
theorem dX7_goldOfMiners_3 : decode cX7_goldOfMiners 3 = .ok (.istore_n 2, 1) := by decide +kernel
theorem dX7_goldOfMiners_4 : decode cX7_goldOfMiners 4 = .ok (.iload_n 2, 1) := by decide +kernel
theorem dX7_goldOfMiners_5 : decode cX7_goldOfMiners 5 = .ok (.aload_n 0, 1) := by decide +kernel
theorem dX7_goldOfMiners_6 : decode cX7_goldOfMiners 6 = .ok (.getfield 33, 3) := by decide +kernel
theorem dX7_goldOfMiners_9 : decode cX7_goldOfMiners 9 = .ok (.invokevirtual 86, 3) := by decide +kernel
theorem dX7_goldOfMiners_12 : decode cX7_goldOfMiners 12 = .ok (.if_icmp .ge 26, 3) := by decide +kernel
theorem dX7_goldOfMiners_15 : decode cX7_goldOfMiners 15 = .ok (.iload_n 1, 1) := by decide +kernel
theorem dX7_goldOfMiners_16 : decode cX7_goldOfMiners 16 = .ok (.aload_n 0, 1) := by decide +kernel
theorem dX7_goldOfMiners_17 : decode cX7_goldOfMiners 17 = .ok (.getfield 33, 3) := by decide +kernel
theorem dX7_goldOfMiners_20 : decode cX7_goldOfMiners 20 = .ok (.iload_n 2, 1) := by decide +kernel
theorem dX7_goldOfMiners_21 : decode cX7_goldOfMiners 21 = .ok (.invokevirtual 314, 3) := by decide +kernel
theorem dX7_goldOfMiners_24 : decode cX7_goldOfMiners 24 = .ok (.checkcast 90, 3) := by decide +kernel
theorem dX7_goldOfMiners_27 : decode cX7_goldOfMiners 27 = .ok (.getfield 166, 3) := by decide +kernel
theorem dX7_goldOfMiners_30 : decode cX7_goldOfMiners 30 = .ok (.iadd, 1) := by decide +kernel
theorem dX7_goldOfMiners_31 : decode cX7_goldOfMiners 31 = .ok (.istore_n 1, 1) := by decide +kernel
theorem dX7_goldOfMiners_32 : decode cX7_goldOfMiners 32 = .ok (.iinc 2 1, 3) := by decide +kernel
theorem dX7_goldOfMiners_35 : decode cX7_goldOfMiners 35 = .ok (.goto (-31), 3) := by decide +kernel
theorem dX7_goldOfMiners_38 : decode cX7_goldOfMiners 38 = .ok (.iload_n 1, 1) := by decide +kernel
theorem dX7_goldOfMiners_39 : decode cX7_goldOfMiners 39 = .ok (.ireturn, 1) := by decide +kernel
theorem dX7_shareOut_0 : decode cX7_shareOut 0 = .ok (.iload_n 2, 1) := by decide +kernel
theorem dX7_shareOut_1 : decode cX7_shareOut 1 = .ok (.istore_n 3, 1) := by decide +kernel
theorem dX7_shareOut_2 : decode cX7_shareOut 2 = .ok (.iconst 0, 1) := by decide +kernel
theorem dX7_shareOut_3 : decode cX7_shareOut 3 = .ok (.istore 4, 2) := by decide +kernel
theorem dX7_shareOut_5 : decode cX7_shareOut 5 = .ok (.iload 4, 2) := by decide +kernel
theorem dX7_shareOut_7 : decode cX7_shareOut 7 = .ok (.aload_n 0, 1) := by decide +kernel
theorem dX7_shareOut_8 : decode cX7_shareOut 8 = .ok (.getfield 33, 3) := by decide +kernel
theorem dX7_shareOut_11 : decode cX7_shareOut 11 = .ok (.invokevirtual 86, 3) := by decide +kernel
theorem dX7_shareOut_14 : decode cX7_shareOut 14 = .ok (.if_icmp .ge 49, 3) := by decide +kernel
theorem dX7_shareOut_17 : decode cX7_shareOut 17 = .ok (.iload_n 2, 1) := by decide +kernel
theorem dX7_shareOut_18 : decode cX7_shareOut 18 = .ok (.aload_n 1, 1) := by decide +kernel
theorem dX7_shareOut_19 : decode cX7_shareOut 19 = .ok (.iload 4, 2) := by decide +kernel
theorem dX7_shareOut_21 : decode cX7_shareOut 21 = .ok (.invokevirtual 210, 3) := by decide +kernel
theorem dX7_shareOut_24 : decode cX7_shareOut 24 = .ok (.imul, 1) := by decide +kernel
theorem dX7_shareOut_25 : decode cX7_shareOut 25 = .ok (.bipush 100, 2) := by decide +kernel
theorem dX7_shareOut_27 : decode cX7_shareOut 27 = .ok (.idiv, 1) := by decide +kernel
theorem dX7_shareOut_28 : decode cX7_shareOut 28 = .ok (.istore 5, 2) := by decide +kernel
theorem dX7_shareOut_30 : decode cX7_shareOut 30 = .ok (.aload_n 0, 1) := by decide +kernel
theorem dX7_shareOut_31 : decode cX7_shareOut 31 = .ok (.getfield 33, 3) := by decide +kernel
theorem dX7_shareOut_34 : decode cX7_shareOut 34 = .ok (.iload 4, 2) := by decide +kernel
theorem dX7_shareOut_36 : decode cX7_shareOut 36 = .ok (.invokevirtual 314, 3) := by decide +kernel
theorem dX7_shareOut_39 : decode cX7_shareOut 39 = .ok (.checkcast 90, 3) := by decide +kernel
theorem dX7_shareOut_42 : decode cX7_shareOut 42 = .ok (.dup, 1) := by decide +kernel
theorem dX7_shareOut_43 : decode cX7_shareOut 43 = .ok (.getfield 166, 3) := by decide +kernel
theorem dX7_shareOut_46 : decode cX7_shareOut 46 = .ok (.iload 5, 2) := by decide +kernel
theorem dX7_shareOut_48 : decode cX7_shareOut 48 = .ok (.iadd, 1) := by decide +kernel
theorem dX7_shareOut_49 : decode cX7_shareOut 49 = .ok (.putfield 166, 3) := by decide +kernel
theorem dX7_shareOut_52 : decode cX7_shareOut 52 = .ok (.iload_n 3, 1) := by decide +kernel
theorem dX7_shareOut_53 : decode cX7_shareOut 53 = .ok (.iload 5, 2) := by decide +kernel
theorem dX7_shareOut_55 : decode cX7_shareOut 55 = .ok (.isub, 1) := by decide +kernel
theorem dX7_shareOut_56 : decode cX7_shareOut 56 = .ok (.istore_n 3, 1) := by decide +kernel
theorem dX7_shareOut_57 : decode cX7_shareOut 57 = .ok (.iinc 4 1, 3) := by decide +kernel
theorem dX7_shareOut_60 : decode cX7_shareOut 60 = .ok (.goto (-55), 3) := by decide +kernel
theorem dX7_shareOut_63 : decode cX7_shareOut 63 = .ok (.aload_n 1, 1) := by decide +kernel
theorem dX7_shareOut_64 : decode cX7_shareOut 64 = .ok (.dup, 1) := by decide +kernel
theorem dX7_shareOut_65 : decode cX7_shareOut 65 = .ok (.getfield 166, 3) := by decide +kernel
theorem dX7_shareOut_68 : decode cX7_shareOut 68 = .ok (.iload_n 3, 1) := by decide +kernel
theorem dX7_shareOut_69 : decode cX7_shareOut 69 = .ok (.iadd, 1) := by decide +kernel
theorem dX7_shareOut_70 : decode cX7_shareOut 70 = .ok (.putfield 166, 3) := by decide +kernel
theorem dX7_shareOut_73 : decode cX7_shareOut 73 = .ok (.return_, 1) := by decide +kernel
theorem dX7_claimHolding_0 : decode cX7_claimHolding 0 = .ok (.iconst 0, 1) := by decide +kernel
theorem dX7_claimHolding_1 : decode cX7_claimHolding 1 = .ok (.istore_n 2, 1) := by decide +kernel
theorem dX7_claimHolding_2 : decode cX7_claimHolding 2 = .ok (.iload_n 2, 1) := by decide +kernel
theorem dX7_claimHolding_3 : decode cX7_claimHolding 3 = .ok (.aload_n 0, 1) := by decide +kernel
theorem dX7_claimHolding_4 : decode cX7_claimHolding 4 = .ok (.getfield 37, 3) := by decide +kernel
theorem dX7_claimHolding_7 : decode cX7_claimHolding 7 = .ok (.invokevirtual 86, 3) := by decide +kernel
theorem dX7_claimHolding_10 : decode cX7_claimHolding 10 = .ok (.if_icmp .ge 38, 3) := by decide +kernel
theorem dX7_claimHolding_13 : decode cX7_claimHolding 13 = .ok (.aload_n 0, 1) := by decide +kernel
theorem dX7_claimHolding_14 : decode cX7_claimHolding 14 = .ok (.getfield 37, 3) := by decide +kernel
theorem dX7_claimHolding_17 : decode cX7_claimHolding 17 = .ok (.iload_n 2, 1) := by decide +kernel
theorem dX7_claimHolding_18 : decode cX7_claimHolding 18 = .ok (.invokevirtual 314, 3) := by decide +kernel
theorem dX7_claimHolding_21 : decode cX7_claimHolding 21 = .ok (.checkcast 123, 3) := by decide +kernel
theorem dX7_claimHolding_24 : decode cX7_claimHolding 24 = .ok (.astore_n 3, 1) := by decide +kernel
theorem dX7_claimHolding_25 : decode cX7_claimHolding 25 = .ok (.aload_n 3, 1) := by decide +kernel
theorem dX7_claimHolding_26 : decode cX7_claimHolding 26 = .ok (.getfield 226, 3) := by decide +kernel
theorem dX7_claimHolding_29 : decode cX7_claimHolding 29 = .ok (.ifCond .eq 13, 3) := by decide +kernel
theorem dX7_claimHolding_32 : decode cX7_claimHolding 32 = .ok (.aload_n 3, 1) := by decide +kernel
theorem dX7_claimHolding_33 : decode cX7_claimHolding 33 = .ok (.iload_n 1, 1) := by decide +kernel
theorem dX7_claimHolding_34 : decode cX7_claimHolding 34 = .ok (.invokevirtual 341, 3) := by decide +kernel
theorem dX7_claimHolding_37 : decode cX7_claimHolding 37 = .ok (.ifCond .eq 5, 3) := by decide +kernel
theorem dX7_claimHolding_40 : decode cX7_claimHolding 40 = .ok (.iload_n 2, 1) := by decide +kernel
theorem dX7_claimHolding_41 : decode cX7_claimHolding 41 = .ok (.ireturn, 1) := by decide +kernel
theorem dX7_claimHolding_42 : decode cX7_claimHolding 42 = .ok (.iinc 2 1, 3) := by decide +kernel
theorem dX7_claimHolding_45 : decode cX7_claimHolding 45 = .ok (.goto (-43), 3) := by decide +kernel
theorem dX7_claimHolding_48 : decode cX7_claimHolding 48 = .ok (.iconst (-1), 1) := by decide +kernel
theorem dX7_claimHolding_49 : decode cX7_claimHolding 49 = .ok (.ireturn, 1) := by decide +kernel
theorem dX7_areFree_0 : decode cX7_areFree 0 = .ok (.iconst 0, 1) := by decide +kernel
theorem dX7_areFree_1 : decode cX7_areFree 1 = .ok (.istore_n 3, 1) := by decide +kernel
theorem dX7_areFree_2 : decode cX7_areFree 2 = .ok (.iload_n 3, 1) := by decide +kernel
theorem dX7_areFree_3 : decode cX7_areFree 3 = .ok (.iload_n 2, 1) := by decide +kernel
theorem dX7_areFree_4 : decode cX7_areFree 4 = .ok (.if_icmp .ge 22, 3) := by decide +kernel
theorem dX7_areFree_7 : decode cX7_areFree 7 = .ok (.aload_n 0, 1) := by decide +kernel
theorem dX7_areFree_8 : decode cX7_areFree 8 = .ok (.iload_n 1, 1) := by decide +kernel
theorem dX7_areFree_9 : decode cX7_areFree 9 = .ok (.iload_n 3, 1) := by decide +kernel
theorem dX7_areFree_10 : decode cX7_areFree 10 = .ok (.iadd, 1) := by decide +kernel
theorem dX7_areFree_11 : decode cX7_areFree 11 = .ok (.invokevirtual 135, 3) := by decide +kernel
theorem dX7_areFree_14 : decode cX7_areFree 14 = .ok (.iconst (-1), 1) := by decide +kernel
theorem dX7_areFree_15 : decode cX7_areFree 15 = .ok (.if_icmp .eq 5, 3) := by decide +kernel
theorem dX7_areFree_18 : decode cX7_areFree 18 = .ok (.iconst 0, 1) := by decide +kernel
theorem dX7_areFree_19 : decode cX7_areFree 19 = .ok (.ireturn, 1) := by decide +kernel
theorem dX7_areFree_20 : decode cX7_areFree 20 = .ok (.iinc 3 1, 3) := by decide +kernel
theorem dX7_areFree_23 : decode cX7_areFree 23 = .ok (.goto (-21), 3) := by decide +kernel
theorem dX7_areFree_26 : decode cX7_areFree 26 = .ok (.iconst 1, 1) := by decide +kernel
theorem dX7_areFree_27 : decode cX7_areFree 27 = .ok (.ireturn, 1) := by decide +kernel
theorem dX7_mayUse_0 : decode cX7_mayUse 0 = .ok (.iload_n 3, 1) := by decide +kernel
theorem dX7_mayUse_1 : decode cX7_mayUse 1 = .ok (.iconst (-1), 1) := by decide +kernel
theorem dX7_mayUse_2 : decode cX7_mayUse 2 = .ok (.if_icmp .ne 18, 3) := by decide +kernel
theorem dX7_mayUse_5 : decode cX7_mayUse 5 = .ok (.aload_n 1, 1) := by decide +kernel
theorem dX7_mayUse_6 : decode cX7_mayUse 6 = .ok (.getstatic 344, 3) := by decide +kernel
theorem dX7_mayUse_9 : decode cX7_mayUse 9 = .ok (.if_acmp .ne 7, 3) := by decide +kernel
theorem dX7_mayUse_12 : decode cX7_mayUse 12 = .ok (.iconst 1, 1) := by decide +kernel
theorem dX7_mayUse_13 : decode cX7_mayUse 13 = .ok (.goto 24, 3) := by decide +kernel
theorem dX7_mayUse_16 : decode cX7_mayUse 16 = .ok (.iconst 0, 1) := by decide +kernel
theorem dX7_mayUse_17 : decode cX7_mayUse 17 = .ok (.goto 20, 3) := by decide +kernel
theorem dX7_mayUse_20 : decode cX7_mayUse 20 = .ok (.aload_n 0, 1) := by decide +kernel
theorem dX7_mayUse_21 : decode cX7_mayUse 21 = .ok (.iload_n 3, 1) := by decide +kernel
theorem dX7_mayUse_22 : decode cX7_mayUse 22 = .ok (.invokevirtual 157, 3) := by decide +kernel
theorem dX7_mayUse_25 : decode cX7_mayUse 25 = .ok (.getfield 223, 3) := by decide +kernel
theorem dX7_mayUse_28 : decode cX7_mayUse 28 = .ok (.iload_n 2, 1) := by decide +kernel
theorem dX7_mayUse_29 : decode cX7_mayUse 29 = .ok (.if_icmp .ne 7, 3) := by decide +kernel
theorem dX7_mayUse_32 : decode cX7_mayUse 32 = .ok (.iconst 1, 1) := by decide +kernel
theorem dX7_mayUse_33 : decode cX7_mayUse 33 = .ok (.goto 4, 3) := by decide +kernel
theorem dX7_mayUse_36 : decode cX7_mayUse 36 = .ok (.iconst 0, 1) := by decide +kernel
theorem dX7_mayUse_37 : decode cX7_mayUse 37 = .ok (.ireturn, 1) := by decide +kernel
theorem dX7_spoilSalesOfToday_0 : decode cX7_spoilSalesOfToday 0 = .ok (.iconst 0, 1) := by decide +kernel
theorem dX7_spoilSalesOfToday_1 : decode cX7_spoilSalesOfToday 1 = .ok (.istore_n 3, 1) := by decide +kernel
theorem dX7_spoilSalesOfToday_2 : decode cX7_spoilSalesOfToday 2 = .ok (.iload_n 3, 1) := by decide +kernel
theorem dX7_spoilSalesOfToday_3 : decode cX7_spoilSalesOfToday 3 = .ok (.aload_n 0, 1) := by decide +kernel
theorem dX7_spoilSalesOfToday_4 : decode cX7_spoilSalesOfToday 4 = .ok (.getfield 37, 3) := by decide +kernel
theorem dX7_spoilSalesOfToday_7 : decode cX7_spoilSalesOfToday 7 = .ok (.invokevirtual 86, 3) := by decide +kernel
theorem dX7_spoilSalesOfToday_10 : decode cX7_spoilSalesOfToday 10 = .ok (.if_icmp .ge 58, 3) := by decide +kernel
theorem dX7_spoilSalesOfToday_13 : decode cX7_spoilSalesOfToday 13 = .ok (.aload_n 0, 1) := by decide +kernel
theorem dX7_spoilSalesOfToday_14 : decode cX7_spoilSalesOfToday 14 = .ok (.getfield 37, 3) := by decide +kernel
theorem dX7_spoilSalesOfToday_17 : decode cX7_spoilSalesOfToday 17 = .ok (.iload_n 3, 1) := by decide +kernel
theorem dX7_spoilSalesOfToday_18 : decode cX7_spoilSalesOfToday 18 = .ok (.invokevirtual 314, 3) := by decide +kernel
theorem dX7_spoilSalesOfToday_21 : decode cX7_spoilSalesOfToday 21 = .ok (.checkcast 123, 3) := by decide +kernel
theorem dX7_spoilSalesOfToday_24 : decode cX7_spoilSalesOfToday 24 = .ok (.astore 4, 2) := by decide +kernel
theorem dX7_spoilSalesOfToday_26 : decode cX7_spoilSalesOfToday 26 = .ok (.aload 4, 2) := by decide +kernel
theorem dX7_spoilSalesOfToday_28 : decode cX7_spoilSalesOfToday 28 = .ok (.getfield 243, 3) := by decide +kernel
theorem dX7_spoilSalesOfToday_31 : decode cX7_spoilSalesOfToday 31 = .ok (.iload_n 1, 1) := by decide +kernel
theorem dX7_spoilSalesOfToday_32 : decode cX7_spoilSalesOfToday 32 = .ok (.if_icmp .ne 30, 3) := by decide +kernel
theorem dX7_spoilSalesOfToday_35 : decode cX7_spoilSalesOfToday 35 = .ok (.aload 4, 2) := by decide +kernel
theorem dX7_spoilSalesOfToday_37 : decode cX7_spoilSalesOfToday 37 = .ok (.getfield 249, 3) := by decide +kernel
theorem dX7_spoilSalesOfToday_40 : decode cX7_spoilSalesOfToday 40 = .ok (.aload_n 0, 1) := by decide +kernel
theorem dX7_spoilSalesOfToday_41 : decode cX7_spoilSalesOfToday 41 = .ok (.getfield 43, 3) := by decide +kernel
theorem dX7_spoilSalesOfToday_44 : decode cX7_spoilSalesOfToday 44 = .ok (.if_icmp .ne 18, 3) := by decide +kernel
theorem dX7_spoilSalesOfToday_47 : decode cX7_spoilSalesOfToday 47 = .ok (.aload 4, 2) := by decide +kernel
theorem dX7_spoilSalesOfToday_49 : decode cX7_spoilSalesOfToday 49 = .ok (.iload_n 2, 1) := by decide +kernel
theorem dX7_spoilSalesOfToday_50 : decode cX7_spoilSalesOfToday 50 = .ok (.invokevirtual 341, 3) := by decide +kernel
theorem dX7_spoilSalesOfToday_53 : decode cX7_spoilSalesOfToday 53 = .ok (.ifCond .eq 9, 3) := by decide +kernel
theorem dX7_spoilSalesOfToday_56 : decode cX7_spoilSalesOfToday 56 = .ok (.aload 4, 2) := by decide +kernel
theorem dX7_spoilSalesOfToday_58 : decode cX7_spoilSalesOfToday 58 = .ok (.iconst 1, 1) := by decide +kernel
theorem dX7_spoilSalesOfToday_59 : decode cX7_spoilSalesOfToday 59 = .ok (.putfield 252, 3) := by decide +kernel
theorem dX7_spoilSalesOfToday_62 : decode cX7_spoilSalesOfToday 62 = .ok (.iinc 3 1, 3) := by decide +kernel
theorem dX7_spoilSalesOfToday_65 : decode cX7_spoilSalesOfToday 65 = .ok (.goto (-63), 3) := by decide +kernel
theorem dX7_spoilSalesOfToday_68 : decode cX7_spoilSalesOfToday 68 = .ok (.return_, 1) := by decide +kernel
theorem dX7_inchesOfRight_0 : decode cX7_inchesOfRight 0 = .ok (.aload_n 0, 1) := by decide +kernel
theorem dX7_inchesOfRight_1 : decode cX7_inchesOfRight 1 = .ok (.getfield 47, 3) := by decide +kernel
theorem dX7_inchesOfRight_4 : decode cX7_inchesOfRight 4 = .ok (.istore_n 2, 1) := by decide +kernel
theorem dX7_inchesOfRight_5 : decode cX7_inchesOfRight 5 = .ok (.iconst 0, 1) := by decide +kernel
theorem dX7_inchesOfRight_6 : decode cX7_inchesOfRight 6 = .ok (.istore_n 3, 1) := by decide +kernel
theorem dX7_inchesOfRight_7 : decode cX7_inchesOfRight 7 = .ok (.iconst 0, 1) := by decide +kernel
theorem dX7_inchesOfRight_8 : decode cX7_inchesOfRight 8 = .ok (.istore 4, 2) := by decide +kernel
theorem dX7_inchesOfRight_10 : decode cX7_inchesOfRight 10 = .ok (.iload 4, 2) := by decide +kernel
theorem dX7_inchesOfRight_12 : decode cX7_inchesOfRight 12 = .ok (.iload_n 1, 1) := by decide +kernel
theorem dX7_inchesOfRight_13 : decode cX7_inchesOfRight 13 = .ok (.if_icmp .gt 65, 3) := by decide +kernel
theorem dX7_inchesOfRight_16 : decode cX7_inchesOfRight 16 = .ok (.iload 4, 2) := by decide +kernel
theorem dX7_inchesOfRight_18 : decode cX7_inchesOfRight 18 = .ok (.aload_n 0, 1) := by decide +kernel
theorem dX7_inchesOfRight_19 : decode cX7_inchesOfRight 19 = .ok (.getfield 40, 3) := by decide +kernel
theorem dX7_inchesOfRight_22 : decode cX7_inchesOfRight 22 = .ok (.invokevirtual 86, 3) := by decide +kernel
theorem dX7_inchesOfRight_25 : decode cX7_inchesOfRight 25 = .ok (.if_icmp .ge 53, 3) := by decide +kernel
theorem dX7_inchesOfRight_28 : decode cX7_inchesOfRight 28 = .ok (.aload_n 0, 1) := by decide +kernel
theorem dX7_inchesOfRight_29 : decode cX7_inchesOfRight 29 = .ok (.getfield 40, 3) := by decide +kernel
theorem dX7_inchesOfRight_32 : decode cX7_inchesOfRight 32 = .ok (.iload 4, 2) := by decide +kernel
theorem dX7_inchesOfRight_34 : decode cX7_inchesOfRight 34 = .ok (.invokevirtual 314, 3) := by decide +kernel
theorem dX7_inchesOfRight_37 : decode cX7_inchesOfRight 37 = .ok (.checkcast 128, 3) := by decide +kernel
theorem dX7_inchesOfRight_40 : decode cX7_inchesOfRight 40 = .ok (.astore 5, 2) := by decide +kernel
theorem dX7_inchesOfRight_42 : decode cX7_inchesOfRight 42 = .ok (.aload_n 0, 1) := by decide +kernel
theorem dX7_inchesOfRight_43 : decode cX7_inchesOfRight 43 = .ok (.aload 5, 2) := by decide +kernel
theorem dX7_inchesOfRight_45 : decode cX7_inchesOfRight 45 = .ok (.getfield 348, 3) := by decide +kernel
theorem dX7_inchesOfRight_48 : decode cX7_inchesOfRight 48 = .ok (.invokevirtual 339, 3) := by decide +kernel
theorem dX7_inchesOfRight_51 : decode cX7_inchesOfRight 51 = .ok (.ifCond .eq 7, 3) := by decide +kernel
theorem dX7_inchesOfRight_54 : decode cX7_inchesOfRight 54 = .ok (.iconst 0, 1) := by decide +kernel
theorem dX7_inchesOfRight_55 : decode cX7_inchesOfRight 55 = .ok (.goto 12, 3) := by decide +kernel
theorem dX7_inchesOfRight_58 : decode cX7_inchesOfRight 58 = .ok (.aload 5, 2) := by decide +kernel
theorem dX7_inchesOfRight_60 : decode cX7_inchesOfRight 60 = .ok (.getfield 349, 3) := by decide +kernel
theorem dX7_inchesOfRight_63 : decode cX7_inchesOfRight 63 = .ok (.iload_n 2, 1) := by decide +kernel
theorem dX7_inchesOfRight_64 : decode cX7_inchesOfRight 64 = .ok (.invokestatic 258, 3) := by decide +kernel
theorem dX7_inchesOfRight_67 : decode cX7_inchesOfRight 67 = .ok (.istore_n 3, 1) := by decide +kernel
theorem dX7_inchesOfRight_68 : decode cX7_inchesOfRight 68 = .ok (.iload_n 2, 1) := by decide +kernel
theorem dX7_inchesOfRight_69 : decode cX7_inchesOfRight 69 = .ok (.iload_n 3, 1) := by decide +kernel
theorem dX7_inchesOfRight_70 : decode cX7_inchesOfRight 70 = .ok (.isub, 1) := by decide +kernel
theorem dX7_inchesOfRight_71 : decode cX7_inchesOfRight 71 = .ok (.istore_n 2, 1) := by decide +kernel
theorem dX7_inchesOfRight_72 : decode cX7_inchesOfRight 72 = .ok (.iinc 4 1, 3) := by decide +kernel
theorem dX7_inchesOfRight_75 : decode cX7_inchesOfRight 75 = .ok (.goto (-65), 3) := by decide +kernel
theorem dX7_inchesOfRight_78 : decode cX7_inchesOfRight 78 = .ok (.iload_n 3, 1) := by decide +kernel
theorem dX7_inchesOfRight_79 : decode cX7_inchesOfRight 79 = .ok (.ireturn, 1) := by decide +kernel
theorem dX7_inchesOfMiner_0 : decode cX7_inchesOfMiner 0 = .ok (.iconst 0, 1) := by decide +kernel
theorem dX7_inchesOfMiner_1 : decode cX7_inchesOfMiner 1 = .ok (.istore_n 2, 1) := by decide +kernel
theorem dX7_inchesOfMiner_2 : decode cX7_inchesOfMiner 2 = .ok (.iconst 0, 1) := by decide +kernel
theorem dX7_inchesOfMiner_3 : decode cX7_inchesOfMiner 3 = .ok (.istore_n 3, 1) := by decide +kernel
theorem dX7_inchesOfMiner_4 : decode cX7_inchesOfMiner 4 = .ok (.iload_n 3, 1) := by decide +kernel
theorem dX7_inchesOfMiner_5 : decode cX7_inchesOfMiner 5 = .ok (.aload_n 0, 1) := by decide +kernel
theorem dX7_inchesOfMiner_6 : decode cX7_inchesOfMiner 6 = .ok (.getfield 40, 3) := by decide +kernel
theorem dX7_inchesOfMiner_9 : decode cX7_inchesOfMiner 9 = .ok (.invokevirtual 86, 3) := by decide +kernel
theorem dX7_inchesOfMiner_12 : decode cX7_inchesOfMiner 12 = .ok (.if_icmp .ge 35, 3) := by decide +kernel
theorem dX7_inchesOfMiner_15 : decode cX7_inchesOfMiner 15 = .ok (.aload_n 0, 1) := by decide +kernel
theorem dX7_inchesOfMiner_16 : decode cX7_inchesOfMiner 16 = .ok (.getfield 40, 3) := by decide +kernel
theorem dX7_inchesOfMiner_19 : decode cX7_inchesOfMiner 19 = .ok (.iload_n 3, 1) := by decide +kernel
theorem dX7_inchesOfMiner_20 : decode cX7_inchesOfMiner 20 = .ok (.invokevirtual 314, 3) := by decide +kernel
theorem dX7_inchesOfMiner_23 : decode cX7_inchesOfMiner 23 = .ok (.checkcast 128, 3) := by decide +kernel
theorem dX7_inchesOfMiner_26 : decode cX7_inchesOfMiner 26 = .ok (.getfield 348, 3) := by decide +kernel
theorem dX7_inchesOfMiner_29 : decode cX7_inchesOfMiner 29 = .ok (.iload_n 1, 1) := by decide +kernel
theorem dX7_inchesOfMiner_30 : decode cX7_inchesOfMiner 30 = .ok (.if_icmp .ne 11, 3) := by decide +kernel
theorem dX7_inchesOfMiner_33 : decode cX7_inchesOfMiner 33 = .ok (.iload_n 2, 1) := by decide +kernel
theorem dX7_inchesOfMiner_34 : decode cX7_inchesOfMiner 34 = .ok (.aload_n 0, 1) := by decide +kernel
theorem dX7_inchesOfMiner_35 : decode cX7_inchesOfMiner 35 = .ok (.iload_n 3, 1) := by decide +kernel
theorem dX7_inchesOfMiner_36 : decode cX7_inchesOfMiner 36 = .ok (.invokevirtual 276, 3) := by decide +kernel
theorem dX7_inchesOfMiner_39 : decode cX7_inchesOfMiner 39 = .ok (.iadd, 1) := by decide +kernel
theorem dX7_inchesOfMiner_40 : decode cX7_inchesOfMiner 40 = .ok (.istore_n 2, 1) := by decide +kernel
theorem dX7_inchesOfMiner_41 : decode cX7_inchesOfMiner 41 = .ok (.iinc 3 1, 3) := by decide +kernel
theorem dX7_inchesOfMiner_44 : decode cX7_inchesOfMiner 44 = .ok (.goto (-40), 3) := by decide +kernel
theorem dX7_inchesOfMiner_47 : decode cX7_inchesOfMiner 47 = .ok (.iload_n 2, 1) := by decide +kernel
theorem dX7_inchesOfMiner_48 : decode cX7_inchesOfMiner 48 = .ok (.ireturn, 1) := by decide +kernel
theorem dJ9_max_7cf53_0 : decode cJ9_max_7cf53 0 = .ok (.iload_n 0, 1) := by decide +kernel
theorem dJ9_max_7cf53_1 : decode cJ9_max_7cf53 1 = .ok (.iload_n 1, 1) := by decide +kernel
theorem dJ9_max_7cf53_2 : decode cJ9_max_7cf53 2 = .ok (.if_icmp .lt 7, 3) := by decide +kernel
theorem dJ9_max_7cf53_5 : decode cJ9_max_7cf53 5 = .ok (.iload_n 0, 1) := by decide +kernel
theorem dJ9_max_7cf53_6 : decode cJ9_max_7cf53 6 = .ok (.goto 4, 3) := by decide +kernel
theorem dJ9_max_7cf53_9 : decode cJ9_max_7cf53 9 = .ok (.iload_n 1, 1) := by decide +kernel
theorem dJ9_max_7cf53_10 : decode cJ9_max_7cf53 10 = .ok (.ireturn, 1) := by decide +kernel
theorem dJ9_min_7cf53_0 : decode cJ9_min_7cf53 0 = .ok (.iload_n 0, 1) := by decide +kernel
theorem dJ9_min_7cf53_1 : decode cJ9_min_7cf53 1 = .ok (.iload_n 1, 1) := by decide +kernel
theorem dJ9_min_7cf53_2 : decode cJ9_min_7cf53 2 = .ok (.if_icmp .gt 7, 3) := by decide +kernel
theorem dJ9_min_7cf53_5 : decode cJ9_min_7cf53 5 = .ok (.iload_n 0, 1) := by decide +kernel
theorem dJ9_min_7cf53_6 : decode cJ9_min_7cf53 6 = .ok (.goto 4, 3) := by decide +kernel
theorem dJ9_min_7cf53_9 : decode cJ9_min_7cf53 9 = .ok (.iload_n 1, 1) := by decide +kernel
theorem dJ9_min_7cf53_10 : decode cJ9_min_7cf53 10 = .ok (.ireturn, 1) := by decide +kernel
theorem dJxa1e45_init_da8c8_0 : decode cJxa1e45_init_da8c8 0 = .ok (.aload_n 0, 1) := by decide +kernel
theorem dJxa1e45_init_da8c8_1 : decode cJxa1e45_init_da8c8 1 = .ok (.invokespecial 1, 3) := by decide +kernel
theorem dJxa1e45_init_da8c8_4 : decode cJxa1e45_init_da8c8 4 = .ok (.return_, 1) := by decide +kernel
theorem dJxc12de_init_da8c8_0 : decode cJxc12de_init_da8c8 0 = .ok (.aload_n 0, 1) := by decide +kernel
theorem dJxc12de_init_da8c8_1 : decode cJxc12de_init_da8c8 1 = .ok (.invokespecial 1, 3) := by decide +kernel
theorem dJxc12de_init_da8c8_4 : decode cJxc12de_init_da8c8 4 = .ok (.aload_n 0, 1) := by decide +kernel
theorem dJxc12de_init_da8c8_5 : decode cJxc12de_init_da8c8 5 = .ok (.iconst 0, 1) := by decide +kernel
theorem dJxc12de_init_da8c8_6 : decode cJxc12de_init_da8c8 6 = .ok (.putfield 7, 3) := by decide +kernel
theorem dJxc12de_init_da8c8_9 : decode cJxc12de_init_da8c8 9 = .ok (.return_, 1) := by decide +kernel
theorem dJx4a65c_init_da8c8_0 : decode cJx4a65c_init_da8c8 0 = .ok (.aload_n 0, 1) := by decide +kernel
theorem dJx4a65c_init_da8c8_1 : decode cJx4a65c_init_da8c8 1 = .ok (.invokespecial 1, 3) := by decide +kernel
theorem dJx4a65c_init_da8c8_4 : decode cJx4a65c_init_da8c8 4 = .ok (.aload_n 0, 1) := by decide +kernel
theorem dJx4a65c_init_da8c8_5 : decode cJx4a65c_init_da8c8 5 = .ok (.getstatic 39, 3) := by decide +kernel
theorem dJx4a65c_init_da8c8_8 : decode cJx4a65c_init_da8c8 8 = .ok (.putfield 9, 3) := by decide +kernel
theorem dJx4a65c_init_da8c8_11 : decode cJx4a65c_init_da8c8 11 = .ok (.return_, 1) := by decide +kernel
theorem dJx4a65c_grow_92f84_0 : decode cJx4a65c_grow_92f84 0 = .ok (.aload_n 0, 1) := by decide +kernel
theorem dJx4a65c_grow_92f84_1 : decode cJx4a65c_grow_92f84 1 = .ok (.getfield 9, 3) := by decide +kernel
theorem dJx4a65c_grow_92f84_4 : decode cJx4a65c_grow_92f84 4 = .ok (.arraylength, 1) := by decide +kernel
theorem dJx4a65c_grow_92f84_5 : decode cJx4a65c_grow_92f84 5 = .ok (.istore_n 2, 1) := by decide +kernel
theorem dJx4a65c_grow_92f84_6 : decode cJx4a65c_grow_92f84 6 = .ok (.iload_n 2, 1) := by decide +kernel
theorem dJx4a65c_grow_92f84_7 : decode cJx4a65c_grow_92f84 7 = .ok (.ifCond .gt 13, 3) := by decide +kernel
theorem dJx4a65c_grow_92f84_10 : decode cJx4a65c_grow_92f84 10 = .ok (.aload_n 0, 1) := by decide +kernel
theorem dJx4a65c_grow_92f84_11 : decode cJx4a65c_grow_92f84 11 = .ok (.getfield 9, 3) := by decide +kernel
theorem dJx4a65c_grow_92f84_14 : decode cJx4a65c_grow_92f84 14 = .ok (.getstatic 39, 3) := by decide +kernel
theorem dJx4a65c_grow_92f84_17 : decode cJx4a65c_grow_92f84 17 = .ok (.if_acmp .eq 28, 3) := by decide +kernel
theorem dJx4a65c_grow_92f84_20 : decode cJx4a65c_grow_92f84 20 = .ok (.iload_n 2, 1) := by decide +kernel
theorem dJx4a65c_grow_92f84_21 : decode cJx4a65c_grow_92f84 21 = .ok (.iload_n 1, 1) := by decide +kernel
theorem dJx4a65c_grow_92f84_22 : decode cJx4a65c_grow_92f84 22 = .ok (.iload_n 2, 1) := by decide +kernel
theorem dJx4a65c_grow_92f84_23 : decode cJx4a65c_grow_92f84 23 = .ok (.isub, 1) := by decide +kernel
theorem dJx4a65c_grow_92f84_24 : decode cJx4a65c_grow_92f84 24 = .ok (.iload_n 2, 1) := by decide +kernel
theorem dJx4a65c_grow_92f84_25 : decode cJx4a65c_grow_92f84 25 = .ok (.iconst 1, 1) := by decide +kernel
theorem dJx4a65c_grow_92f84_26 : decode cJx4a65c_grow_92f84 26 = .ok (.ishr, 1) := by decide +kernel
theorem dJx4a65c_grow_92f84_27 : decode cJx4a65c_grow_92f84 27 = .ok (.invokestatic 73, 3) := by decide +kernel
theorem dJx4a65c_grow_92f84_30 : decode cJx4a65c_grow_92f84 30 = .ok (.istore_n 3, 1) := by decide +kernel
theorem dJx4a65c_grow_92f84_31 : decode cJx4a65c_grow_92f84 31 = .ok (.aload_n 0, 1) := by decide +kernel
theorem dJx4a65c_grow_92f84_32 : decode cJx4a65c_grow_92f84 32 = .ok (.aload_n 0, 1) := by decide +kernel
theorem dJx4a65c_grow_92f84_33 : decode cJx4a65c_grow_92f84 33 = .ok (.getfield 9, 3) := by decide +kernel
theorem dJx4a65c_grow_92f84_36 : decode cJx4a65c_grow_92f84 36 = .ok (.iload_n 3, 1) := by decide +kernel
theorem dJx4a65c_grow_92f84_37 : decode cJx4a65c_grow_92f84 37 = .ok (.invokestatic 66, 3) := by decide +kernel
theorem dJx4a65c_grow_92f84_40 : decode cJx4a65c_grow_92f84 40 = .ok (.dup_x1, 1) := by decide +kernel
theorem dJx4a65c_grow_92f84_41 : decode cJx4a65c_grow_92f84 41 = .ok (.putfield 9, 3) := by decide +kernel
theorem dJx4a65c_grow_92f84_44 : decode cJx4a65c_grow_92f84 44 = .ok (.areturn, 1) := by decide +kernel
theorem dJx4a65c_grow_92f84_45 : decode cJx4a65c_grow_92f84 45 = .ok (.aload_n 0, 1) := by decide +kernel
theorem dJx4a65c_grow_92f84_46 : decode cJx4a65c_grow_92f84 46 = .ok (.bipush 10, 2) := by decide +kernel
theorem dJx4a65c_grow_92f84_48 : decode cJx4a65c_grow_92f84 48 = .ok (.iload_n 1, 1) := by decide +kernel
theorem dJx4a65c_grow_92f84_49 : decode cJx4a65c_grow_92f84 49 = .ok (.invokestatic 79, 3) := by decide +kernel
theorem dJx4a65c_grow_92f84_52 : decode cJx4a65c_grow_92f84 52 = .ok (.anewarray 7, 3) := by decide +kernel
theorem dJx4a65c_grow_92f84_55 : decode cJx4a65c_grow_92f84 55 = .ok (.dup_x1, 1) := by decide +kernel
theorem dJx4a65c_grow_92f84_56 : decode cJx4a65c_grow_92f84 56 = .ok (.putfield 9, 3) := by decide +kernel
theorem dJx4a65c_grow_92f84_59 : decode cJx4a65c_grow_92f84 59 = .ok (.areturn, 1) := by decide +kernel
theorem dJx4a65c_grow_d5877_0 : decode cJx4a65c_grow_d5877 0 = .ok (.aload_n 0, 1) := by decide +kernel
theorem dJx4a65c_grow_d5877_1 : decode cJx4a65c_grow_d5877 1 = .ok (.aload_n 0, 1) := by decide +kernel
theorem dJx4a65c_grow_d5877_2 : decode cJx4a65c_grow_d5877 2 = .ok (.getfield 48, 3) := by decide +kernel
theorem dJx4a65c_grow_d5877_5 : decode cJx4a65c_grow_d5877 5 = .ok (.iconst 1, 1) := by decide +kernel
theorem dJx4a65c_grow_d5877_6 : decode cJx4a65c_grow_d5877 6 = .ok (.iadd, 1) := by decide +kernel
theorem dJx4a65c_grow_d5877_7 : decode cJx4a65c_grow_d5877 7 = .ok (.invokevirtual 69, 3) := by decide +kernel
theorem dJx4a65c_grow_d5877_10 : decode cJx4a65c_grow_d5877 10 = .ok (.areturn, 1) := by decide +kernel
theorem dJx4a65c_size_8abf5_0 : decode cJx4a65c_size_8abf5 0 = .ok (.aload_n 0, 1) := by decide +kernel
theorem dJx4a65c_size_8abf5_1 : decode cJx4a65c_size_8abf5 1 = .ok (.getfield 48, 3) := by decide +kernel
theorem dJx4a65c_size_8abf5_4 : decode cJx4a65c_size_8abf5 4 = .ok (.ireturn, 1) := by decide +kernel
theorem dJx4a65c_elementData_915e3_0 : decode cJx4a65c_elementData_915e3 0 = .ok (.aload_n 0, 1) := by decide +kernel
theorem dJx4a65c_elementData_915e3_1 : decode cJx4a65c_elementData_915e3 1 = .ok (.getfield 9, 3) := by decide +kernel
theorem dJx4a65c_elementData_915e3_4 : decode cJx4a65c_elementData_915e3 4 = .ok (.iload_n 1, 1) := by decide +kernel
theorem dJx4a65c_elementData_915e3_5 : decode cJx4a65c_elementData_915e3 5 = .ok (.aaload, 1) := by decide +kernel
theorem dJx4a65c_elementData_915e3_6 : decode cJx4a65c_elementData_915e3 6 = .ok (.areturn, 1) := by decide +kernel
theorem dJx4a65c_get_915e3_0 : decode cJx4a65c_get_915e3 0 = .ok (.iload_n 1, 1) := by decide +kernel
theorem dJx4a65c_get_915e3_1 : decode cJx4a65c_get_915e3 1 = .ok (.aload_n 0, 1) := by decide +kernel
theorem dJx4a65c_get_915e3_2 : decode cJx4a65c_get_915e3 2 = .ok (.getfield 48, 3) := by decide +kernel
theorem dJx4a65c_get_915e3_5 : decode cJx4a65c_get_915e3 5 = .ok (.invokestatic 118, 3) := by decide +kernel
theorem dJx4a65c_get_915e3_8 : decode cJx4a65c_get_915e3 8 = .ok (.pop, 1) := by decide +kernel
theorem dJx4a65c_get_915e3_9 : decode cJx4a65c_get_915e3 9 = .ok (.aload_n 0, 1) := by decide +kernel
theorem dJx4a65c_get_915e3_10 : decode cJx4a65c_get_915e3 10 = .ok (.iload_n 1, 1) := by decide +kernel
theorem dJx4a65c_get_915e3_11 : decode cJx4a65c_get_915e3 11 = .ok (.invokevirtual 123, 3) := by decide +kernel
theorem dJx4a65c_get_915e3_14 : decode cJx4a65c_get_915e3 14 = .ok (.areturn, 1) := by decide +kernel
theorem dJx4a65c_add_72be8_0 : decode cJx4a65c_add_72be8 0 = .ok (.iload_n 3, 1) := by decide +kernel
theorem dJx4a65c_add_72be8_1 : decode cJx4a65c_add_72be8 1 = .ok (.aload_n 2, 1) := by decide +kernel
theorem dJx4a65c_add_72be8_2 : decode cJx4a65c_add_72be8 2 = .ok (.arraylength, 1) := by decide +kernel
theorem dJx4a65c_add_72be8_3 : decode cJx4a65c_add_72be8 3 = .ok (.if_icmp .ne 8, 3) := by decide +kernel
theorem dJx4a65c_add_72be8_6 : decode cJx4a65c_add_72be8 6 = .ok (.aload_n 0, 1) := by decide +kernel
theorem dJx4a65c_add_72be8_7 : decode cJx4a65c_add_72be8 7 = .ok (.invokevirtual 129, 3) := by decide +kernel
theorem dJx4a65c_add_72be8_10 : decode cJx4a65c_add_72be8 10 = .ok (.astore_n 2, 1) := by decide +kernel
theorem dJx4a65c_add_72be8_11 : decode cJx4a65c_add_72be8 11 = .ok (.aload_n 2, 1) := by decide +kernel
theorem dJx4a65c_add_72be8_12 : decode cJx4a65c_add_72be8 12 = .ok (.iload_n 3, 1) := by decide +kernel
theorem dJx4a65c_add_72be8_13 : decode cJx4a65c_add_72be8 13 = .ok (.aload_n 1, 1) := by decide +kernel
theorem dJx4a65c_add_72be8_14 : decode cJx4a65c_add_72be8 14 = .ok (.aastore, 1) := by decide +kernel
theorem dJx4a65c_add_72be8_15 : decode cJx4a65c_add_72be8 15 = .ok (.aload_n 0, 1) := by decide +kernel
theorem dJx4a65c_add_72be8_16 : decode cJx4a65c_add_72be8 16 = .ok (.iload_n 3, 1) := by decide +kernel
theorem dJx4a65c_add_72be8_17 : decode cJx4a65c_add_72be8 17 = .ok (.iconst 1, 1) := by decide +kernel
theorem dJx4a65c_add_72be8_18 : decode cJx4a65c_add_72be8 18 = .ok (.iadd, 1) := by decide +kernel
theorem dJx4a65c_add_72be8_19 : decode cJx4a65c_add_72be8 19 = .ok (.putfield 48, 3) := by decide +kernel
theorem dJx4a65c_add_72be8_22 : decode cJx4a65c_add_72be8 22 = .ok (.return_, 1) := by decide +kernel
theorem dJx4a65c_add_9ea2d_0 : decode cJx4a65c_add_9ea2d 0 = .ok (.aload_n 0, 1) := by decide +kernel
theorem dJx4a65c_add_9ea2d_1 : decode cJx4a65c_add_9ea2d 1 = .ok (.dup, 1) := by decide +kernel
theorem dJx4a65c_add_9ea2d_2 : decode cJx4a65c_add_9ea2d 2 = .ok (.getfield 63, 3) := by decide +kernel
theorem dJx4a65c_add_9ea2d_5 : decode cJx4a65c_add_9ea2d 5 = .ok (.iconst 1, 1) := by decide +kernel
theorem dJx4a65c_add_9ea2d_6 : decode cJx4a65c_add_9ea2d 6 = .ok (.iadd, 1) := by decide +kernel
theorem dJx4a65c_add_9ea2d_7 : decode cJx4a65c_add_9ea2d 7 = .ok (.putfield 63, 3) := by decide +kernel
theorem dJx4a65c_add_9ea2d_10 : decode cJx4a65c_add_9ea2d 10 = .ok (.aload_n 0, 1) := by decide +kernel
theorem dJx4a65c_add_9ea2d_11 : decode cJx4a65c_add_9ea2d 11 = .ok (.aload_n 1, 1) := by decide +kernel
theorem dJx4a65c_add_9ea2d_12 : decode cJx4a65c_add_9ea2d 12 = .ok (.aload_n 0, 1) := by decide +kernel
theorem dJx4a65c_add_9ea2d_13 : decode cJx4a65c_add_9ea2d 13 = .ok (.getfield 9, 3) := by decide +kernel
theorem dJx4a65c_add_9ea2d_16 : decode cJx4a65c_add_9ea2d 16 = .ok (.aload_n 0, 1) := by decide +kernel
theorem dJx4a65c_add_9ea2d_17 : decode cJx4a65c_add_9ea2d 17 = .ok (.getfield 48, 3) := by decide +kernel
theorem dJx4a65c_add_9ea2d_20 : decode cJx4a65c_add_9ea2d 20 = .ok (.invokevirtual 131, 3) := by decide +kernel
theorem dJx4a65c_add_9ea2d_23 : decode cJx4a65c_add_9ea2d 23 = .ok (.iconst 1, 1) := by decide +kernel
theorem dJx4a65c_add_9ea2d_24 : decode cJx4a65c_add_9ea2d 24 = .ok (.ireturn, 1) := by decide +kernel
theorem dJ7_copyOf_1904c_0 : decode cJ7_copyOf_1904c 0 = .ok (.aload_n 0, 1) := by decide +kernel
theorem dJ7_copyOf_1904c_1 : decode cJ7_copyOf_1904c 1 = .ok (.iload_n 1, 1) := by decide +kernel
theorem dJ7_copyOf_1904c_2 : decode cJ7_copyOf_1904c 2 = .ok (.aload_n 0, 1) := by decide +kernel
theorem dJ7_copyOf_1904c_3 : decode cJ7_copyOf_1904c 3 = .ok (.invokevirtual 86, 3) := by decide +kernel
theorem dJ7_copyOf_1904c_6 : decode cJ7_copyOf_1904c 6 = .ok (.invokestatic 300, 3) := by decide +kernel
theorem dJ7_copyOf_1904c_9 : decode cJ7_copyOf_1904c 9 = .ok (.areturn, 1) := by decide +kernel
theorem dJ7_copyOf_6403c_0 : decode cJ7_copyOf_6403c 0 = .ok (.aload_n 2, 1) := by decide +kernel
theorem dJ7_copyOf_6403c_1 : decode cJ7_copyOf_6403c 1 = .ok (.ldc 110, 2) := by decide +kernel
theorem dJ7_copyOf_6403c_3 : decode cJ7_copyOf_6403c 3 = .ok (.if_acmp .ne 10, 3) := by decide +kernel
theorem dJ7_copyOf_6403c_6 : decode cJ7_copyOf_6403c 6 = .ok (.iload_n 1, 1) := by decide +kernel
theorem dJ7_copyOf_6403c_7 : decode cJ7_copyOf_6403c 7 = .ok (.anewarray 2, 3) := by decide +kernel
theorem dJ7_copyOf_6403c_10 : decode cJ7_copyOf_6403c 10 = .ok (.goto 14, 3) := by decide +kernel
theorem dJ7_copyOf_6403c_13 : decode cJ7_copyOf_6403c 13 = .ok (.aload_n 2, 1) := by decide +kernel
theorem dJ7_copyOf_6403c_14 : decode cJ7_copyOf_6403c 14 = .ok (.invokevirtual 90, 3) := by decide +kernel
theorem dJ7_copyOf_6403c_17 : decode cJ7_copyOf_6403c 17 = .ok (.iload_n 1, 1) := by decide +kernel
theorem dJ7_copyOf_6403c_18 : decode cJ7_copyOf_6403c 18 = .ok (.invokestatic 95, 3) := by decide +kernel
theorem dJ7_copyOf_6403c_21 : decode cJ7_copyOf_6403c 21 = .ok (.checkcast 110, 3) := by decide +kernel
theorem dJ7_copyOf_6403c_24 : decode cJ7_copyOf_6403c 24 = .ok (.astore_n 3, 1) := by decide +kernel
theorem dJ7_copyOf_6403c_25 : decode cJ7_copyOf_6403c 25 = .ok (.aload_n 0, 1) := by decide +kernel
theorem dJ7_copyOf_6403c_26 : decode cJ7_copyOf_6403c 26 = .ok (.iconst 0, 1) := by decide +kernel
theorem dJ7_copyOf_6403c_27 : decode cJ7_copyOf_6403c 27 = .ok (.aload_n 3, 1) := by decide +kernel
theorem dJ7_copyOf_6403c_28 : decode cJ7_copyOf_6403c 28 = .ok (.iconst 0, 1) := by decide +kernel
theorem dJ7_copyOf_6403c_29 : decode cJ7_copyOf_6403c 29 = .ok (.aload_n 0, 1) := by decide +kernel
theorem dJ7_copyOf_6403c_30 : decode cJ7_copyOf_6403c 30 = .ok (.arraylength, 1) := by decide +kernel
theorem dJ7_copyOf_6403c_31 : decode cJ7_copyOf_6403c 31 = .ok (.iload_n 1, 1) := by decide +kernel
theorem dJ7_copyOf_6403c_32 : decode cJ7_copyOf_6403c 32 = .ok (.invokestatic 304, 3) := by decide +kernel
theorem dJ7_copyOf_6403c_35 : decode cJ7_copyOf_6403c 35 = .ok (.invokestatic 150, 3) := by decide +kernel
theorem dJ7_copyOf_6403c_38 : decode cJ7_copyOf_6403c 38 = .ok (.aload_n 3, 1) := by decide +kernel
theorem dJ7_copyOf_6403c_39 : decode cJ7_copyOf_6403c 39 = .ok (.areturn, 1) := by decide +kernel
theorem dJ15_checkIndex_7cf53_0 : decode cJ15_checkIndex_7cf53 0 = .ok (.iload_n 0, 1) := by decide +kernel
theorem dJ15_checkIndex_7cf53_1 : decode cJ15_checkIndex_7cf53 1 = .ok (.iload_n 1, 1) := by decide +kernel
theorem dJ15_checkIndex_7cf53_2 : decode cJ15_checkIndex_7cf53 2 = .ok (.aconst_null, 1) := by decide +kernel
theorem dJ15_checkIndex_7cf53_3 : decode cJ15_checkIndex_7cf53 3 = .ok (.invokestatic 105, 3) := by decide +kernel
theorem dJ15_checkIndex_7cf53_6 : decode cJ15_checkIndex_7cf53 6 = .ok (.ireturn, 1) := by decide +kernel
theorem dJ8_newLength_cabcc_0 : decode cJ8_newLength_cabcc 0 = .ok (.iload_n 0, 1) := by decide +kernel
theorem dJ8_newLength_cabcc_1 : decode cJ8_newLength_cabcc 1 = .ok (.iload_n 1, 1) := by decide +kernel
theorem dJ8_newLength_cabcc_2 : decode cJ8_newLength_cabcc 2 = .ok (.iload_n 2, 1) := by decide +kernel
theorem dJ8_newLength_cabcc_3 : decode cJ8_newLength_cabcc 3 = .ok (.invokestatic 194, 3) := by decide +kernel
theorem dJ8_newLength_cabcc_6 : decode cJ8_newLength_cabcc 6 = .ok (.iadd, 1) := by decide +kernel
theorem dJ8_newLength_cabcc_7 : decode cJ8_newLength_cabcc 7 = .ok (.istore_n 3, 1) := by decide +kernel
theorem dJ8_newLength_cabcc_8 : decode cJ8_newLength_cabcc 8 = .ok (.iconst 0, 1) := by decide +kernel
theorem dJ8_newLength_cabcc_9 : decode cJ8_newLength_cabcc 9 = .ok (.iload_n 3, 1) := by decide +kernel
theorem dJ8_newLength_cabcc_10 : decode cJ8_newLength_cabcc 10 = .ok (.if_icmp .ge 11, 3) := by decide +kernel
theorem dJ8_newLength_cabcc_13 : decode cJ8_newLength_cabcc 13 = .ok (.iload_n 3, 1) := by decide +kernel
theorem dJ8_newLength_cabcc_14 : decode cJ8_newLength_cabcc 14 = .ok (.ldc 200, 2) := by decide +kernel
theorem dJ8_newLength_cabcc_16 : decode cJ8_newLength_cabcc 16 = .ok (.if_icmp .gt 5, 3) := by decide +kernel
theorem dJ8_newLength_cabcc_19 : decode cJ8_newLength_cabcc 19 = .ok (.iload_n 3, 1) := by decide +kernel
theorem dJ8_newLength_cabcc_20 : decode cJ8_newLength_cabcc 20 = .ok (.ireturn, 1) := by decide +kernel
theorem dJ8_newLength_cabcc_21 : decode cJ8_newLength_cabcc 21 = .ok (.iload_n 0, 1) := by decide +kernel
theorem dJ8_newLength_cabcc_22 : decode cJ8_newLength_cabcc 22 = .ok (.iload_n 1, 1) := by decide +kernel
theorem dJ8_newLength_cabcc_23 : decode cJ8_newLength_cabcc 23 = .ok (.invokestatic 201, 3) := by decide +kernel
theorem dJ8_newLength_cabcc_26 : decode cJ8_newLength_cabcc 26 = .ok (.ireturn, 1) := by decide +kernel
theorem dJ8_hugeLength_7cf53_0 : decode cJ8_hugeLength_7cf53 0 = .ok (.iload_n 0, 1) := by decide +kernel
theorem dJ8_hugeLength_7cf53_1 : decode cJ8_hugeLength_7cf53 1 = .ok (.iload_n 1, 1) := by decide +kernel
theorem dJ8_hugeLength_7cf53_2 : decode cJ8_hugeLength_7cf53 2 = .ok (.iadd, 1) := by decide +kernel
theorem dJ8_hugeLength_7cf53_3 : decode cJ8_hugeLength_7cf53 3 = .ok (.istore_n 2, 1) := by decide +kernel
theorem dJ8_hugeLength_7cf53_4 : decode cJ8_hugeLength_7cf53 4 = .ok (.iload_n 2, 1) := by decide +kernel
theorem dJ8_hugeLength_7cf53_5 : decode cJ8_hugeLength_7cf53 5 = .ok (.ifCond .ge 44, 3) := by decide +kernel
theorem dJ8_hugeLength_7cf53_8 : decode cJ8_hugeLength_7cf53 8 = .ok (.new 204, 3) := by decide +kernel
theorem dJ8_hugeLength_7cf53_11 : decode cJ8_hugeLength_7cf53 11 = .ok (.dup, 1) := by decide +kernel
theorem dJ8_hugeLength_7cf53_12 : decode cJ8_hugeLength_7cf53 12 = .ok (.new 89, 3) := by decide +kernel
theorem dJ8_hugeLength_7cf53_15 : decode cJ8_hugeLength_7cf53 15 = .ok (.dup, 1) := by decide +kernel
theorem dJ8_hugeLength_7cf53_16 : decode cJ8_hugeLength_7cf53 16 = .ok (.invokespecial 91, 3) := by decide +kernel
theorem dJ8_hugeLength_7cf53_19 : decode cJ8_hugeLength_7cf53 19 = .ok (.ldc 206, 2) := by decide +kernel
theorem dJ8_hugeLength_7cf53_21 : decode cJ8_hugeLength_7cf53 21 = .ok (.invokevirtual 94, 3) := by decide +kernel
theorem dJ8_hugeLength_7cf53_24 : decode cJ8_hugeLength_7cf53 24 = .ok (.iload_n 0, 1) := by decide +kernel
theorem dJ8_hugeLength_7cf53_25 : decode cJ8_hugeLength_7cf53 25 = .ok (.invokevirtual 98, 3) := by decide +kernel
theorem dJ8_hugeLength_7cf53_28 : decode cJ8_hugeLength_7cf53 28 = .ok (.ldc 208, 2) := by decide +kernel
theorem dJ8_hugeLength_7cf53_30 : decode cJ8_hugeLength_7cf53 30 = .ok (.invokevirtual 94, 3) := by decide +kernel
theorem dJ8_hugeLength_7cf53_33 : decode cJ8_hugeLength_7cf53 33 = .ok (.iload_n 1, 1) := by decide +kernel
theorem dJ8_hugeLength_7cf53_34 : decode cJ8_hugeLength_7cf53 34 = .ok (.invokevirtual 98, 3) := by decide +kernel
theorem dJ8_hugeLength_7cf53_37 : decode cJ8_hugeLength_7cf53 37 = .ok (.ldc 210, 2) := by decide +kernel
theorem dJ8_hugeLength_7cf53_39 : decode cJ8_hugeLength_7cf53 39 = .ok (.invokevirtual 94, 3) := by decide +kernel
theorem dJ8_hugeLength_7cf53_42 : decode cJ8_hugeLength_7cf53 42 = .ok (.invokevirtual 101, 3) := by decide +kernel
theorem dJ8_hugeLength_7cf53_45 : decode cJ8_hugeLength_7cf53 45 = .ok (.invokespecial 212, 3) := by decide +kernel
theorem dJ8_hugeLength_7cf53_48 : decode cJ8_hugeLength_7cf53 48 = .ok (.athrow, 1) := by decide +kernel
theorem dJ8_hugeLength_7cf53_49 : decode cJ8_hugeLength_7cf53 49 = .ok (.iload_n 2, 1) := by decide +kernel
theorem dJ8_hugeLength_7cf53_50 : decode cJ8_hugeLength_7cf53 50 = .ok (.ldc 200, 2) := by decide +kernel
theorem dJ8_hugeLength_7cf53_52 : decode cJ8_hugeLength_7cf53 52 = .ok (.if_icmp .gt 6, 3) := by decide +kernel
theorem dJ8_hugeLength_7cf53_55 : decode cJ8_hugeLength_7cf53 55 = .ok (.ldc 200, 2) := by decide +kernel
theorem dJ8_hugeLength_7cf53_57 : decode cJ8_hugeLength_7cf53 57 = .ok (.ireturn, 1) := by decide +kernel
theorem dJ8_hugeLength_7cf53_58 : decode cJ8_hugeLength_7cf53 58 = .ok (.iload_n 2, 1) := by decide +kernel
theorem dJ8_hugeLength_7cf53_59 : decode cJ8_hugeLength_7cf53 59 = .ok (.ireturn, 1) := by decide +kernel
theorem dJ3_checkIndex_8e157_0 : decode cJ3_checkIndex_8e157 0 = .ok (.iload_n 0, 1) := by decide +kernel
theorem dJ3_checkIndex_8e157_1 : decode cJ3_checkIndex_8e157 1 = .ok (.ifCond .lt 8, 3) := by decide +kernel
theorem dJ3_checkIndex_8e157_4 : decode cJ3_checkIndex_8e157 4 = .ok (.iload_n 0, 1) := by decide +kernel
theorem dJ3_checkIndex_8e157_5 : decode cJ3_checkIndex_8e157 5 = .ok (.iload_n 1, 1) := by decide +kernel
theorem dJ3_checkIndex_8e157_6 : decode cJ3_checkIndex_8e157 6 = .ok (.if_icmp .lt 10, 3) := by decide +kernel
theorem dJ3_checkIndex_8e157_9 : decode cJ3_checkIndex_8e157 9 = .ok (.aload_n 2, 1) := by decide +kernel
theorem dJ3_checkIndex_8e157_10 : decode cJ3_checkIndex_8e157 10 = .ok (.iload_n 0, 1) := by decide +kernel
theorem dJ3_checkIndex_8e157_11 : decode cJ3_checkIndex_8e157 11 = .ok (.iload_n 1, 1) := by decide +kernel
theorem dJ3_checkIndex_8e157_12 : decode cJ3_checkIndex_8e157 12 = .ok (.invokestatic 95, 3) := by decide +kernel
theorem dJ3_checkIndex_8e157_15 : decode cJ3_checkIndex_8e157 15 = .ok (.athrow, 1) := by decide +kernel
theorem dJ3_checkIndex_8e157_16 : decode cJ3_checkIndex_8e157 16 = .ok (.iload_n 0, 1) := by decide +kernel
theorem dJ3_checkIndex_8e157_17 : decode cJ3_checkIndex_8e157 17 = .ok (.ireturn, 1) := by decide +kernel
end
section
theorem dX8_init_0 : decode cX8_init 0 = .ok (.aload_n 0, 1) := by decide +kernel
theorem dX8_init_1 : decode cX8_init 1 = .ok (.invokespecial 1, 3) := by decide +kernel
theorem dX8_init_4 : decode cX8_init 4 = .ok (.aload_n 0, 1) := by decide +kernel
theorem dX8_init_5 : decode cX8_init 5 = .ok (.bipush 100, 2) := by decide +kernel
theorem dX8_init_7 : decode cX8_init 7 = .ok (.putfield 7, 3) := by decide +kernel
theorem dX8_init_10 : decode cX8_init 10 = .ok (.aload_n 0, 1) := by decide +kernel
theorem dX8_init_11 : decode cX8_init 11 = .ok (.iconst 3, 1) := by decide +kernel
theorem dX8_init_12 : decode cX8_init 12 = .ok (.putfield 13, 3) := by decide +kernel
theorem dX8_init_15 : decode cX8_init 15 = .ok (.aload_n 0, 1) := by decide +kernel
theorem dX8_init_16 : decode cX8_init 16 = .ok (.bipush 7, 2) := by decide +kernel
theorem dX8_init_18 : decode cX8_init 18 = .ok (.putfield 16, 3) := by decide +kernel
theorem dX8_init_21 : decode cX8_init 21 = .ok (.aload_n 0, 1) := by decide +kernel
theorem dX8_init_22 : decode cX8_init 22 = .ok (.bipush 10, 2) := by decide +kernel
theorem dX8_init_24 : decode cX8_init 24 = .ok (.putfield 19, 3) := by decide +kernel
theorem dX8_init_27 : decode cX8_init 27 = .ok (.aload_n 0, 1) := by decide +kernel
theorem dX8_init_28 : decode cX8_init 28 = .ok (.bipush 50, 2) := by decide +kernel
theorem dX8_init_30 : decode cX8_init 30 = .ok (.putfield 22, 3) := by decide +kernel
theorem dX8_init_33 : decode cX8_init 33 = .ok (.aload_n 0, 1) := by decide +kernel
theorem dX8_init_34 : decode cX8_init 34 = .ok (.bipush 40, 2) := by decide +kernel
theorem dX8_init_36 : decode cX8_init 36 = .ok (.newarray .int, 2) := by decide +kernel
theorem dX8_init_38 : decode cX8_init 38 = .ok (.putfield 25, 3) := by decide +kernel
theorem dX8_init_41 : decode cX8_init 41 = .ok (.aload_n 0, 1) := by decide +kernel
theorem dX8_init_42 : decode cX8_init 42 = .ok (.bipush 40, 2) := by decide +kernel
theorem dX8_init_44 : decode cX8_init 44 = .ok (.newarray .int, 2) := by decide +kernel
theorem dX8_init_46 : decode cX8_init 46 = .ok (.putfield 29, 3) := by decide +kernel
theorem dX8_init_49 : decode cX8_init 49 = .ok (.aload_n 0, 1) := by decide +kernel
theorem dX8_init_50 : decode cX8_init 50 = .ok (.bipush 40, 2) := by decide +kernel
theorem dX8_init_52 : decode cX8_init 52 = .ok (.newarray .int, 2) := by decide +kernel
theorem dX8_init_54 : decode cX8_init 54 = .ok (.putfield 32, 3) := by decide +kernel
theorem dX8_init_57 : decode cX8_init 57 = .ok (.aload_n 0, 1) := by decide +kernel
theorem dX8_init_58 : decode cX8_init 58 = .ok (.bipush 12, 2) := by decide +kernel
theorem dX8_init_60 : decode cX8_init 60 = .ok (.newarray .int, 2) := by decide +kernel
theorem dX8_init_62 : decode cX8_init 62 = .ok (.putfield 35, 3) := by decide +kernel
theorem dX8_init_65 : decode cX8_init 65 = .ok (.aload_n 0, 1) := by decide +kernel
theorem dX8_init_66 : decode cX8_init 66 = .ok (.bipush 12, 2) := by decide +kernel
theorem dX8_init_68 : decode cX8_init 68 = .ok (.newarray .int, 2) := by decide +kernel
theorem dX8_init_70 : decode cX8_init 70 = .ok (.putfield 38, 3) := by decide +kernel
theorem dX8_init_73 : decode cX8_init 73 = .ok (.aload_n 0, 1) := by decide +kernel
theorem dX8_init_74 : decode cX8_init 74 = .ok (.bipush 12, 2) := by decide +kernel
theorem dX8_init_76 : decode cX8_init 76 = .ok (.newarray .int, 2) := by decide +kernel
theorem dX8_init_78 : decode cX8_init 78 = .ok (.putfield 41, 3) := by decide +kernel
theorem dX8_init_81 : decode cX8_init 81 = .ok (.aload_n 0, 1) := by decide +kernel
theorem dX8_init_82 : decode cX8_init 82 = .ok (.bipush 12, 2) := by decide +kernel
theorem dX8_init_84 : decode cX8_init 84 = .ok (.newarray .int, 2) := by decide +kernel
theorem dX8_init_86 : decode cX8_init 86 = .ok (.putfield 44, 3) := by decide +kernel
theorem dX8_init_89 : decode cX8_init 89 = .ok (.aload_n 0, 1) := by decide +kernel
theorem dX8_init_90 : decode cX8_init 90 = .ok (.bipush 12, 2) := by decide +kernel
theorem dX8_init_92 : decode cX8_init 92 = .ok (.newarray .int, 2) := by decide +kernel
theorem dX8_init_94 : decode cX8_init 94 = .ok (.putfield 47, 3) := by decide +kernel
theorem dX8_init_97 : decode cX8_init 97 = .ok (.aload_n 0, 1) := by decide +kernel
theorem dX8_init_98 : decode cX8_init 98 = .ok (.bipush 12, 2) := by decide +kernel
theorem dX8_init_100 : decode cX8_init 100 = .ok (.newarray .int, 2) := by decide +kernel
theorem dX8_init_102 : decode cX8_init 102 = .ok (.putfield 50, 3) := by decide +kernel
theorem dX8_init_105 : decode cX8_init 105 = .ok (.aload_n 0, 1) := by decide +kernel
theorem dX8_init_106 : decode cX8_init 106 = .ok (.bipush 12, 2) := by decide +kernel
theorem dX8_init_108 : decode cX8_init 108 = .ok (.newarray .int, 2) := by decide +kernel
theorem dX8_init_110 : decode cX8_init 110 = .ok (.putfield 53, 3) := by decide +kernel
theorem dX8_init_113 : decode cX8_init 113 = .ok (.aload_n 0, 1) := by decide +kernel
theorem dX8_init_114 : decode cX8_init 114 = .ok (.sipush 144, 3) := by decide +kernel
theorem dX8_init_117 : decode cX8_init 117 = .ok (.newarray .int, 2) := by decide +kernel
theorem dX8_init_119 : decode cX8_init 119 = .ok (.putfield 56, 3) := by decide +kernel
theorem dX8_init_122 : decode cX8_init 122 = .ok (.aload_n 0, 1) := by decide +kernel
theorem dX8_init_123 : decode cX8_init 123 = .ok (.bipush 30, 2) := by decide +kernel
theorem dX8_init_125 : decode cX8_init 125 = .ok (.newarray .int, 2) := by decide +kernel
theorem dX8_init_127 : decode cX8_init 127 = .ok (.putfield 59, 3) := by decide +kernel
theorem dX8_init_130 : decode cX8_init 130 = .ok (.aload_n 0, 1) := by decide +kernel
theorem dX8_init_131 : decode cX8_init 131 = .ok (.bipush 30, 2) := by decide +kernel
theorem dX8_init_133 : decode cX8_init 133 = .ok (.newarray .int, 2) := by decide +kernel
theorem dX8_init_135 : decode cX8_init 135 = .ok (.putfield 62, 3) := by decide +kernel
theorem dX8_init_138 : decode cX8_init 138 = .ok (.aload_n 0, 1) := by decide +kernel
theorem dX8_init_139 : decode cX8_init 139 = .ok (.bipush 30, 2) := by decide +kernel
theorem dX8_init_141 : decode cX8_init 141 = .ok (.newarray .int, 2) := by decide +kernel
theorem dX8_init_143 : decode cX8_init 143 = .ok (.putfield 65, 3) := by decide +kernel
theorem dX8_init_146 : decode cX8_init 146 = .ok (.aload_n 0, 1) := by decide +kernel
theorem dX8_init_147 : decode cX8_init 147 = .ok (.bipush 30, 2) := by decide +kernel
theorem dX8_init_149 : decode cX8_init 149 = .ok (.newarray .boolean, 2) := by decide +kernel
theorem dX8_init_151 : decode cX8_init 151 = .ok (.putfield 68, 3) := by decide +kernel
theorem dX8_init_154 : decode cX8_init 154 = .ok (.aload_n 0, 1) := by decide +kernel
theorem dX8_init_155 : decode cX8_init 155 = .ok (.bipush 30, 2) := by decide +kernel
theorem dX8_init_157 : decode cX8_init 157 = .ok (.newarray .int, 2) := by decide +kernel
theorem dX8_init_159 : decode cX8_init 159 = .ok (.putfield 72, 3) := by decide +kernel
theorem dX8_init_162 : decode cX8_init 162 = .ok (.aload_n 0, 1) := by decide +kernel
theorem dX8_init_163 : decode cX8_init 163 = .ok (.bipush 30, 2) := by decide +kernel
theorem dX8_init_165 : decode cX8_init 165 = .ok (.newarray .int, 2) := by decide +kernel
theorem dX8_init_167 : decode cX8_init 167 = .ok (.putfield 75, 3) := by decide +kernel
theorem dX8_init_170 : decode cX8_init 170 = .ok (.aload_n 0, 1) := by decide +kernel
theorem dX8_init_171 : decode cX8_init 171 = .ok (.bipush 30, 2) := by decide +kernel
theorem dX8_init_173 : decode cX8_init 173 = .ok (.newarray .boolean, 2) := by decide +kernel
theorem dX8_init_175 : decode cX8_init 175 = .ok (.putfield 78, 3) := by decide +kernel
theorem dX8_init_178 : decode cX8_init 178 = .ok (.aload_n 0, 1) := by decide +kernel
theorem dX8_init_179 : decode cX8_init 179 = .ok (.bipush 30, 2) := by decide +kernel
theorem dX8_init_181 : decode cX8_init 181 = .ok (.newarray .int, 2) := by decide +kernel
theorem dX8_init_183 : decode cX8_init 183 = .ok (.putfield 81, 3) := by decide +kernel
theorem dX8_init_186 : decode cX8_init 186 = .ok (.aload_n 0, 1) := by decide +kernel
theorem dX8_init_187 : decode cX8_init 187 = .ok (.bipush 30, 2) := by decide +kernel
theorem dX8_init_189 : decode cX8_init 189 = .ok (.newarray .int, 2) := by decide +kernel
theorem dX8_init_191 : decode cX8_init 191 = .ok (.putfield 84, 3) := by decide +kernel
theorem dX8_init_194 : decode cX8_init 194 = .ok (.aload_n 0, 1) := by decide +kernel
theorem dX8_init_195 : decode cX8_init 195 = .ok (.bipush 30, 2) := by decide +kernel
theorem dX8_init_197 : decode cX8_init 197 = .ok (.newarray .int, 2) := by decide +kernel
theorem dX8_init_199 : decode cX8_init 199 = .ok (.putfield 87, 3) := by decide +kernel
theorem dX8_init_202 : decode cX8_init 202 = .ok (.aload_n 0, 1) := by decide +kernel
theorem dX8_init_203 : decode cX8_init 203 = .ok (.bipush 30, 2) := by decide +kernel
theorem dX8_init_205 : decode cX8_init 205 = .ok (.newarray .int, 2) := by decide +kernel
theorem dX8_init_207 : decode cX8_init 207 = .ok (.putfield 90, 3) := by decide +kernel
theorem dX8_init_210 : decode cX8_init 210 = .ok (.aload_n 0, 1) := by decide +kernel
theorem dX8_init_211 : decode cX8_init 211 = .ok (.bipush 20, 2) := by decide +kernel
theorem dX8_init_213 : decode cX8_init 213 = .ok (.newarray .int, 2) := by decide +kernel
theorem dX8_init_215 : decode cX8_init 215 = .ok (.putfield 93, 3) := by decide +kernel
theorem dX8_init_218 : decode cX8_init 218 = .ok (.aload_n 0, 1) := by decide +kernel
theorem dX8_init_219 : decode cX8_init 219 = .ok (.bipush 20, 2) := by decide +kernel
theorem dX8_init_221 : decode cX8_init 221 = .ok (.newarray .int, 2) := by decide +kernel
theorem dX8_init_223 : decode cX8_init 223 = .ok (.putfield 96, 3) := by decide +kernel
theorem dX8_init_226 : decode cX8_init 226 = .ok (.aload_n 0, 1) := by decide +kernel
theorem dX8_init_227 : decode cX8_init 227 = .ok (.bipush 20, 2) := by decide +kernel
theorem dX8_init_229 : decode cX8_init 229 = .ok (.newarray .int, 2) := by decide +kernel
theorem dX8_init_231 : decode cX8_init 231 = .ok (.putfield 99, 3) := by decide +kernel
theorem dX8_init_234 : decode cX8_init 234 = .ok (.aload_n 0, 1) := by decide +kernel
theorem dX8_init_235 : decode cX8_init 235 = .ok (.bipush 20, 2) := by decide +kernel
theorem dX8_init_237 : decode cX8_init 237 = .ok (.newarray .int, 2) := by decide +kernel
theorem dX8_init_239 : decode cX8_init 239 = .ok (.putfield 102, 3) := by decide +kernel
theorem dX8_init_242 : decode cX8_init 242 = .ok (.aload_n 0, 1) := by decide +kernel
theorem dX8_init_243 : decode cX8_init 243 = .ok (.sipush 600, 3) := by decide +kernel
theorem dX8_init_246 : decode cX8_init 246 = .ok (.newarray .int, 2) := by decide +kernel
theorem dX8_init_248 : decode cX8_init 248 = .ok (.putfield 105, 3) := by decide +kernel
theorem dX8_init_251 : decode cX8_init 251 = .ok (.aload_n 0, 1) := by decide +kernel
theorem dX8_init_252 : decode cX8_init 252 = .ok (.sipush 600, 3) := by decide +kernel
theorem dX8_init_255 : decode cX8_init 255 = .ok (.newarray .int, 2) := by decide +kernel
theorem dX8_init_257 : decode cX8_init 257 = .ok (.putfield 108, 3) := by decide +kernel
theorem dX8_init_260 : decode cX8_init 260 = .ok (.aload_n 0, 1) := by decide +kernel
theorem dX8_init_261 : decode cX8_init 261 = .ok (.sipush 600, 3) := by decide +kernel
theorem dX8_init_264 : decode cX8_init 264 = .ok (.newarray .int, 2) := by decide +kernel
theorem dX8_init_266 : decode cX8_init 266 = .ok (.putfield 111, 3) := by decide +kernel
theorem dX8_init_269 : decode cX8_init 269 = .ok (.aload_n 0, 1) := by decide +kernel
theorem dX8_init_270 : decode cX8_init 270 = .ok (.iconst 5, 1) := by decide +kernel
theorem dX8_init_271 : decode cX8_init 271 = .ok (.newarray .int, 2) := by decide +kernel
theorem dX8_init_273 : decode cX8_init 273 = .ok (.putfield 114, 3) := by decide +kernel
theorem dX8_init_276 : decode cX8_init 276 = .ok (.aload_n 0, 1) := by decide +kernel
theorem dX8_init_277 : decode cX8_init 277 = .ok (.iconst 5, 1) := by decide +kernel
theorem dX8_init_278 : decode cX8_init 278 = .ok (.newarray .int, 2) := by decide +kernel
theorem dX8_init_280 : decode cX8_init 280 = .ok (.putfield 117, 3) := by decide +kernel
theorem dX8_init_283 : decode cX8_init 283 = .ok (.return_, 1) := by decide +kernel
theorem dX8_thrown_0 : decode cX8_thrown 0 = .ok (.aload_n 0, 1) := by decide +kernel
theorem dX8_thrown_1 : decode cX8_thrown 1 = .ok (.getfield 120, 3) := by decide +kernel
theorem dX8_thrown_4 : decode cX8_thrown 4 = .ok (.ireturn, 1) := by decide +kernel
theorem dX8_holdsTo_0 : decode cX8_holdsTo 0 = .ok (.aload_n 0, 1) := by decide +kernel
theorem dX8_holdsTo_1 : decode cX8_holdsTo 1 = .ok (.iload_n 1, 1) := by decide +kernel
theorem dX8_holdsTo_2 : decode cX8_holdsTo 2 = .ok (.putfield 120, 3) := by decide +kernel
theorem dX8_holdsTo_5 : decode cX8_holdsTo 5 = .ok (.iload_n 1, 1) := by decide +kernel
theorem dX8_holdsTo_6 : decode cX8_holdsTo 6 = .ok (.ifCond .ne 7, 3) := by decide +kernel
theorem dX8_holdsTo_9 : decode cX8_holdsTo 9 = .ok (.iconst 1, 1) := by decide +kernel
theorem dX8_holdsTo_10 : decode cX8_holdsTo 10 = .ok (.goto 4, 3) := by decide +kernel
theorem dX8_holdsTo_13 : decode cX8_holdsTo 13 = .ok (.iconst 0, 1) := by decide +kernel
theorem dX8_holdsTo_14 : decode cX8_holdsTo 14 = .ok (.ireturn, 1) := by decide +kernel
theorem dX8_isIn_0 : decode cX8_isIn 0 = .ok (.iload_n 0, 1) := by decide +kernel
theorem dX8_isIn_1 : decode cX8_isIn 1 = .ok (.iload_n 1, 1) := by decide +kernel
theorem dX8_isIn_2 : decode cX8_isIn 2 = .ok (.if_icmp .lt 12, 3) := by decide +kernel
theorem dX8_isIn_5 : decode cX8_isIn 5 = .ok (.iload_n 0, 1) := by decide +kernel
theorem dX8_isIn_6 : decode cX8_isIn 6 = .ok (.iload_n 2, 1) := by decide +kernel
theorem dX8_isIn_7 : decode cX8_isIn 7 = .ok (.if_icmp .gt 7, 3) := by decide +kernel
theorem dX8_isIn_10 : decode cX8_isIn 10 = .ok (.iconst 1, 1) := by decide +kernel
theorem dX8_isIn_11 : decode cX8_isIn 11 = .ok (.goto 4, 3) := by decide +kernel
theorem dX8_isIn_14 : decode cX8_isIn 14 = .ok (.iconst 0, 1) := by decide +kernel
theorem dX8_isIn_15 : decode cX8_isIn 15 = .ok (.ireturn, 1) := by decide +kernel
theorem dX8_lesser_0 : decode cX8_lesser 0 = .ok (.iload_n 0, 1) := by decide +kernel
theorem dX8_lesser_1 : decode cX8_lesser 1 = .ok (.iload_n 1, 1) := by decide +kernel
theorem dX8_lesser_2 : decode cX8_lesser 2 = .ok (.if_icmp .ge 7, 3) := by decide +kernel
theorem dX8_lesser_5 : decode cX8_lesser 5 = .ok (.iload_n 0, 1) := by decide +kernel
theorem dX8_lesser_6 : decode cX8_lesser 6 = .ok (.goto 4, 3) := by decide +kernel
theorem dX8_lesser_9 : decode cX8_lesser 9 = .ok (.iload_n 1, 1) := by decide +kernel
theorem dX8_lesser_10 : decode cX8_lesser 10 = .ok (.ireturn, 1) := by decide +kernel
theorem dX8_isCell_0 : decode cX8_isCell 0 = .ok (.iload_n 0, 1) := by decide +kernel
theorem dX8_isCell_1 : decode cX8_isCell 1 = .ok (.iconst 0, 1) := by decide +kernel
theorem dX8_isCell_2 : decode cX8_isCell 2 = .ok (.bipush 39, 2) := by decide +kernel
theorem dX8_isCell_4 : decode cX8_isCell 4 = .ok (.invokestatic 123, 3) := by decide +kernel
theorem dX8_isCell_7 : decode cX8_isCell 7 = .ok (.ireturn, 1) := by decide +kernel
theorem dX8_isMiner_0 : decode cX8_isMiner 0 = .ok (.iload_n 1, 1) := by decide +kernel
theorem dX8_isMiner_1 : decode cX8_isMiner 1 = .ok (.iconst 0, 1) := by decide +kernel
theorem dX8_isMiner_2 : decode cX8_isMiner 2 = .ok (.aload_n 0, 1) := by decide +kernel
theorem dX8_isMiner_3 : decode cX8_isMiner 3 = .ok (.getfield 127, 3) := by decide +kernel
theorem dX8_isMiner_6 : decode cX8_isMiner 6 = .ok (.iconst 1, 1) := by decide +kernel
theorem dX8_isMiner_7 : decode cX8_isMiner 7 = .ok (.isub, 1) := by decide +kernel
theorem dX8_isMiner_8 : decode cX8_isMiner 8 = .ok (.invokestatic 123, 3) := by decide +kernel
theorem dX8_isMiner_11 : decode cX8_isMiner 11 = .ok (.ireturn, 1) := by decide +kernel
theorem dX8_isDead_0 : decode cX8_isDead 0 = .ok (.aload_n 0, 1) := by decide +kernel
theorem dX8_isDead_1 : decode cX8_isDead 1 = .ok (.getfield 47, 3) := by decide +kernel
theorem dX8_isDead_4 : decode cX8_isDead 4 = .ok (.iload_n 1, 1) := by decide +kernel
theorem dX8_isDead_5 : decode cX8_isDead 5 = .ok (.iaload, 1) := by decide +kernel
theorem dX8_isDead_6 : decode cX8_isDead 6 = .ok (.ifCond .ne 7, 3) := by decide +kernel
theorem dX8_isDead_9 : decode cX8_isDead 9 = .ok (.iconst 1, 1) := by decide +kernel
theorem dX8_isDead_10 : decode cX8_isDead 10 = .ok (.goto 4, 3) := by decide +kernel
theorem dX8_isDead_13 : decode cX8_isDead 13 = .ok (.iconst 0, 1) := by decide +kernel
theorem dX8_isDead_14 : decode cX8_isDead 14 = .ok (.ireturn, 1) := by decide +kernel
theorem dX8_isClaim_0 : decode cX8_isClaim 0 = .ok (.iload_n 1, 1) := by decide +kernel
theorem dX8_isClaim_1 : decode cX8_isClaim 1 = .ok (.iconst 0, 1) := by decide +kernel
theorem dX8_isClaim_2 : decode cX8_isClaim 2 = .ok (.aload_n 0, 1) := by decide +kernel
theorem dX8_isClaim_3 : decode cX8_isClaim 3 = .ok (.getfield 130, 3) := by decide +kernel
theorem dX8_isClaim_6 : decode cX8_isClaim 6 = .ok (.iconst 1, 1) := by decide +kernel
theorem dX8_isClaim_7 : decode cX8_isClaim 7 = .ok (.isub, 1) := by decide +kernel
theorem dX8_isClaim_8 : decode cX8_isClaim 8 = .ok (.invokestatic 123, 3) := by decide +kernel
theorem dX8_isClaim_11 : decode cX8_isClaim 11 = .ok (.ireturn, 1) := by decide +kernel
theorem dX8_isMethod_0 : decode cX8_isMethod 0 = .ok (.iload_n 0, 1) := by decide +kernel
theorem dX8_isMethod_1 : decode cX8_isMethod 1 = .ok (.iconst 0, 1) := by decide +kernel
theorem dX8_isMethod_2 : decode cX8_isMethod 2 = .ok (.iconst 3, 1) := by decide +kernel
theorem dX8_isMethod_3 : decode cX8_isMethod 3 = .ok (.invokestatic 123, 3) := by decide +kernel
theorem dX8_isMethod_6 : decode cX8_isMethod 6 = .ok (.ireturn, 1) := by decide +kernel
theorem dX8_ground_0 : decode cX8_ground 0 = .ok (.iload_n 2, 1) := by decide +kernel
theorem dX8_ground_1 : decode cX8_ground 1 = .ok (.iconst 0, 1) := by decide +kernel
theorem dX8_ground_2 : decode cX8_ground 2 = .ok (.ldc 133, 2) := by decide +kernel
theorem dX8_ground_4 : decode cX8_ground 4 = .ok (.invokestatic 123, 3) := by decide +kernel
theorem dX8_ground_7 : decode cX8_ground 7 = .ok (.ifCond .eq 17, 3) := by decide +kernel
theorem dX8_ground_10 : decode cX8_ground 10 = .ok (.iload_n 3, 1) := by decide +kernel
theorem dX8_ground_11 : decode cX8_ground 11 = .ok (.iconst 0, 1) := by decide +kernel
theorem dX8_ground_12 : decode cX8_ground 12 = .ok (.bipush 9, 2) := by decide +kernel
theorem dX8_ground_14 : decode cX8_ground 14 = .ok (.invokestatic 123, 3) := by decide +kernel
theorem dX8_ground_17 : decode cX8_ground 17 = .ok (.ifCond .eq 7, 3) := by decide +kernel
theorem dX8_ground_20 : decode cX8_ground 20 = .ok (.iconst 1, 1) := by decide +kernel
theorem dX8_ground_21 : decode cX8_ground 21 = .ok (.goto 4, 3) := by decide +kernel
theorem dX8_ground_24 : decode cX8_ground 24 = .ok (.iconst 0, 1) := by decide +kernel
theorem dX8_ground_25 : decode cX8_ground 25 = .ok (.istore 4, 2) := by decide +kernel
theorem dX8_ground_27 : decode cX8_ground 27 = .ok (.aload_n 0, 1) := by decide +kernel
theorem dX8_ground_28 : decode cX8_ground 28 = .ok (.iload_n 1, 1) := by decide +kernel
theorem dX8_ground_29 : decode cX8_ground 29 = .ok (.invokestatic 134, 3) := by decide +kernel
theorem dX8_ground_32 : decode cX8_ground 32 = .ok (.ifCond .ne 7, 3) := by decide +kernel
theorem dX8_ground_35 : decode cX8_ground 35 = .ok (.iconst 1, 1) := by decide +kernel
theorem dX8_ground_36 : decode cX8_ground 36 = .ok (.goto 31, 3) := by decide +kernel
theorem dX8_ground_39 : decode cX8_ground 39 = .ok (.iload 4, 2) := by decide +kernel
theorem dX8_ground_41 : decode cX8_ground 41 = .ok (.ifCond .ne 7, 3) := by decide +kernel
theorem dX8_ground_44 : decode cX8_ground 44 = .ok (.iconst 2, 1) := by decide +kernel
theorem dX8_ground_45 : decode cX8_ground 45 = .ok (.goto 22, 3) := by decide +kernel
theorem dX8_ground_48 : decode cX8_ground 48 = .ok (.aload_n 0, 1) := by decide +kernel
theorem dX8_ground_49 : decode cX8_ground 49 = .ok (.getfield 138, 3) := by decide +kernel
theorem dX8_ground_52 : decode cX8_ground 52 = .ok (.ifCond .gt 10, 3) := by decide +kernel
theorem dX8_ground_55 : decode cX8_ground 55 = .ok (.aload_n 0, 1) := by decide +kernel
theorem dX8_ground_56 : decode cX8_ground 56 = .ok (.getfield 141, 3) := by decide +kernel
theorem dX8_ground_59 : decode cX8_ground 59 = .ok (.ifCond .eq 7, 3) := by decide +kernel
theorem dX8_ground_62 : decode cX8_ground 62 = .ok (.iconst 3, 1) := by decide +kernel
theorem dX8_ground_63 : decode cX8_ground 63 = .ok (.goto 4, 3) := by decide +kernel
theorem dX8_ground_66 : decode cX8_ground 66 = .ok (.iconst 0, 1) := by decide +kernel
theorem dX8_ground_67 : decode cX8_ground 67 = .ok (.invokevirtual 145, 3) := by decide +kernel
theorem dX8_ground_70 : decode cX8_ground 70 = .ok (.ifCond .ne 5, 3) := by decide +kernel
theorem dX8_ground_73 : decode cX8_ground 73 = .ok (.iconst 0, 1) := by decide +kernel
theorem dX8_ground_74 : decode cX8_ground 74 = .ok (.ireturn, 1) := by decide +kernel
theorem dX8_ground_75 : decode cX8_ground 75 = .ok (.aload_n 0, 1) := by decide +kernel
theorem dX8_ground_76 : decode cX8_ground 76 = .ok (.getfield 25, 3) := by decide +kernel
theorem dX8_ground_79 : decode cX8_ground 79 = .ok (.iload_n 1, 1) := by decide +kernel
theorem dX8_ground_80 : decode cX8_ground 80 = .ok (.iaload, 1) := by decide +kernel
theorem dX8_ground_81 : decode cX8_ground 81 = .ok (.istore 5, 2) := by decide +kernel
theorem dX8_ground_83 : decode cX8_ground 83 = .ok (.aload_n 0, 1) := by decide +kernel
theorem dX8_ground_84 : decode cX8_ground 84 = .ok (.getfield 25, 3) := by decide +kernel
theorem dX8_ground_87 : decode cX8_ground 87 = .ok (.iload_n 1, 1) := by decide +kernel
theorem dX8_ground_88 : decode cX8_ground 88 = .ok (.iload_n 2, 1) := by decide +kernel
theorem dX8_ground_89 : decode cX8_ground 89 = .ok (.iastore, 1) := by decide +kernel
theorem dX8_ground_90 : decode cX8_ground 90 = .ok (.aload_n 0, 1) := by decide +kernel
theorem dX8_ground_91 : decode cX8_ground 91 = .ok (.getfield 29, 3) := by decide +kernel
theorem dX8_ground_94 : decode cX8_ground 94 = .ok (.iload_n 1, 1) := by decide +kernel
theorem dX8_ground_95 : decode cX8_ground 95 = .ok (.iload_n 3, 1) := by decide +kernel
theorem dX8_ground_96 : decode cX8_ground 96 = .ok (.iastore, 1) := by decide +kernel
theorem dX8_ground_97 : decode cX8_ground 97 = .ok (.iload 5, 2) := by decide +kernel
theorem dX8_ground_99 : decode cX8_ground 99 = .ok (.ireturn, 1) := by decide +kernel
theorem dX8_flow_0 : decode cX8_flow 0 = .ok (.aload_n 0, 1) := by decide +kernel
theorem dX8_flow_1 : decode cX8_flow 1 = .ok (.iload_n 1, 1) := by decide +kernel
theorem dX8_flow_2 : decode cX8_flow 2 = .ok (.iconst 0, 1) := by decide +kernel
theorem dX8_flow_3 : decode cX8_flow 3 = .ok (.sipush 1000, 3) := by decide +kernel
theorem dX8_flow_6 : decode cX8_flow 6 = .ok (.invokestatic 123, 3) := by decide +kernel
theorem dX8_flow_9 : decode cX8_flow 9 = .ok (.ifCond .eq 7, 3) := by decide +kernel
theorem dX8_flow_12 : decode cX8_flow 12 = .ok (.iconst 0, 1) := by decide +kernel
theorem dX8_flow_13 : decode cX8_flow 13 = .ok (.goto 4, 3) := by decide +kernel
theorem dX8_flow_16 : decode cX8_flow 16 = .ok (.iconst 1, 1) := by decide +kernel
theorem dX8_flow_17 : decode cX8_flow 17 = .ok (.invokevirtual 145, 3) := by decide +kernel
theorem dX8_flow_20 : decode cX8_flow 20 = .ok (.ifCond .ne 5, 3) := by decide +kernel
theorem dX8_flow_23 : decode cX8_flow 23 = .ok (.iconst 0, 1) := by decide +kernel
theorem dX8_flow_24 : decode cX8_flow 24 = .ok (.ireturn, 1) := by decide +kernel
theorem dX8_flow_25 : decode cX8_flow 25 = .ok (.aload_n 0, 1) := by decide +kernel
theorem dX8_flow_26 : decode cX8_flow 26 = .ok (.getfield 7, 3) := by decide +kernel
theorem dX8_flow_29 : decode cX8_flow 29 = .ok (.istore_n 2, 1) := by decide +kernel
theorem dX8_flow_30 : decode cX8_flow 30 = .ok (.aload_n 0, 1) := by decide +kernel
theorem dX8_flow_31 : decode cX8_flow 31 = .ok (.iload_n 1, 1) := by decide +kernel
theorem dX8_flow_32 : decode cX8_flow 32 = .ok (.putfield 7, 3) := by decide +kernel
theorem dX8_flow_35 : decode cX8_flow 35 = .ok (.iload_n 2, 1) := by decide +kernel
theorem dX8_flow_36 : decode cX8_flow 36 = .ok (.ireturn, 1) := by decide +kernel
theorem dX8_miner_0 : decode cX8_miner 0 = .ok (.iload_n 1, 1) := by decide +kernel
theorem dX8_miner_1 : decode cX8_miner 1 = .ok (.iconst 0, 1) := by decide +kernel
theorem dX8_miner_2 : decode cX8_miner 2 = .ok (.sipush 1000, 3) := by decide +kernel
theorem dX8_miner_5 : decode cX8_miner 5 = .ok (.invokestatic 123, 3) := by decide +kernel
theorem dX8_miner_8 : decode cX8_miner 8 = .ok (.ifCond .eq 17, 3) := by decide +kernel
theorem dX8_miner_11 : decode cX8_miner 11 = .ok (.iload_n 2, 1) := by decide +kernel
theorem dX8_miner_12 : decode cX8_miner 12 = .ok (.iconst 0, 1) := by decide +kernel
theorem dX8_miner_13 : decode cX8_miner 13 = .ok (.ldc 133, 2) := by decide +kernel
theorem dX8_miner_15 : decode cX8_miner 15 = .ok (.invokestatic 123, 3) := by decide +kernel
theorem dX8_miner_18 : decode cX8_miner 18 = .ok (.ifCond .eq 7, 3) := by decide +kernel
theorem dX8_miner_21 : decode cX8_miner 21 = .ok (.iconst 1, 1) := by decide +kernel
theorem dX8_miner_22 : decode cX8_miner 22 = .ok (.goto 4, 3) := by decide +kernel
theorem dX8_miner_25 : decode cX8_miner 25 = .ok (.iconst 0, 1) := by decide +kernel
theorem dX8_miner_26 : decode cX8_miner 26 = .ok (.istore_n 3, 1) := by decide +kernel
theorem dX8_miner_27 : decode cX8_miner 27 = .ok (.aload_n 0, 1) := by decide +kernel
theorem dX8_miner_28 : decode cX8_miner 28 = .ok (.iload_n 3, 1) := by decide +kernel
theorem dX8_miner_29 : decode cX8_miner 29 = .ok (.ifCond .ne 7, 3) := by decide +kernel
theorem dX8_miner_32 : decode cX8_miner 32 = .ok (.iconst 1, 1) := by decide +kernel
theorem dX8_miner_33 : decode cX8_miner 33 = .ok (.goto 17, 3) := by decide +kernel
theorem dX8_miner_36 : decode cX8_miner 36 = .ok (.aload_n 0, 1) := by decide +kernel
theorem dX8_miner_37 : decode cX8_miner 37 = .ok (.getfield 127, 3) := by decide +kernel
theorem dX8_miner_40 : decode cX8_miner 40 = .ok (.bipush 12, 2) := by decide +kernel
theorem dX8_miner_42 : decode cX8_miner 42 = .ok (.if_icmp .ne 7, 3) := by decide +kernel
theorem dX8_miner_45 : decode cX8_miner 45 = .ok (.iconst 2, 1) := by decide +kernel
theorem dX8_miner_46 : decode cX8_miner 46 = .ok (.goto 4, 3) := by decide +kernel
theorem dX8_miner_49 : decode cX8_miner 49 = .ok (.iconst 0, 1) := by decide +kernel
theorem dX8_miner_50 : decode cX8_miner 50 = .ok (.invokevirtual 145, 3) := by decide +kernel
theorem dX8_miner_53 : decode cX8_miner 53 = .ok (.ifCond .ne 5, 3) := by decide +kernel
theorem dX8_miner_56 : decode cX8_miner 56 = .ok (.iconst 0, 1) := by decide +kernel
theorem dX8_miner_57 : decode cX8_miner 57 = .ok (.ireturn, 1) := by decide +kernel
theorem dX8_miner_58 : decode cX8_miner 58 = .ok (.aload_n 0, 1) := by decide +kernel
theorem dX8_miner_59 : decode cX8_miner 59 = .ok (.getfield 41, 3) := by decide +kernel
theorem dX8_miner_62 : decode cX8_miner 62 = .ok (.aload_n 0, 1) := by decide +kernel
theorem dX8_miner_63 : decode cX8_miner 63 = .ok (.getfield 127, 3) := by decide +kernel
theorem dX8_miner_66 : decode cX8_miner 66 = .ok (.iload_n 1, 1) := by decide +kernel
theorem dX8_miner_67 : decode cX8_miner 67 = .ok (.iastore, 1) := by decide +kernel
theorem dX8_miner_68 : decode cX8_miner 68 = .ok (.aload_n 0, 1) := by decide +kernel
theorem dX8_miner_69 : decode cX8_miner 69 = .ok (.getfield 44, 3) := by decide +kernel
theorem dX8_miner_72 : decode cX8_miner 72 = .ok (.aload_n 0, 1) := by decide +kernel
theorem dX8_miner_73 : decode cX8_miner 73 = .ok (.getfield 127, 3) := by decide +kernel
theorem dX8_miner_76 : decode cX8_miner 76 = .ok (.iload_n 2, 1) := by decide +kernel
theorem dX8_miner_77 : decode cX8_miner 77 = .ok (.iastore, 1) := by decide +kernel
theorem dX8_miner_78 : decode cX8_miner 78 = .ok (.aload_n 0, 1) := by decide +kernel
theorem dX8_miner_79 : decode cX8_miner 79 = .ok (.getfield 47, 3) := by decide +kernel
theorem dX8_miner_82 : decode cX8_miner 82 = .ok (.aload_n 0, 1) := by decide +kernel
theorem dX8_miner_83 : decode cX8_miner 83 = .ok (.getfield 127, 3) := by decide +kernel
theorem dX8_miner_86 : decode cX8_miner 86 = .ok (.bipush 10, 2) := by decide +kernel
theorem dX8_miner_88 : decode cX8_miner 88 = .ok (.iastore, 1) := by decide +kernel
theorem dX8_miner_89 : decode cX8_miner 89 = .ok (.aload_n 0, 1) := by decide +kernel
theorem dX8_miner_90 : decode cX8_miner 90 = .ok (.getfield 53, 3) := by decide +kernel
theorem dX8_miner_93 : decode cX8_miner 93 = .ok (.aload_n 0, 1) := by decide +kernel
theorem dX8_miner_94 : decode cX8_miner 94 = .ok (.getfield 127, 3) := by decide +kernel
theorem dX8_miner_97 : decode cX8_miner 97 = .ok (.iconst (-1), 1) := by decide +kernel
theorem dX8_miner_98 : decode cX8_miner 98 = .ok (.iastore, 1) := by decide +kernel
theorem dX8_miner_99 : decode cX8_miner 99 = .ok (.aload_n 0, 1) := by decide +kernel
theorem dX8_miner_100 : decode cX8_miner 100 = .ok (.dup, 1) := by decide +kernel
theorem dX8_miner_101 : decode cX8_miner 101 = .ok (.getfield 127, 3) := by decide +kernel
theorem dX8_miner_104 : decode cX8_miner 104 = .ok (.iconst 1, 1) := by decide +kernel
theorem dX8_miner_105 : decode cX8_miner 105 = .ok (.iadd, 1) := by decide +kernel
theorem dX8_miner_106 : decode cX8_miner 106 = .ok (.putfield 127, 3) := by decide +kernel
theorem dX8_miner_109 : decode cX8_miner 109 = .ok (.aload_n 0, 1) := by decide +kernel
theorem dX8_miner_110 : decode cX8_miner 110 = .ok (.getfield 127, 3) := by decide +kernel
theorem dX8_miner_113 : decode cX8_miner 113 = .ok (.iconst 1, 1) := by decide +kernel
theorem dX8_miner_114 : decode cX8_miner 114 = .ok (.isub, 1) := by decide +kernel
theorem dX8_miner_115 : decode cX8_miner 115 = .ok (.ireturn, 1) := by decide +kernel
theorem dX8_eats_0 : decode cX8_eats 0 = .ok (.aload_n 0, 1) := by decide +kernel
theorem dX8_eats_1 : decode cX8_eats 1 = .ok (.getfield 41, 3) := by decide +kernel
theorem dX8_eats_4 : decode cX8_eats 4 = .ok (.iload_n 1, 1) := by decide +kernel
theorem dX8_eats_5 : decode cX8_eats 5 = .ok (.iaload, 1) := by decide +kernel
theorem dX8_eats_6 : decode cX8_eats 6 = .ok (.ifCond .le 35, 3) := by decide +kernel
theorem dX8_eats_9 : decode cX8_eats 9 = .ok (.aload_n 0, 1) := by decide +kernel
theorem dX8_eats_10 : decode cX8_eats 10 = .ok (.getfield 41, 3) := by decide +kernel
theorem dX8_eats_13 : decode cX8_eats 13 = .ok (.iload_n 1, 1) := by decide +kernel
theorem dX8_eats_14 : decode cX8_eats 14 = .ok (.dup2, 1) := by decide +kernel
theorem dX8_eats_15 : decode cX8_eats 15 = .ok (.iaload, 1) := by decide +kernel
theorem dX8_eats_16 : decode cX8_eats 16 = .ok (.iconst 1, 1) := by decide +kernel
theorem dX8_eats_17 : decode cX8_eats 17 = .ok (.isub, 1) := by decide +kernel
theorem dX8_eats_18 : decode cX8_eats 18 = .ok (.iastore, 1) := by decide +kernel
theorem dX8_eats_19 : decode cX8_eats 19 = .ok (.aload_n 0, 1) := by decide +kernel
theorem dX8_eats_20 : decode cX8_eats 20 = .ok (.getfield 47, 3) := by decide +kernel
theorem dX8_eats_23 : decode cX8_eats 23 = .ok (.iload_n 1, 1) := by decide +kernel
theorem dX8_eats_24 : decode cX8_eats 24 = .ok (.aload_n 0, 1) := by decide +kernel
theorem dX8_eats_25 : decode cX8_eats 25 = .ok (.getfield 47, 3) := by decide +kernel
theorem dX8_eats_28 : decode cX8_eats 28 = .ok (.iload_n 1, 1) := by decide +kernel
theorem dX8_eats_29 : decode cX8_eats 29 = .ok (.iaload, 1) := by decide +kernel
theorem dX8_eats_30 : decode cX8_eats 30 = .ok (.iconst 1, 1) := by decide +kernel
theorem dX8_eats_31 : decode cX8_eats 31 = .ok (.iadd, 1) := by decide +kernel
theorem dX8_eats_32 : decode cX8_eats 32 = .ok (.bipush 10, 2) := by decide +kernel
theorem dX8_eats_34 : decode cX8_eats 34 = .ok (.invokestatic 148, 3) := by decide +kernel
theorem dX8_eats_37 : decode cX8_eats 37 = .ok (.iastore, 1) := by decide +kernel
theorem dX8_eats_38 : decode cX8_eats 38 = .ok (.goto 31, 3) := by decide +kernel
theorem dX8_eats_41 : decode cX8_eats 41 = .ok (.aload_n 0, 1) := by decide +kernel
theorem dX8_eats_42 : decode cX8_eats 42 = .ok (.getfield 47, 3) := by decide +kernel
theorem dX8_eats_45 : decode cX8_eats 45 = .ok (.iload_n 1, 1) := by decide +kernel
theorem dX8_eats_46 : decode cX8_eats 46 = .ok (.aload_n 0, 1) := by decide +kernel
theorem dX8_eats_47 : decode cX8_eats 47 = .ok (.getfield 47, 3) := by decide +kernel
theorem dX8_eats_50 : decode cX8_eats 50 = .ok (.iload_n 1, 1) := by decide +kernel
theorem dX8_eats_51 : decode cX8_eats 51 = .ok (.iaload, 1) := by decide +kernel
theorem dX8_eats_52 : decode cX8_eats 52 = .ok (.iconst 2, 1) := by decide +kernel
theorem dX8_eats_53 : decode cX8_eats 53 = .ok (.if_icmp .ge 7, 3) := by decide +kernel
theorem dX8_eats_56 : decode cX8_eats 56 = .ok (.iconst 0, 1) := by decide +kernel
theorem dX8_eats_57 : decode cX8_eats 57 = .ok (.goto 11, 3) := by decide +kernel
theorem dX8_eats_60 : decode cX8_eats 60 = .ok (.aload_n 0, 1) := by decide +kernel
theorem dX8_eats_61 : decode cX8_eats 61 = .ok (.getfield 47, 3) := by decide +kernel
theorem dX8_eats_64 : decode cX8_eats 64 = .ok (.iload_n 1, 1) := by decide +kernel
theorem dX8_eats_65 : decode cX8_eats 65 = .ok (.iaload, 1) := by decide +kernel
theorem dX8_eats_66 : decode cX8_eats 66 = .ok (.iconst 2, 1) := by decide +kernel
theorem dX8_eats_67 : decode cX8_eats 67 = .ok (.isub, 1) := by decide +kernel
theorem dX8_eats_68 : decode cX8_eats 68 = .ok (.iastore, 1) := by decide +kernel
theorem dX8_eats_69 : decode cX8_eats 69 = .ok (.return_, 1) := by decide +kernel
theorem dX8_arrives_0 : decode cX8_arrives 0 = .ok (.iconst 0, 1) := by decide +kernel
theorem dX8_arrives_1 : decode cX8_arrives 1 = .ok (.istore_n 1, 1) := by decide +kernel
theorem dX8_arrives_2 : decode cX8_arrives 2 = .ok (.iconst 0, 1) := by decide +kernel
theorem dX8_arrives_3 : decode cX8_arrives 3 = .ok (.istore_n 2, 1) := by decide +kernel
theorem dX8_arrives_4 : decode cX8_arrives 4 = .ok (.iload_n 2, 1) := by decide +kernel
theorem dX8_arrives_5 : decode cX8_arrives 5 = .ok (.aload_n 0, 1) := by decide +kernel
theorem dX8_arrives_6 : decode cX8_arrives 6 = .ok (.getfield 152, 3) := by decide +kernel
theorem dX8_arrives_9 : decode cX8_arrives 9 = .ok (.if_icmp .ge 67, 3) := by decide +kernel
theorem dX8_arrives_12 : decode cX8_arrives 12 = .ok (.aload_n 0, 1) := by decide +kernel
theorem dX8_arrives_13 : decode cX8_arrives 13 = .ok (.getfield 102, 3) := by decide +kernel
theorem dX8_arrives_16 : decode cX8_arrives 16 = .ok (.iload_n 2, 1) := by decide +kernel
theorem dX8_arrives_17 : decode cX8_arrives 17 = .ok (.iaload, 1) := by decide +kernel
theorem dX8_arrives_18 : decode cX8_arrives 18 = .ok (.aload_n 0, 1) := by decide +kernel
theorem dX8_arrives_19 : decode cX8_arrives 19 = .ok (.getfield 138, 3) := by decide +kernel
theorem dX8_arrives_22 : decode cX8_arrives 22 = .ok (.if_icmp .ne 21, 3) := by decide +kernel
theorem dX8_arrives_25 : decode cX8_arrives 25 = .ok (.aload_n 0, 1) := by decide +kernel
theorem dX8_arrives_26 : decode cX8_arrives 26 = .ok (.dup, 1) := by decide +kernel
theorem dX8_arrives_27 : decode cX8_arrives 27 = .ok (.getfield 22, 3) := by decide +kernel
theorem dX8_arrives_30 : decode cX8_arrives 30 = .ok (.aload_n 0, 1) := by decide +kernel
theorem dX8_arrives_31 : decode cX8_arrives 31 = .ok (.getfield 99, 3) := by decide +kernel
theorem dX8_arrives_34 : decode cX8_arrives 34 = .ok (.iload_n 2, 1) := by decide +kernel
theorem dX8_arrives_35 : decode cX8_arrives 35 = .ok (.iaload, 1) := by decide +kernel
theorem dX8_arrives_36 : decode cX8_arrives 36 = .ok (.iadd, 1) := by decide +kernel
theorem dX8_arrives_37 : decode cX8_arrives 37 = .ok (.putfield 22, 3) := by decide +kernel
theorem dX8_arrives_40 : decode cX8_arrives 40 = .ok (.goto 30, 3) := by decide +kernel
theorem dX8_arrives_43 : decode cX8_arrives 43 = .ok (.aload_n 0, 1) := by decide +kernel
theorem dX8_arrives_44 : decode cX8_arrives 44 = .ok (.getfield 99, 3) := by decide +kernel
theorem dX8_arrives_47 : decode cX8_arrives 47 = .ok (.iload_n 1, 1) := by decide +kernel
theorem dX8_arrives_48 : decode cX8_arrives 48 = .ok (.aload_n 0, 1) := by decide +kernel
theorem dX8_arrives_49 : decode cX8_arrives 49 = .ok (.getfield 99, 3) := by decide +kernel
theorem dX8_arrives_52 : decode cX8_arrives 52 = .ok (.iload_n 2, 1) := by decide +kernel
theorem dX8_arrives_53 : decode cX8_arrives 53 = .ok (.iaload, 1) := by decide +kernel
theorem dX8_arrives_54 : decode cX8_arrives 54 = .ok (.iastore, 1) := by decide +kernel
theorem dX8_arrives_55 : decode cX8_arrives 55 = .ok (.aload_n 0, 1) := by decide +kernel
theorem dX8_arrives_56 : decode cX8_arrives 56 = .ok (.getfield 102, 3) := by decide +kernel
theorem dX8_arrives_59 : decode cX8_arrives 59 = .ok (.iload_n 1, 1) := by decide +kernel
theorem dX8_arrives_60 : decode cX8_arrives 60 = .ok (.aload_n 0, 1) := by decide +kernel
theorem dX8_arrives_61 : decode cX8_arrives 61 = .ok (.getfield 102, 3) := by decide +kernel
theorem dX8_arrives_64 : decode cX8_arrives 64 = .ok (.iload_n 2, 1) := by decide +kernel
theorem dX8_arrives_65 : decode cX8_arrives 65 = .ok (.iaload, 1) := by decide +kernel
theorem dX8_arrives_66 : decode cX8_arrives 66 = .ok (.iastore, 1) := by decide +kernel
theorem dX8_arrives_67 : decode cX8_arrives 67 = .ok (.iinc 1 1, 3) := by decide +kernel
theorem dX8_arrives_70 : decode cX8_arrives 70 = .ok (.iinc 2 1, 3) := by decide +kernel
theorem dX8_arrives_73 : decode cX8_arrives 73 = .ok (.goto (-69), 3) := by decide +kernel
theorem dX8_arrives_76 : decode cX8_arrives 76 = .ok (.aload_n 0, 1) := by decide +kernel
theorem dX8_arrives_77 : decode cX8_arrives 77 = .ok (.iload_n 1, 1) := by decide +kernel
theorem dX8_arrives_78 : decode cX8_arrives 78 = .ok (.putfield 152, 3) := by decide +kernel
theorem dX8_arrives_81 : decode cX8_arrives 81 = .ok (.return_, 1) := by decide +kernel
theorem dX8_goesBy_0 : decode cX8_goesBy 0 = .ok (.aload_n 0, 1) := by decide +kernel
theorem dX8_goesBy_1 : decode cX8_goesBy 1 = .ok (.dup, 1) := by decide +kernel
theorem dX8_goesBy_2 : decode cX8_goesBy 2 = .ok (.getfield 138, 3) := by decide +kernel
theorem dX8_goesBy_5 : decode cX8_goesBy 5 = .ok (.iconst 1, 1) := by decide +kernel
theorem dX8_goesBy_6 : decode cX8_goesBy 6 = .ok (.iadd, 1) := by decide +kernel
theorem dX8_goesBy_7 : decode cX8_goesBy 7 = .ok (.putfield 138, 3) := by decide +kernel
theorem dX8_goesBy_10 : decode cX8_goesBy 10 = .ok (.iconst 0, 1) := by decide +kernel
theorem dX8_goesBy_11 : decode cX8_goesBy 11 = .ok (.istore_n 1, 1) := by decide +kernel
theorem dX8_goesBy_12 : decode cX8_goesBy 12 = .ok (.iload_n 1, 1) := by decide +kernel
theorem dX8_goesBy_13 : decode cX8_goesBy 13 = .ok (.aload_n 0, 1) := by decide +kernel
theorem dX8_goesBy_14 : decode cX8_goesBy 14 = .ok (.getfield 127, 3) := by decide +kernel
theorem dX8_goesBy_17 : decode cX8_goesBy 17 = .ok (.if_icmp .ge 22, 3) := by decide +kernel
theorem dX8_goesBy_20 : decode cX8_goesBy 20 = .ok (.aload_n 0, 1) := by decide +kernel
theorem dX8_goesBy_21 : decode cX8_goesBy 21 = .ok (.iload_n 1, 1) := by decide +kernel
theorem dX8_goesBy_22 : decode cX8_goesBy 22 = .ok (.invokevirtual 155, 3) := by decide +kernel
theorem dX8_goesBy_25 : decode cX8_goesBy 25 = .ok (.ifCond .ne 8, 3) := by decide +kernel
theorem dX8_goesBy_28 : decode cX8_goesBy 28 = .ok (.aload_n 0, 1) := by decide +kernel
theorem dX8_goesBy_29 : decode cX8_goesBy 29 = .ok (.iload_n 1, 1) := by decide +kernel
theorem dX8_goesBy_30 : decode cX8_goesBy 30 = .ok (.invokevirtual 158, 3) := by decide +kernel
theorem dX8_goesBy_33 : decode cX8_goesBy 33 = .ok (.iinc 1 1, 3) := by decide +kernel
theorem dX8_goesBy_36 : decode cX8_goesBy 36 = .ok (.goto (-24), 3) := by decide +kernel
theorem dX8_goesBy_39 : decode cX8_goesBy 39 = .ok (.aload_n 0, 1) := by decide +kernel
theorem dX8_goesBy_40 : decode cX8_goesBy 40 = .ok (.invokevirtual 162, 3) := by decide +kernel
theorem dX8_goesBy_43 : decode cX8_goesBy 43 = .ok (.iconst 0, 1) := by decide +kernel
theorem dX8_goesBy_44 : decode cX8_goesBy 44 = .ok (.istore_n 1, 1) := by decide +kernel
theorem dX8_goesBy_45 : decode cX8_goesBy 45 = .ok (.iload_n 1, 1) := by decide +kernel
theorem dX8_goesBy_46 : decode cX8_goesBy 46 = .ok (.bipush 40, 2) := by decide +kernel
theorem dX8_goesBy_48 : decode cX8_goesBy 48 = .ok (.if_icmp .ge 49, 3) := by decide +kernel
theorem dX8_goesBy_51 : decode cX8_goesBy 51 = .ok (.aload_n 0, 1) := by decide +kernel
theorem dX8_goesBy_52 : decode cX8_goesBy 52 = .ok (.getfield 32, 3) := by decide +kernel
theorem dX8_goesBy_55 : decode cX8_goesBy 55 = .ok (.iload_n 1, 1) := by decide +kernel
theorem dX8_goesBy_56 : decode cX8_goesBy 56 = .ok (.iaload, 1) := by decide +kernel
theorem dX8_goesBy_57 : decode cX8_goesBy 57 = .ok (.bipush 10, 2) := by decide +kernel
theorem dX8_goesBy_59 : decode cX8_goesBy 59 = .ok (.idiv, 1) := by decide +kernel
theorem dX8_goesBy_60 : decode cX8_goesBy 60 = .ok (.iconst 1, 1) := by decide +kernel
theorem dX8_goesBy_61 : decode cX8_goesBy 61 = .ok (.iadd, 1) := by decide +kernel
theorem dX8_goesBy_62 : decode cX8_goesBy 62 = .ok (.istore_n 2, 1) := by decide +kernel
theorem dX8_goesBy_63 : decode cX8_goesBy 63 = .ok (.aload_n 0, 1) := by decide +kernel
theorem dX8_goesBy_64 : decode cX8_goesBy 64 = .ok (.getfield 32, 3) := by decide +kernel
theorem dX8_goesBy_67 : decode cX8_goesBy 67 = .ok (.iload_n 1, 1) := by decide +kernel
theorem dX8_goesBy_68 : decode cX8_goesBy 68 = .ok (.aload_n 0, 1) := by decide +kernel
theorem dX8_goesBy_69 : decode cX8_goesBy 69 = .ok (.getfield 32, 3) := by decide +kernel
theorem dX8_goesBy_72 : decode cX8_goesBy 72 = .ok (.iload_n 1, 1) := by decide +kernel
theorem dX8_goesBy_73 : decode cX8_goesBy 73 = .ok (.iaload, 1) := by decide +kernel
theorem dX8_goesBy_74 : decode cX8_goesBy 74 = .ok (.iload_n 2, 1) := by decide +kernel
theorem dX8_goesBy_75 : decode cX8_goesBy 75 = .ok (.if_icmp .ge 7, 3) := by decide +kernel
theorem dX8_goesBy_78 : decode cX8_goesBy 78 = .ok (.iconst 0, 1) := by decide +kernel
theorem dX8_goesBy_79 : decode cX8_goesBy 79 = .ok (.goto 11, 3) := by decide +kernel
theorem dX8_goesBy_82 : decode cX8_goesBy 82 = .ok (.aload_n 0, 1) := by decide +kernel
theorem dX8_goesBy_83 : decode cX8_goesBy 83 = .ok (.getfield 32, 3) := by decide +kernel
theorem dX8_goesBy_86 : decode cX8_goesBy 86 = .ok (.iload_n 1, 1) := by decide +kernel
theorem dX8_goesBy_87 : decode cX8_goesBy 87 = .ok (.iaload, 1) := by decide +kernel
theorem dX8_goesBy_88 : decode cX8_goesBy 88 = .ok (.iload_n 2, 1) := by decide +kernel
theorem dX8_goesBy_89 : decode cX8_goesBy 89 = .ok (.isub, 1) := by decide +kernel
theorem dX8_goesBy_90 : decode cX8_goesBy 90 = .ok (.iastore, 1) := by decide +kernel
theorem dX8_goesBy_91 : decode cX8_goesBy 91 = .ok (.iinc 1 1, 3) := by decide +kernel
theorem dX8_goesBy_94 : decode cX8_goesBy 94 = .ok (.goto (-49), 3) := by decide +kernel
theorem dX8_goesBy_97 : decode cX8_goesBy 97 = .ok (.iconst 0, 1) := by decide +kernel
theorem dX8_goesBy_98 : decode cX8_goesBy 98 = .ok (.istore_n 1, 1) := by decide +kernel
theorem dX8_goesBy_99 : decode cX8_goesBy 99 = .ok (.iload_n 1, 1) := by decide +kernel
theorem dX8_goesBy_100 : decode cX8_goesBy 100 = .ok (.aload_n 0, 1) := by decide +kernel
theorem dX8_goesBy_101 : decode cX8_goesBy 101 = .ok (.getfield 130, 3) := by decide +kernel
theorem dX8_goesBy_104 : decode cX8_goesBy 104 = .ok (.if_icmp .ge 62, 3) := by decide +kernel
theorem dX8_goesBy_107 : decode cX8_goesBy 107 = .ok (.aload_n 0, 1) := by decide +kernel
theorem dX8_goesBy_108 : decode cX8_goesBy 108 = .ok (.getfield 68, 3) := by decide +kernel
theorem dX8_goesBy_111 : decode cX8_goesBy 111 = .ok (.iload_n 1, 1) := by decide +kernel
theorem dX8_goesBy_112 : decode cX8_goesBy 112 = .ok (.aload_n 0, 1) := by decide +kernel
theorem dX8_goesBy_113 : decode cX8_goesBy 113 = .ok (.getfield 68, 3) := by decide +kernel
theorem dX8_goesBy_116 : decode cX8_goesBy 116 = .ok (.iload_n 1, 1) := by decide +kernel
theorem dX8_goesBy_117 : decode cX8_goesBy 117 = .ok (.baload, 1) := by decide +kernel
theorem dX8_goesBy_118 : decode cX8_goesBy 118 = .ok (.ifCond .eq 40, 3) := by decide +kernel
theorem dX8_goesBy_121 : decode cX8_goesBy 121 = .ok (.aload_n 0, 1) := by decide +kernel
theorem dX8_goesBy_122 : decode cX8_goesBy 122 = .ok (.aload_n 0, 1) := by decide +kernel
theorem dX8_goesBy_123 : decode cX8_goesBy 123 = .ok (.getfield 59, 3) := by decide +kernel
theorem dX8_goesBy_126 : decode cX8_goesBy 126 = .ok (.iload_n 1, 1) := by decide +kernel
theorem dX8_goesBy_127 : decode cX8_goesBy 127 = .ok (.iaload, 1) := by decide +kernel
theorem dX8_goesBy_128 : decode cX8_goesBy 128 = .ok (.invokevirtual 155, 3) := by decide +kernel
theorem dX8_goesBy_131 : decode cX8_goesBy 131 = .ok (.ifCond .ne 27, 3) := by decide +kernel
theorem dX8_goesBy_134 : decode cX8_goesBy 134 = .ok (.aload_n 0, 1) := by decide +kernel
theorem dX8_goesBy_135 : decode cX8_goesBy 135 = .ok (.getfield 138, 3) := by decide +kernel
theorem dX8_goesBy_138 : decode cX8_goesBy 138 = .ok (.aload_n 0, 1) := by decide +kernel
theorem dX8_goesBy_139 : decode cX8_goesBy 139 = .ok (.getfield 72, 3) := by decide +kernel
theorem dX8_goesBy_142 : decode cX8_goesBy 142 = .ok (.iload_n 1, 1) := by decide +kernel
theorem dX8_goesBy_143 : decode cX8_goesBy 143 = .ok (.iaload, 1) := by decide +kernel
theorem dX8_goesBy_144 : decode cX8_goesBy 144 = .ok (.isub, 1) := by decide +kernel
theorem dX8_goesBy_145 : decode cX8_goesBy 145 = .ok (.aload_n 0, 1) := by decide +kernel
theorem dX8_goesBy_146 : decode cX8_goesBy 146 = .ok (.getfield 75, 3) := by decide +kernel
theorem dX8_goesBy_149 : decode cX8_goesBy 149 = .ok (.iload_n 1, 1) := by decide +kernel
theorem dX8_goesBy_150 : decode cX8_goesBy 150 = .ok (.iaload, 1) := by decide +kernel
theorem dX8_goesBy_151 : decode cX8_goesBy 151 = .ok (.if_icmp .gt 7, 3) := by decide +kernel
theorem dX8_goesBy_154 : decode cX8_goesBy 154 = .ok (.iconst 1, 1) := by decide +kernel
theorem dX8_goesBy_155 : decode cX8_goesBy 155 = .ok (.goto 4, 3) := by decide +kernel
theorem dX8_goesBy_158 : decode cX8_goesBy 158 = .ok (.iconst 0, 1) := by decide +kernel
theorem dX8_goesBy_159 : decode cX8_goesBy 159 = .ok (.bastore, 1) := by decide +kernel
theorem dX8_goesBy_160 : decode cX8_goesBy 160 = .ok (.iinc 1 1, 3) := by decide +kernel
theorem dX8_goesBy_163 : decode cX8_goesBy 163 = .ok (.goto (-64), 3) := by decide +kernel
theorem dX8_goesBy_166 : decode cX8_goesBy 166 = .ok (.return_, 1) := by decide +kernel
theorem dX8_pass_0 : decode cX8_pass 0 = .ok (.iload_n 1, 1) := by decide +kernel
theorem dX8_pass_1 : decode cX8_pass 1 = .ok (.iconst 1, 1) := by decide +kernel
theorem dX8_pass_2 : decode cX8_pass 2 = .ok (.sipush 200, 3) := by decide +kernel
theorem dX8_pass_5 : decode cX8_pass 5 = .ok (.invokestatic 123, 3) := by decide +kernel
theorem dX8_pass_8 : decode cX8_pass 8 = .ok (.istore_n 2, 1) := by decide +kernel
theorem dX8_pass_9 : decode cX8_pass 9 = .ok (.aload_n 0, 1) := by decide +kernel
theorem dX8_pass_10 : decode cX8_pass 10 = .ok (.iload_n 2, 1) := by decide +kernel
theorem dX8_pass_11 : decode cX8_pass 11 = .ok (.ifCond .ne 7, 3) := by decide +kernel
theorem dX8_pass_14 : decode cX8_pass 14 = .ok (.iconst 1, 1) := by decide +kernel
theorem dX8_pass_15 : decode cX8_pass 15 = .ok (.goto 20, 3) := by decide +kernel
theorem dX8_pass_18 : decode cX8_pass 18 = .ok (.aload_n 0, 1) := by decide +kernel
theorem dX8_pass_19 : decode cX8_pass 19 = .ok (.getfield 138, 3) := by decide +kernel
theorem dX8_pass_22 : decode cX8_pass 22 = .ok (.iload_n 1, 1) := by decide +kernel
theorem dX8_pass_23 : decode cX8_pass 23 = .ok (.iadd, 1) := by decide +kernel
theorem dX8_pass_24 : decode cX8_pass 24 = .ok (.sipush 5000, 3) := by decide +kernel
theorem dX8_pass_27 : decode cX8_pass 27 = .ok (.if_icmp .le 7, 3) := by decide +kernel
theorem dX8_pass_30 : decode cX8_pass 30 = .ok (.iconst 2, 1) := by decide +kernel
theorem dX8_pass_31 : decode cX8_pass 31 = .ok (.goto 4, 3) := by decide +kernel
theorem dX8_pass_34 : decode cX8_pass 34 = .ok (.iconst 0, 1) := by decide +kernel
theorem dX8_pass_35 : decode cX8_pass 35 = .ok (.invokevirtual 145, 3) := by decide +kernel
theorem dX8_pass_38 : decode cX8_pass 38 = .ok (.ifCond .ne 5, 3) := by decide +kernel
theorem dX8_pass_41 : decode cX8_pass 41 = .ok (.iconst 0, 1) := by decide +kernel
theorem dX8_pass_42 : decode cX8_pass 42 = .ok (.ireturn, 1) := by decide +kernel
theorem dX8_pass_43 : decode cX8_pass 43 = .ok (.iconst 0, 1) := by decide +kernel
theorem dX8_pass_44 : decode cX8_pass 44 = .ok (.istore_n 3, 1) := by decide +kernel
theorem dX8_pass_45 : decode cX8_pass 45 = .ok (.iload_n 3, 1) := by decide +kernel
theorem dX8_pass_46 : decode cX8_pass 46 = .ok (.iload_n 1, 1) := by decide +kernel
theorem dX8_pass_47 : decode cX8_pass 47 = .ok (.if_icmp .ge 13, 3) := by decide +kernel
theorem dX8_pass_50 : decode cX8_pass 50 = .ok (.aload_n 0, 1) := by decide +kernel
theorem dX8_pass_51 : decode cX8_pass 51 = .ok (.invokevirtual 165, 3) := by decide +kernel
theorem dX8_pass_54 : decode cX8_pass 54 = .ok (.iinc 3 1, 3) := by decide +kernel
theorem dX8_pass_57 : decode cX8_pass 57 = .ok (.goto (-12), 3) := by decide +kernel
theorem dX8_pass_60 : decode cX8_pass 60 = .ok (.aload_n 0, 1) := by decide +kernel
theorem dX8_pass_61 : decode cX8_pass 61 = .ok (.getfield 138, 3) := by decide +kernel
theorem dX8_pass_64 : decode cX8_pass 64 = .ok (.ireturn, 1) := by decide +kernel
theorem dX8_living_0 : decode cX8_living 0 = .ok (.iconst 0, 1) := by decide +kernel
theorem dX8_living_1 : decode cX8_living 1 = .ok (.istore_n 1, 1) := by decide +kernel
theorem dX8_living_2 : decode cX8_living 2 = .ok (.iconst 0, 1) := by decide +kernel
theorem dX8_living_3 : decode cX8_living 3 = .ok (.istore_n 2, 1) := by decide +kernel
theorem dX8_living_4 : decode cX8_living 4 = .ok (.iload_n 2, 1) := by decide +kernel
theorem dX8_living_5 : decode cX8_living 5 = .ok (.aload_n 0, 1) := by decide +kernel
theorem dX8_living_6 : decode cX8_living 6 = .ok (.getfield 127, 3) := by decide +kernel
theorem dX8_living_9 : decode cX8_living 9 = .ok (.if_icmp .ge 25, 3) := by decide +kernel
theorem dX8_living_12 : decode cX8_living 12 = .ok (.iload_n 1, 1) := by decide +kernel
theorem dX8_living_13 : decode cX8_living 13 = .ok (.aload_n 0, 1) := by decide +kernel
theorem dX8_living_14 : decode cX8_living 14 = .ok (.iload_n 2, 1) := by decide +kernel
theorem dX8_living_15 : decode cX8_living 15 = .ok (.invokevirtual 155, 3) := by decide +kernel
theorem dX8_living_18 : decode cX8_living 18 = .ok (.ifCond .eq 7, 3) := by decide +kernel
theorem dX8_living_21 : decode cX8_living 21 = .ok (.iconst 0, 1) := by decide +kernel
theorem dX8_living_22 : decode cX8_living 22 = .ok (.goto 4, 3) := by decide +kernel
theorem dX8_living_25 : decode cX8_living 25 = .ok (.iconst 1, 1) := by decide +kernel
theorem dX8_living_26 : decode cX8_living 26 = .ok (.iadd, 1) := by decide +kernel
theorem dX8_living_27 : decode cX8_living 27 = .ok (.istore_n 1, 1) := by decide +kernel
theorem dX8_living_28 : decode cX8_living 28 = .ok (.iinc 2 1, 3) := by decide +kernel
theorem dX8_living_31 : decode cX8_living 31 = .ok (.goto (-27), 3) := by decide +kernel
theorem dX8_living_34 : decode cX8_living 34 = .ok (.iload_n 1, 1) := by decide +kernel
theorem dX8_living_35 : decode cX8_living 35 = .ok (.ireturn, 1) := by decide +kernel
theorem dX8_meet_0 : decode cX8_meet 0 = .ok (.iload_n 1, 1) := by decide +kernel
theorem dX8_meet_1 : decode cX8_meet 1 = .ok (.iconst 1, 1) := by decide +kernel
theorem dX8_meet_2 : decode cX8_meet 2 = .ok (.bipush 10, 2) := by decide +kernel
theorem dX8_meet_4 : decode cX8_meet 4 = .ok (.invokestatic 123, 3) := by decide +kernel
theorem dX8_meet_7 : decode cX8_meet 7 = .ok (.ifCond .eq 38, 3) := by decide +kernel
theorem dX8_meet_10 : decode cX8_meet 10 = .ok (.iload_n 2, 1) := by decide +kernel
theorem dX8_meet_11 : decode cX8_meet 11 = .ok (.iconst 1, 1) := by decide +kernel
theorem dX8_meet_12 : decode cX8_meet 12 = .ok (.bipush 100, 2) := by decide +kernel
theorem dX8_meet_14 : decode cX8_meet 14 = .ok (.invokestatic 123, 3) := by decide +kernel
theorem dX8_meet_17 : decode cX8_meet 17 = .ok (.ifCond .eq 28, 3) := by decide +kernel
theorem dX8_meet_20 : decode cX8_meet 20 = .ok (.iload_n 3, 1) := by decide +kernel
theorem dX8_meet_21 : decode cX8_meet 21 = .ok (.iconst 0, 1) := by decide +kernel
theorem dX8_meet_22 : decode cX8_meet 22 = .ok (.bipush 12, 2) := by decide +kernel
theorem dX8_meet_24 : decode cX8_meet 24 = .ok (.invokestatic 123, 3) := by decide +kernel
theorem dX8_meet_27 : decode cX8_meet 27 = .ok (.ifCond .eq 18, 3) := by decide +kernel
theorem dX8_meet_30 : decode cX8_meet 30 = .ok (.iload 4, 2) := by decide +kernel
theorem dX8_meet_32 : decode cX8_meet 32 = .ok (.iconst 0, 1) := by decide +kernel
theorem dX8_meet_33 : decode cX8_meet 33 = .ok (.bipush 12, 2) := by decide +kernel
theorem dX8_meet_35 : decode cX8_meet 35 = .ok (.invokestatic 123, 3) := by decide +kernel
theorem dX8_meet_38 : decode cX8_meet 38 = .ok (.ifCond .eq 7, 3) := by decide +kernel
theorem dX8_meet_41 : decode cX8_meet 41 = .ok (.iconst 1, 1) := by decide +kernel
theorem dX8_meet_42 : decode cX8_meet 42 = .ok (.goto 4, 3) := by decide +kernel
theorem dX8_meet_45 : decode cX8_meet 45 = .ok (.iconst 0, 1) := by decide +kernel
theorem dX8_meet_46 : decode cX8_meet 46 = .ok (.istore 5, 2) := by decide +kernel
theorem dX8_meet_48 : decode cX8_meet 48 = .ok (.aload_n 0, 1) := by decide +kernel
theorem dX8_meet_49 : decode cX8_meet 49 = .ok (.iload 5, 2) := by decide +kernel
theorem dX8_meet_51 : decode cX8_meet 51 = .ok (.ifCond .eq 18, 3) := by decide +kernel
theorem dX8_meet_54 : decode cX8_meet 54 = .ok (.iload_n 3, 1) := by decide +kernel
theorem dX8_meet_55 : decode cX8_meet 55 = .ok (.iload 4, 2) := by decide +kernel
theorem dX8_meet_57 : decode cX8_meet 57 = .ok (.iadd, 1) := by decide +kernel
theorem dX8_meet_58 : decode cX8_meet 58 = .ok (.aload_n 0, 1) := by decide +kernel
theorem dX8_meet_59 : decode cX8_meet 59 = .ok (.invokevirtual 168, 3) := by decide +kernel
theorem dX8_meet_62 : decode cX8_meet 62 = .ok (.if_icmp .gt 7, 3) := by decide +kernel
theorem dX8_meet_65 : decode cX8_meet 65 = .ok (.iconst 0, 1) := by decide +kernel
theorem dX8_meet_66 : decode cX8_meet 66 = .ok (.goto 4, 3) := by decide +kernel
theorem dX8_meet_69 : decode cX8_meet 69 = .ok (.iconst 1, 1) := by decide +kernel
theorem dX8_meet_70 : decode cX8_meet 70 = .ok (.invokevirtual 145, 3) := by decide +kernel
theorem dX8_meet_73 : decode cX8_meet 73 = .ok (.ifCond .ne 5, 3) := by decide +kernel
theorem dX8_meet_76 : decode cX8_meet 76 = .ok (.iconst 0, 1) := by decide +kernel
theorem dX8_meet_77 : decode cX8_meet 77 = .ok (.ireturn, 1) := by decide +kernel
theorem dX8_meet_78 : decode cX8_meet 78 = .ok (.iload_n 3, 1) := by decide +kernel
theorem dX8_meet_79 : decode cX8_meet 79 = .ok (.iload 4, 2) := by decide +kernel
theorem dX8_meet_81 : decode cX8_meet 81 = .ok (.if_icmp .le 13, 3) := by decide +kernel
theorem dX8_meet_84 : decode cX8_meet 84 = .ok (.aload_n 0, 1) := by decide +kernel
theorem dX8_meet_85 : decode cX8_meet 85 = .ok (.iload_n 1, 1) := by decide +kernel
theorem dX8_meet_86 : decode cX8_meet 86 = .ok (.putfield 13, 3) := by decide +kernel
theorem dX8_meet_89 : decode cX8_meet 89 = .ok (.aload_n 0, 1) := by decide +kernel
theorem dX8_meet_90 : decode cX8_meet 90 = .ok (.iload_n 2, 1) := by decide +kernel
theorem dX8_meet_91 : decode cX8_meet 91 = .ok (.putfield 16, 3) := by decide +kernel
theorem dX8_meet_94 : decode cX8_meet 94 = .ok (.iload_n 3, 1) := by decide +kernel
theorem dX8_meet_95 : decode cX8_meet 95 = .ok (.iload 4, 2) := by decide +kernel
theorem dX8_meet_97 : decode cX8_meet 97 = .ok (.if_icmp .le 7, 3) := by decide +kernel
theorem dX8_meet_100 : decode cX8_meet 100 = .ok (.iconst 1, 1) := by decide +kernel
theorem dX8_meet_101 : decode cX8_meet 101 = .ok (.goto 4, 3) := by decide +kernel
theorem dX8_meet_104 : decode cX8_meet 104 = .ok (.iconst 0, 1) := by decide +kernel
theorem dX8_meet_105 : decode cX8_meet 105 = .ok (.ireturn, 1) := by decide +kernel
theorem dX8_heldAt_0 : decode cX8_heldAt 0 = .ok (.iconst (-1), 1) := by decide +kernel
theorem dX8_heldAt_1 : decode cX8_heldAt 1 = .ok (.istore_n 2, 1) := by decide +kernel
theorem dX8_heldAt_2 : decode cX8_heldAt 2 = .ok (.iconst 0, 1) := by decide +kernel
theorem dX8_heldAt_3 : decode cX8_heldAt 3 = .ok (.istore_n 3, 1) := by decide +kernel
theorem dX8_heldAt_4 : decode cX8_heldAt 4 = .ok (.iload_n 3, 1) := by decide +kernel
theorem dX8_heldAt_5 : decode cX8_heldAt 5 = .ok (.aload_n 0, 1) := by decide +kernel
theorem dX8_heldAt_6 : decode cX8_heldAt 6 = .ok (.getfield 130, 3) := by decide +kernel
theorem dX8_heldAt_9 : decode cX8_heldAt 9 = .ok (.if_icmp .ge 52, 3) := by decide +kernel
theorem dX8_heldAt_12 : decode cX8_heldAt 12 = .ok (.aload_n 0, 1) := by decide +kernel
theorem dX8_heldAt_13 : decode cX8_heldAt 13 = .ok (.getfield 68, 3) := by decide +kernel
theorem dX8_heldAt_16 : decode cX8_heldAt 16 = .ok (.iload_n 3, 1) := by decide +kernel
theorem dX8_heldAt_17 : decode cX8_heldAt 17 = .ok (.baload, 1) := by decide +kernel
theorem dX8_heldAt_18 : decode cX8_heldAt 18 = .ok (.ifCond .eq 35, 3) := by decide +kernel
theorem dX8_heldAt_21 : decode cX8_heldAt 21 = .ok (.iload_n 1, 1) := by decide +kernel
theorem dX8_heldAt_22 : decode cX8_heldAt 22 = .ok (.aload_n 0, 1) := by decide +kernel
theorem dX8_heldAt_23 : decode cX8_heldAt 23 = .ok (.getfield 62, 3) := by decide +kernel
theorem dX8_heldAt_26 : decode cX8_heldAt 26 = .ok (.iload_n 3, 1) := by decide +kernel
theorem dX8_heldAt_27 : decode cX8_heldAt 27 = .ok (.iaload, 1) := by decide +kernel
theorem dX8_heldAt_28 : decode cX8_heldAt 28 = .ok (.aload_n 0, 1) := by decide +kernel
theorem dX8_heldAt_29 : decode cX8_heldAt 29 = .ok (.getfield 62, 3) := by decide +kernel
theorem dX8_heldAt_32 : decode cX8_heldAt 32 = .ok (.iload_n 3, 1) := by decide +kernel
theorem dX8_heldAt_33 : decode cX8_heldAt 33 = .ok (.iaload, 1) := by decide +kernel
theorem dX8_heldAt_34 : decode cX8_heldAt 34 = .ok (.aload_n 0, 1) := by decide +kernel
theorem dX8_heldAt_35 : decode cX8_heldAt 35 = .ok (.getfield 65, 3) := by decide +kernel
theorem dX8_heldAt_38 : decode cX8_heldAt 38 = .ok (.iload_n 3, 1) := by decide +kernel
theorem dX8_heldAt_39 : decode cX8_heldAt 39 = .ok (.iaload, 1) := by decide +kernel
theorem dX8_heldAt_40 : decode cX8_heldAt 40 = .ok (.iadd, 1) := by decide +kernel
theorem dX8_heldAt_41 : decode cX8_heldAt 41 = .ok (.iconst 1, 1) := by decide +kernel
theorem dX8_heldAt_42 : decode cX8_heldAt 42 = .ok (.isub, 1) := by decide +kernel
theorem dX8_heldAt_43 : decode cX8_heldAt 43 = .ok (.invokestatic 123, 3) := by decide +kernel
theorem dX8_heldAt_46 : decode cX8_heldAt 46 = .ok (.ifCond .eq 7, 3) := by decide +kernel
theorem dX8_heldAt_49 : decode cX8_heldAt 49 = .ok (.iload_n 3, 1) := by decide +kernel
theorem dX8_heldAt_50 : decode cX8_heldAt 50 = .ok (.goto 4, 3) := by decide +kernel
theorem dX8_heldAt_53 : decode cX8_heldAt 53 = .ok (.iload_n 2, 1) := by decide +kernel
theorem dX8_heldAt_54 : decode cX8_heldAt 54 = .ok (.istore_n 2, 1) := by decide +kernel
theorem dX8_heldAt_55 : decode cX8_heldAt 55 = .ok (.iinc 3 1, 3) := by decide +kernel
theorem dX8_heldAt_58 : decode cX8_heldAt 58 = .ok (.goto (-54), 3) := by decide +kernel
theorem dX8_heldAt_61 : decode cX8_heldAt 61 = .ok (.iload_n 2, 1) := by decide +kernel
theorem dX8_heldAt_62 : decode cX8_heldAt 62 = .ok (.ireturn, 1) := by decide +kernel
theorem dX8_areFree_0 : decode cX8_areFree 0 = .ok (.iconst 1, 1) := by decide +kernel
theorem dX8_areFree_1 : decode cX8_areFree 1 = .ok (.istore_n 3, 1) := by decide +kernel
theorem dX8_areFree_2 : decode cX8_areFree 2 = .ok (.iload_n 1, 1) := by decide +kernel
theorem dX8_areFree_3 : decode cX8_areFree 3 = .ok (.istore 4, 2) := by decide +kernel
theorem dX8_areFree_5 : decode cX8_areFree 5 = .ok (.iload 4, 2) := by decide +kernel
theorem dX8_areFree_7 : decode cX8_areFree 7 = .ok (.iload_n 1, 1) := by decide +kernel
theorem dX8_areFree_8 : decode cX8_areFree 8 = .ok (.iload_n 2, 1) := by decide +kernel
theorem dX8_areFree_9 : decode cX8_areFree 9 = .ok (.iadd, 1) := by decide +kernel
theorem dX8_areFree_10 : decode cX8_areFree 10 = .ok (.if_icmp .ge 29, 3) := by decide +kernel
theorem dX8_areFree_13 : decode cX8_areFree 13 = .ok (.iload_n 3, 1) := by decide +kernel
theorem dX8_areFree_14 : decode cX8_areFree 14 = .ok (.ifCond .eq 17, 3) := by decide +kernel
theorem dX8_areFree_17 : decode cX8_areFree 17 = .ok (.aload_n 0, 1) := by decide +kernel
theorem dX8_areFree_18 : decode cX8_areFree 18 = .ok (.iload 4, 2) := by decide +kernel
theorem dX8_areFree_20 : decode cX8_areFree 20 = .ok (.invokevirtual 172, 3) := by decide +kernel
theorem dX8_areFree_23 : decode cX8_areFree 23 = .ok (.iconst (-1), 1) := by decide +kernel
theorem dX8_areFree_24 : decode cX8_areFree 24 = .ok (.if_icmp .ne 7, 3) := by decide +kernel
theorem dX8_areFree_27 : decode cX8_areFree 27 = .ok (.iconst 1, 1) := by decide +kernel
theorem dX8_areFree_28 : decode cX8_areFree 28 = .ok (.goto 4, 3) := by decide +kernel
theorem dX8_areFree_31 : decode cX8_areFree 31 = .ok (.iconst 0, 1) := by decide +kernel
theorem dX8_areFree_32 : decode cX8_areFree 32 = .ok (.istore_n 3, 1) := by decide +kernel
theorem dX8_areFree_33 : decode cX8_areFree 33 = .ok (.iinc 4 1, 3) := by decide +kernel
theorem dX8_areFree_36 : decode cX8_areFree 36 = .ok (.goto (-31), 3) := by decide +kernel
theorem dX8_areFree_39 : decode cX8_areFree 39 = .ok (.iload_n 3, 1) := by decide +kernel
theorem dX8_areFree_40 : decode cX8_areFree 40 = .ok (.ireturn, 1) := by decide +kernel
theorem dX8_peg_0 : decode cX8_peg 0 = .ok (.aload_n 0, 1) := by decide +kernel
theorem dX8_peg_1 : decode cX8_peg 1 = .ok (.iload_n 1, 1) := by decide +kernel
theorem dX8_peg_2 : decode cX8_peg 2 = .ok (.invokevirtual 176, 3) := by decide +kernel
theorem dX8_peg_5 : decode cX8_peg 5 = .ok (.ifCond .eq 22, 3) := by decide +kernel
theorem dX8_peg_8 : decode cX8_peg 8 = .ok (.iload_n 2, 1) := by decide +kernel
theorem dX8_peg_9 : decode cX8_peg 9 = .ok (.invokestatic 134, 3) := by decide +kernel
theorem dX8_peg_12 : decode cX8_peg 12 = .ok (.ifCond .eq 15, 3) := by decide +kernel
theorem dX8_peg_15 : decode cX8_peg 15 = .ok (.iload_n 3, 1) := by decide +kernel
theorem dX8_peg_16 : decode cX8_peg 16 = .ok (.bipush 40, 2) := by decide +kernel
theorem dX8_peg_18 : decode cX8_peg 18 = .ok (.iload_n 2, 1) := by decide +kernel
theorem dX8_peg_19 : decode cX8_peg 19 = .ok (.isub, 1) := by decide +kernel
theorem dX8_peg_20 : decode cX8_peg 20 = .ok (.if_icmp .gt 7, 3) := by decide +kernel
theorem dX8_peg_23 : decode cX8_peg 23 = .ok (.iconst 1, 1) := by decide +kernel
theorem dX8_peg_24 : decode cX8_peg 24 = .ok (.goto 4, 3) := by decide +kernel
theorem dX8_peg_27 : decode cX8_peg 27 = .ok (.iconst 0, 1) := by decide +kernel
theorem dX8_peg_28 : decode cX8_peg 28 = .ok (.istore 4, 2) := by decide +kernel
theorem dX8_peg_30 : decode cX8_peg 30 = .ok (.iload 4, 2) := by decide +kernel
theorem dX8_peg_32 : decode cX8_peg 32 = .ok (.ifCond .eq 17, 3) := by decide +kernel
theorem dX8_peg_35 : decode cX8_peg 35 = .ok (.iload_n 3, 1) := by decide +kernel
theorem dX8_peg_36 : decode cX8_peg 36 = .ok (.iconst 1, 1) := by decide +kernel
theorem dX8_peg_37 : decode cX8_peg 37 = .ok (.bipush 10, 2) := by decide +kernel
theorem dX8_peg_39 : decode cX8_peg 39 = .ok (.invokestatic 123, 3) := by decide +kernel
theorem dX8_peg_42 : decode cX8_peg 42 = .ok (.ifCond .eq 7, 3) := by decide +kernel
theorem dX8_peg_45 : decode cX8_peg 45 = .ok (.iconst 1, 1) := by decide +kernel
theorem dX8_peg_46 : decode cX8_peg 46 = .ok (.goto 4, 3) := by decide +kernel
theorem dX8_peg_49 : decode cX8_peg 49 = .ok (.iconst 0, 1) := by decide +kernel
theorem dX8_peg_50 : decode cX8_peg 50 = .ok (.istore 5, 2) := by decide +kernel
theorem dX8_peg_52 : decode cX8_peg 52 = .ok (.aload_n 0, 1) := by decide +kernel
theorem dX8_peg_53 : decode cX8_peg 53 = .ok (.iload 4, 2) := by decide +kernel
theorem dX8_peg_55 : decode cX8_peg 55 = .ok (.ifCond .ne 7, 3) := by decide +kernel
theorem dX8_peg_58 : decode cX8_peg 58 = .ok (.iconst 1, 1) := by decide +kernel
theorem dX8_peg_59 : decode cX8_peg 59 = .ok (.goto 51, 3) := by decide +kernel
theorem dX8_peg_62 : decode cX8_peg 62 = .ok (.iload 5, 2) := by decide +kernel
theorem dX8_peg_64 : decode cX8_peg 64 = .ok (.ifCond .ne 7, 3) := by decide +kernel
theorem dX8_peg_67 : decode cX8_peg 67 = .ok (.iconst 2, 1) := by decide +kernel
theorem dX8_peg_68 : decode cX8_peg 68 = .ok (.goto 42, 3) := by decide +kernel
theorem dX8_peg_71 : decode cX8_peg 71 = .ok (.aload_n 0, 1) := by decide +kernel
theorem dX8_peg_72 : decode cX8_peg 72 = .ok (.iload_n 1, 1) := by decide +kernel
theorem dX8_peg_73 : decode cX8_peg 73 = .ok (.invokevirtual 155, 3) := by decide +kernel
theorem dX8_peg_76 : decode cX8_peg 76 = .ok (.ifCond .ne 29, 3) := by decide +kernel
theorem dX8_peg_79 : decode cX8_peg 79 = .ok (.iload_n 3, 1) := by decide +kernel
theorem dX8_peg_80 : decode cX8_peg 80 = .ok (.aload_n 0, 1) := by decide +kernel
theorem dX8_peg_81 : decode cX8_peg 81 = .ok (.getfield 13, 3) := by decide +kernel
theorem dX8_peg_84 : decode cX8_peg 84 = .ok (.if_icmp .gt 21, 3) := by decide +kernel
theorem dX8_peg_87 : decode cX8_peg 87 = .ok (.aload_n 0, 1) := by decide +kernel
theorem dX8_peg_88 : decode cX8_peg 88 = .ok (.iload_n 2, 1) := by decide +kernel
theorem dX8_peg_89 : decode cX8_peg 89 = .ok (.iload_n 3, 1) := by decide +kernel
theorem dX8_peg_90 : decode cX8_peg 90 = .ok (.invokevirtual 179, 3) := by decide +kernel
theorem dX8_peg_93 : decode cX8_peg 93 = .ok (.ifCond .eq 12, 3) := by decide +kernel
theorem dX8_peg_96 : decode cX8_peg 96 = .ok (.aload_n 0, 1) := by decide +kernel
theorem dX8_peg_97 : decode cX8_peg 97 = .ok (.getfield 130, 3) := by decide +kernel
theorem dX8_peg_100 : decode cX8_peg 100 = .ok (.bipush 30, 2) := by decide +kernel
theorem dX8_peg_102 : decode cX8_peg 102 = .ok (.if_icmp .ne 7, 3) := by decide +kernel
theorem dX8_peg_105 : decode cX8_peg 105 = .ok (.iconst 3, 1) := by decide +kernel
theorem dX8_peg_106 : decode cX8_peg 106 = .ok (.goto 4, 3) := by decide +kernel
theorem dX8_peg_109 : decode cX8_peg 109 = .ok (.iconst 0, 1) := by decide +kernel
theorem dX8_peg_110 : decode cX8_peg 110 = .ok (.invokevirtual 145, 3) := by decide +kernel
theorem dX8_peg_113 : decode cX8_peg 113 = .ok (.ifCond .ne 5, 3) := by decide +kernel
theorem dX8_peg_116 : decode cX8_peg 116 = .ok (.iconst 0, 1) := by decide +kernel
theorem dX8_peg_117 : decode cX8_peg 117 = .ok (.ireturn, 1) := by decide +kernel
theorem dX8_peg_118 : decode cX8_peg 118 = .ok (.aload_n 0, 1) := by decide +kernel
theorem dX8_peg_119 : decode cX8_peg 119 = .ok (.getfield 59, 3) := by decide +kernel
theorem dX8_peg_122 : decode cX8_peg 122 = .ok (.aload_n 0, 1) := by decide +kernel
theorem dX8_peg_123 : decode cX8_peg 123 = .ok (.getfield 130, 3) := by decide +kernel
theorem dX8_peg_126 : decode cX8_peg 126 = .ok (.iload_n 1, 1) := by decide +kernel
theorem dX8_peg_127 : decode cX8_peg 127 = .ok (.iastore, 1) := by decide +kernel
theorem dX8_peg_128 : decode cX8_peg 128 = .ok (.aload_n 0, 1) := by decide +kernel
theorem dX8_peg_129 : decode cX8_peg 129 = .ok (.getfield 62, 3) := by decide +kernel
theorem dX8_peg_132 : decode cX8_peg 132 = .ok (.aload_n 0, 1) := by decide +kernel
theorem dX8_peg_133 : decode cX8_peg 133 = .ok (.getfield 130, 3) := by decide +kernel
theorem dX8_peg_136 : decode cX8_peg 136 = .ok (.iload_n 2, 1) := by decide +kernel
theorem dX8_peg_137 : decode cX8_peg 137 = .ok (.iastore, 1) := by decide +kernel
theorem dX8_peg_138 : decode cX8_peg 138 = .ok (.aload_n 0, 1) := by decide +kernel
theorem dX8_peg_139 : decode cX8_peg 139 = .ok (.getfield 65, 3) := by decide +kernel
theorem dX8_peg_142 : decode cX8_peg 142 = .ok (.aload_n 0, 1) := by decide +kernel
theorem dX8_peg_143 : decode cX8_peg 143 = .ok (.getfield 130, 3) := by decide +kernel
theorem dX8_peg_146 : decode cX8_peg 146 = .ok (.iload_n 3, 1) := by decide +kernel
theorem dX8_peg_147 : decode cX8_peg 147 = .ok (.iastore, 1) := by decide +kernel
theorem dX8_peg_148 : decode cX8_peg 148 = .ok (.aload_n 0, 1) := by decide +kernel
theorem dX8_peg_149 : decode cX8_peg 149 = .ok (.getfield 68, 3) := by decide +kernel
theorem dX8_peg_152 : decode cX8_peg 152 = .ok (.aload_n 0, 1) := by decide +kernel
theorem dX8_peg_153 : decode cX8_peg 153 = .ok (.getfield 130, 3) := by decide +kernel
theorem dX8_peg_156 : decode cX8_peg 156 = .ok (.iconst 1, 1) := by decide +kernel
theorem dX8_peg_157 : decode cX8_peg 157 = .ok (.bastore, 1) := by decide +kernel
theorem dX8_peg_158 : decode cX8_peg 158 = .ok (.aload_n 0, 1) := by decide +kernel
theorem dX8_peg_159 : decode cX8_peg 159 = .ok (.getfield 72, 3) := by decide +kernel
theorem dX8_peg_162 : decode cX8_peg 162 = .ok (.aload_n 0, 1) := by decide +kernel
theorem dX8_peg_163 : decode cX8_peg 163 = .ok (.getfield 130, 3) := by decide +kernel
theorem dX8_peg_166 : decode cX8_peg 166 = .ok (.aload_n 0, 1) := by decide +kernel
theorem dX8_peg_167 : decode cX8_peg 167 = .ok (.getfield 138, 3) := by decide +kernel
theorem dX8_peg_170 : decode cX8_peg 170 = .ok (.iastore, 1) := by decide +kernel
theorem dX8_peg_171 : decode cX8_peg 171 = .ok (.aload_n 0, 1) := by decide +kernel
theorem dX8_peg_172 : decode cX8_peg 172 = .ok (.getfield 75, 3) := by decide +kernel
theorem dX8_peg_175 : decode cX8_peg 175 = .ok (.aload_n 0, 1) := by decide +kernel
theorem dX8_peg_176 : decode cX8_peg 176 = .ok (.getfield 130, 3) := by decide +kernel
theorem dX8_peg_179 : decode cX8_peg 179 = .ok (.aload_n 0, 1) := by decide +kernel
theorem dX8_peg_180 : decode cX8_peg 180 = .ok (.getfield 16, 3) := by decide +kernel
theorem dX8_peg_183 : decode cX8_peg 183 = .ok (.iastore, 1) := by decide +kernel
theorem dX8_peg_184 : decode cX8_peg 184 = .ok (.aload_n 0, 1) := by decide +kernel
theorem dX8_peg_185 : decode cX8_peg 185 = .ok (.getfield 90, 3) := by decide +kernel
theorem dX8_peg_188 : decode cX8_peg 188 = .ok (.aload_n 0, 1) := by decide +kernel
theorem dX8_peg_189 : decode cX8_peg 189 = .ok (.getfield 130, 3) := by decide +kernel
theorem dX8_peg_192 : decode cX8_peg 192 = .ok (.iconst (-1), 1) := by decide +kernel
theorem dX8_peg_193 : decode cX8_peg 193 = .ok (.iastore, 1) := by decide +kernel
theorem dX8_peg_194 : decode cX8_peg 194 = .ok (.aload_n 0, 1) := by decide +kernel
theorem dX8_peg_195 : decode cX8_peg 195 = .ok (.dup, 1) := by decide +kernel
theorem dX8_peg_196 : decode cX8_peg 196 = .ok (.getfield 130, 3) := by decide +kernel
theorem dX8_peg_199 : decode cX8_peg 199 = .ok (.iconst 1, 1) := by decide +kernel
theorem dX8_peg_200 : decode cX8_peg 200 = .ok (.iadd, 1) := by decide +kernel
theorem dX8_peg_201 : decode cX8_peg 201 = .ok (.putfield 130, 3) := by decide +kernel
theorem dX8_peg_204 : decode cX8_peg 204 = .ok (.aload_n 0, 1) := by decide +kernel
theorem dX8_peg_205 : decode cX8_peg 205 = .ok (.getfield 130, 3) := by decide +kernel
theorem dX8_peg_208 : decode cX8_peg 208 = .ok (.iconst 1, 1) := by decide +kernel
theorem dX8_peg_209 : decode cX8_peg 209 = .ok (.isub, 1) := by decide +kernel
theorem dX8_peg_210 : decode cX8_peg 210 = .ok (.ireturn, 1) := by decide +kernel
theorem dX8_right_0 : decode cX8_right 0 = .ok (.aload_n 0, 1) := by decide +kernel
theorem dX8_right_1 : decode cX8_right 1 = .ok (.iload_n 1, 1) := by decide +kernel
theorem dX8_right_2 : decode cX8_right 2 = .ok (.invokevirtual 176, 3) := by decide +kernel
theorem dX8_right_5 : decode cX8_right 5 = .ok (.istore_n 3, 1) := by decide +kernel
theorem dX8_right_6 : decode cX8_right 6 = .ok (.aload_n 0, 1) := by decide +kernel
theorem dX8_right_7 : decode cX8_right 7 = .ok (.iload_n 3, 1) := by decide +kernel
theorem dX8_right_8 : decode cX8_right 8 = .ok (.ifCond .ne 7, 3) := by decide +kernel
theorem dX8_right_11 : decode cX8_right 11 = .ok (.iconst 1, 1) := by decide +kernel
theorem dX8_right_12 : decode cX8_right 12 = .ok (.goto 40, 3) := by decide +kernel
theorem dX8_right_15 : decode cX8_right 15 = .ok (.iload_n 2, 1) := by decide +kernel
theorem dX8_right_16 : decode cX8_right 16 = .ok (.iconst 1, 1) := by decide +kernel
theorem dX8_right_17 : decode cX8_right 17 = .ok (.sipush 200, 3) := by decide +kernel
theorem dX8_right_20 : decode cX8_right 20 = .ok (.invokestatic 123, 3) := by decide +kernel
theorem dX8_right_23 : decode cX8_right 23 = .ok (.ifCond .ne 7, 3) := by decide +kernel
theorem dX8_right_26 : decode cX8_right 26 = .ok (.iconst 2, 1) := by decide +kernel
theorem dX8_right_27 : decode cX8_right 27 = .ok (.goto 25, 3) := by decide +kernel
theorem dX8_right_30 : decode cX8_right 30 = .ok (.aload_n 0, 1) := by decide +kernel
theorem dX8_right_31 : decode cX8_right 31 = .ok (.iload_n 1, 1) := by decide +kernel
theorem dX8_right_32 : decode cX8_right 32 = .ok (.invokevirtual 155, 3) := by decide +kernel
theorem dX8_right_35 : decode cX8_right 35 = .ok (.ifCond .ne 12, 3) := by decide +kernel
theorem dX8_right_38 : decode cX8_right 38 = .ok (.aload_n 0, 1) := by decide +kernel
theorem dX8_right_39 : decode cX8_right 39 = .ok (.getfield 183, 3) := by decide +kernel
theorem dX8_right_42 : decode cX8_right 42 = .ok (.bipush 20, 2) := by decide +kernel
theorem dX8_right_44 : decode cX8_right 44 = .ok (.if_icmp .ne 7, 3) := by decide +kernel
theorem dX8_right_47 : decode cX8_right 47 = .ok (.iconst 3, 1) := by decide +kernel
theorem dX8_right_48 : decode cX8_right 48 = .ok (.goto 4, 3) := by decide +kernel
theorem dX8_right_51 : decode cX8_right 51 = .ok (.iconst 0, 1) := by decide +kernel
theorem dX8_right_52 : decode cX8_right 52 = .ok (.invokevirtual 145, 3) := by decide +kernel
theorem dX8_right_55 : decode cX8_right 55 = .ok (.ifCond .ne 5, 3) := by decide +kernel
theorem dX8_right_58 : decode cX8_right 58 = .ok (.iconst 0, 1) := by decide +kernel
theorem dX8_right_59 : decode cX8_right 59 = .ok (.ireturn, 1) := by decide +kernel
theorem dX8_right_60 : decode cX8_right 60 = .ok (.aload_n 0, 1) := by decide +kernel
theorem dX8_right_61 : decode cX8_right 61 = .ok (.getfield 93, 3) := by decide +kernel
theorem dX8_right_64 : decode cX8_right 64 = .ok (.aload_n 0, 1) := by decide +kernel
theorem dX8_right_65 : decode cX8_right 65 = .ok (.getfield 183, 3) := by decide +kernel
theorem dX8_right_68 : decode cX8_right 68 = .ok (.iload_n 1, 1) := by decide +kernel
theorem dX8_right_69 : decode cX8_right 69 = .ok (.iastore, 1) := by decide +kernel
theorem dX8_right_70 : decode cX8_right 70 = .ok (.aload_n 0, 1) := by decide +kernel
theorem dX8_right_71 : decode cX8_right 71 = .ok (.getfield 96, 3) := by decide +kernel
theorem dX8_right_74 : decode cX8_right 74 = .ok (.aload_n 0, 1) := by decide +kernel
theorem dX8_right_75 : decode cX8_right 75 = .ok (.getfield 183, 3) := by decide +kernel
theorem dX8_right_78 : decode cX8_right 78 = .ok (.iload_n 2, 1) := by decide +kernel
theorem dX8_right_79 : decode cX8_right 79 = .ok (.iastore, 1) := by decide +kernel
theorem dX8_right_80 : decode cX8_right 80 = .ok (.aload_n 0, 1) := by decide +kernel
theorem dX8_right_81 : decode cX8_right 81 = .ok (.dup, 1) := by decide +kernel
theorem dX8_right_82 : decode cX8_right 82 = .ok (.getfield 183, 3) := by decide +kernel
theorem dX8_right_85 : decode cX8_right 85 = .ok (.iconst 1, 1) := by decide +kernel
theorem dX8_right_86 : decode cX8_right 86 = .ok (.iadd, 1) := by decide +kernel
theorem dX8_right_87 : decode cX8_right 87 = .ok (.putfield 183, 3) := by decide +kernel
theorem dX8_right_90 : decode cX8_right 90 = .ok (.aload_n 0, 1) := by decide +kernel
theorem dX8_right_91 : decode cX8_right 91 = .ok (.getfield 183, 3) := by decide +kernel
theorem dX8_right_94 : decode cX8_right 94 = .ok (.iconst 1, 1) := by decide +kernel
theorem dX8_right_95 : decode cX8_right 95 = .ok (.isub, 1) := by decide +kernel
theorem dX8_right_96 : decode cX8_right 96 = .ok (.ireturn, 1) := by decide +kernel
theorem dX8_getsOf_0 : decode cX8_getsOf 0 = .ok (.aload_n 0, 1) := by decide +kernel
theorem dX8_getsOf_1 : decode cX8_getsOf 1 = .ok (.getfield 7, 3) := by decide +kernel
theorem dX8_getsOf_4 : decode cX8_getsOf 4 = .ok (.istore_n 2, 1) := by decide +kernel
theorem dX8_getsOf_5 : decode cX8_getsOf 5 = .ok (.iconst 0, 1) := by decide +kernel
theorem dX8_getsOf_6 : decode cX8_getsOf 6 = .ok (.istore_n 3, 1) := by decide +kernel
theorem dX8_getsOf_7 : decode cX8_getsOf 7 = .ok (.iconst 0, 1) := by decide +kernel
theorem dX8_getsOf_8 : decode cX8_getsOf 8 = .ok (.istore 4, 2) := by decide +kernel
theorem dX8_getsOf_10 : decode cX8_getsOf 10 = .ok (.iload 4, 2) := by decide +kernel
theorem dX8_getsOf_12 : decode cX8_getsOf 12 = .ok (.iload_n 1, 1) := by decide +kernel
theorem dX8_getsOf_13 : decode cX8_getsOf 13 = .ok (.if_icmp .gt 43, 3) := by decide +kernel
theorem dX8_getsOf_16 : decode cX8_getsOf 16 = .ok (.aload_n 0, 1) := by decide +kernel
theorem dX8_getsOf_17 : decode cX8_getsOf 17 = .ok (.aload_n 0, 1) := by decide +kernel
theorem dX8_getsOf_18 : decode cX8_getsOf 18 = .ok (.getfield 93, 3) := by decide +kernel
theorem dX8_getsOf_21 : decode cX8_getsOf 21 = .ok (.iload 4, 2) := by decide +kernel
theorem dX8_getsOf_23 : decode cX8_getsOf 23 = .ok (.iaload, 1) := by decide +kernel
theorem dX8_getsOf_24 : decode cX8_getsOf 24 = .ok (.invokevirtual 155, 3) := by decide +kernel
theorem dX8_getsOf_27 : decode cX8_getsOf 27 = .ok (.ifCond .eq 7, 3) := by decide +kernel
theorem dX8_getsOf_30 : decode cX8_getsOf 30 = .ok (.iconst 0, 1) := by decide +kernel
theorem dX8_getsOf_31 : decode cX8_getsOf 31 = .ok (.goto 14, 3) := by decide +kernel
theorem dX8_getsOf_34 : decode cX8_getsOf 34 = .ok (.aload_n 0, 1) := by decide +kernel
theorem dX8_getsOf_35 : decode cX8_getsOf 35 = .ok (.getfield 96, 3) := by decide +kernel
theorem dX8_getsOf_38 : decode cX8_getsOf 38 = .ok (.iload 4, 2) := by decide +kernel
theorem dX8_getsOf_40 : decode cX8_getsOf 40 = .ok (.iaload, 1) := by decide +kernel
theorem dX8_getsOf_41 : decode cX8_getsOf 41 = .ok (.iload_n 2, 1) := by decide +kernel
theorem dX8_getsOf_42 : decode cX8_getsOf 42 = .ok (.invokestatic 148, 3) := by decide +kernel
theorem dX8_getsOf_45 : decode cX8_getsOf 45 = .ok (.istore_n 3, 1) := by decide +kernel
theorem dX8_getsOf_46 : decode cX8_getsOf 46 = .ok (.iload_n 2, 1) := by decide +kernel
theorem dX8_getsOf_47 : decode cX8_getsOf 47 = .ok (.iload_n 3, 1) := by decide +kernel
theorem dX8_getsOf_48 : decode cX8_getsOf 48 = .ok (.isub, 1) := by decide +kernel
theorem dX8_getsOf_49 : decode cX8_getsOf 49 = .ok (.istore_n 2, 1) := by decide +kernel
theorem dX8_getsOf_50 : decode cX8_getsOf 50 = .ok (.iinc 4 1, 3) := by decide +kernel
theorem dX8_getsOf_53 : decode cX8_getsOf 53 = .ok (.goto (-43), 3) := by decide +kernel
theorem dX8_getsOf_56 : decode cX8_getsOf 56 = .ok (.iload_n 3, 1) := by decide +kernel
theorem dX8_getsOf_57 : decode cX8_getsOf 57 = .ok (.ireturn, 1) := by decide +kernel
theorem dX8_inchesOf_0 : decode cX8_inchesOf 0 = .ok (.iconst 0, 1) := by decide +kernel
theorem dX8_inchesOf_1 : decode cX8_inchesOf 1 = .ok (.istore_n 2, 1) := by decide +kernel
theorem dX8_inchesOf_2 : decode cX8_inchesOf 2 = .ok (.iconst 0, 1) := by decide +kernel
theorem dX8_inchesOf_3 : decode cX8_inchesOf 3 = .ok (.istore_n 3, 1) := by decide +kernel
theorem dX8_inchesOf_4 : decode cX8_inchesOf 4 = .ok (.iload_n 3, 1) := by decide +kernel
theorem dX8_inchesOf_5 : decode cX8_inchesOf 5 = .ok (.aload_n 0, 1) := by decide +kernel
theorem dX8_inchesOf_6 : decode cX8_inchesOf 6 = .ok (.getfield 183, 3) := by decide +kernel
theorem dX8_inchesOf_9 : decode cX8_inchesOf 9 = .ok (.if_icmp .ge 31, 3) := by decide +kernel
theorem dX8_inchesOf_12 : decode cX8_inchesOf 12 = .ok (.iload_n 2, 1) := by decide +kernel
theorem dX8_inchesOf_13 : decode cX8_inchesOf 13 = .ok (.aload_n 0, 1) := by decide +kernel
theorem dX8_inchesOf_14 : decode cX8_inchesOf 14 = .ok (.getfield 93, 3) := by decide +kernel
theorem dX8_inchesOf_17 : decode cX8_inchesOf 17 = .ok (.iload_n 3, 1) := by decide +kernel
theorem dX8_inchesOf_18 : decode cX8_inchesOf 18 = .ok (.iaload, 1) := by decide +kernel
theorem dX8_inchesOf_19 : decode cX8_inchesOf 19 = .ok (.iload_n 1, 1) := by decide +kernel
theorem dX8_inchesOf_20 : decode cX8_inchesOf 20 = .ok (.if_icmp .ne 11, 3) := by decide +kernel
theorem dX8_inchesOf_23 : decode cX8_inchesOf 23 = .ok (.aload_n 0, 1) := by decide +kernel
theorem dX8_inchesOf_24 : decode cX8_inchesOf 24 = .ok (.iload_n 3, 1) := by decide +kernel
theorem dX8_inchesOf_25 : decode cX8_inchesOf 25 = .ok (.invokevirtual 186, 3) := by decide +kernel
theorem dX8_inchesOf_28 : decode cX8_inchesOf 28 = .ok (.goto 4, 3) := by decide +kernel
theorem dX8_inchesOf_31 : decode cX8_inchesOf 31 = .ok (.iconst 0, 1) := by decide +kernel
theorem dX8_inchesOf_32 : decode cX8_inchesOf 32 = .ok (.iadd, 1) := by decide +kernel
theorem dX8_inchesOf_33 : decode cX8_inchesOf 33 = .ok (.istore_n 2, 1) := by decide +kernel
theorem dX8_inchesOf_34 : decode cX8_inchesOf 34 = .ok (.iinc 3 1, 3) := by decide +kernel
theorem dX8_inchesOf_37 : decode cX8_inchesOf 37 = .ok (.goto (-33), 3) := by decide +kernel
theorem dX8_inchesOf_40 : decode cX8_inchesOf 40 = .ok (.iload_n 2, 1) := by decide +kernel
theorem dX8_inchesOf_41 : decode cX8_inchesOf 41 = .ok (.ireturn, 1) := by decide +kernel
theorem dX8_needed_0 : decode cX8_needed 0 = .ok (.iload_n 0, 1) := by decide +kernel
theorem dX8_needed_1 : decode cX8_needed 1 = .ok (.ifCond .ne 7, 3) := by decide +kernel
theorem dX8_needed_4 : decode cX8_needed 4 = .ok (.iconst 0, 1) := by decide +kernel
theorem dX8_needed_5 : decode cX8_needed 5 = .ok (.goto 24, 3) := by decide +kernel
theorem dX8_needed_8 : decode cX8_needed 8 = .ok (.iload_n 0, 1) := by decide +kernel
theorem dX8_needed_9 : decode cX8_needed 9 = .ok (.iconst 1, 1) := by decide +kernel
theorem dX8_needed_10 : decode cX8_needed 10 = .ok (.if_icmp .ne 7, 3) := by decide +kernel
theorem dX8_needed_13 : decode cX8_needed 13 = .ok (.iconst 2, 1) := by decide +kernel
theorem dX8_needed_14 : decode cX8_needed 14 = .ok (.goto 15, 3) := by decide +kernel
theorem dX8_needed_17 : decode cX8_needed 17 = .ok (.iload_n 0, 1) := by decide +kernel
theorem dX8_needed_18 : decode cX8_needed 18 = .ok (.iconst 2, 1) := by decide +kernel
theorem dX8_needed_19 : decode cX8_needed 19 = .ok (.if_icmp .ne 8, 3) := by decide +kernel
theorem dX8_needed_22 : decode cX8_needed 22 = .ok (.bipush 10, 2) := by decide +kernel
theorem dX8_needed_24 : decode cX8_needed 24 = .ok (.goto 5, 3) := by decide +kernel
theorem dX8_needed_27 : decode cX8_needed 27 = .ok (.bipush 40, 2) := by decide +kernel
theorem dX8_needed_29 : decode cX8_needed 29 = .ok (.ireturn, 1) := by decide +kernel
theorem dX8_recovers_0 : decode cX8_recovers 0 = .ok (.iload_n 0, 1) := by decide +kernel
theorem dX8_recovers_1 : decode cX8_recovers 1 = .ok (.ifCond .ne 8, 3) := by decide +kernel
theorem dX8_recovers_4 : decode cX8_recovers 4 = .ok (.bipush 20, 2) := by decide +kernel
theorem dX8_recovers_6 : decode cX8_recovers 6 = .ok (.goto 27, 3) := by decide +kernel
theorem dX8_recovers_9 : decode cX8_recovers 9 = .ok (.iload_n 0, 1) := by decide +kernel
theorem dX8_recovers_10 : decode cX8_recovers 10 = .ok (.iconst 1, 1) := by decide +kernel
theorem dX8_recovers_11 : decode cX8_recovers 11 = .ok (.if_icmp .ne 8, 3) := by decide +kernel
theorem dX8_recovers_14 : decode cX8_recovers 14 = .ok (.bipush 100, 2) := by decide +kernel
theorem dX8_recovers_16 : decode cX8_recovers 16 = .ok (.goto 17, 3) := by decide +kernel
theorem dX8_recovers_19 : decode cX8_recovers 19 = .ok (.iload_n 0, 1) := by decide +kernel
theorem dX8_recovers_20 : decode cX8_recovers 20 = .ok (.iconst 2, 1) := by decide +kernel
theorem dX8_recovers_21 : decode cX8_recovers 21 = .ok (.if_icmp .ne 9, 3) := by decide +kernel
theorem dX8_recovers_24 : decode cX8_recovers 24 = .ok (.sipush 400, 3) := by decide +kernel
theorem dX8_recovers_27 : decode cX8_recovers 27 = .ok (.goto 6, 3) := by decide +kernel
theorem dX8_recovers_30 : decode cX8_recovers 30 = .ok (.sipush 2000, 3) := by decide +kernel
theorem dX8_recovers_33 : decode cX8_recovers 33 = .ok (.istore_n 3, 1) := by decide +kernel
theorem dX8_recovers_34 : decode cX8_recovers 34 = .ok (.iload_n 0, 1) := by decide +kernel
theorem dX8_recovers_35 : decode cX8_recovers 35 = .ok (.ifCond .ne 8, 3) := by decide +kernel
theorem dX8_recovers_38 : decode cX8_recovers 38 = .ok (.bipush 90, 2) := by decide +kernel
theorem dX8_recovers_40 : decode cX8_recovers 40 = .ok (.goto 25, 3) := by decide +kernel
theorem dX8_recovers_43 : decode cX8_recovers 43 = .ok (.iload_n 0, 1) := by decide +kernel
theorem dX8_recovers_44 : decode cX8_recovers 44 = .ok (.iconst 1, 1) := by decide +kernel
theorem dX8_recovers_45 : decode cX8_recovers 45 = .ok (.if_icmp .ne 8, 3) := by decide +kernel
theorem dX8_recovers_48 : decode cX8_recovers 48 = .ok (.bipush 70, 2) := by decide +kernel
theorem dX8_recovers_50 : decode cX8_recovers 50 = .ok (.goto 15, 3) := by decide +kernel
theorem dX8_recovers_53 : decode cX8_recovers 53 = .ok (.iload_n 0, 1) := by decide +kernel
theorem dX8_recovers_54 : decode cX8_recovers 54 = .ok (.iconst 2, 1) := by decide +kernel
theorem dX8_recovers_55 : decode cX8_recovers 55 = .ok (.if_icmp .ne 8, 3) := by decide +kernel
theorem dX8_recovers_58 : decode cX8_recovers 58 = .ok (.bipush 80, 2) := by decide +kernel
theorem dX8_recovers_60 : decode cX8_recovers 60 = .ok (.goto 5, 3) := by decide +kernel
theorem dX8_recovers_63 : decode cX8_recovers 63 = .ok (.bipush 50, 2) := by decide +kernel
theorem dX8_recovers_65 : decode cX8_recovers 65 = .ok (.istore 4, 2) := by decide +kernel
theorem dX8_recovers_67 : decode cX8_recovers 67 = .ok (.iload_n 1, 1) := by decide +kernel
theorem dX8_recovers_68 : decode cX8_recovers 68 = .ok (.iload_n 3, 1) := by decide +kernel
theorem dX8_recovers_69 : decode cX8_recovers 69 = .ok (.invokestatic 148, 3) := by decide +kernel
theorem dX8_recovers_72 : decode cX8_recovers 72 = .ok (.iload 4, 2) := by decide +kernel
theorem dX8_recovers_74 : decode cX8_recovers 74 = .ok (.iconst 3, 1) := by decide +kernel
theorem dX8_recovers_75 : decode cX8_recovers 75 = .ok (.iload_n 2, 1) := by decide +kernel
theorem dX8_recovers_76 : decode cX8_recovers 76 = .ok (.imul, 1) := by decide +kernel
theorem dX8_recovers_77 : decode cX8_recovers 77 = .ok (.isub, 1) := by decide +kernel
theorem dX8_recovers_78 : decode cX8_recovers 78 = .ok (.imul, 1) := by decide +kernel
theorem dX8_recovers_79 : decode cX8_recovers 79 = .ok (.bipush 100, 2) := by decide +kernel
theorem dX8_recovers_81 : decode cX8_recovers 81 = .ok (.idiv, 1) := by decide +kernel
theorem dX8_recovers_82 : decode cX8_recovers 82 = .ok (.ireturn, 1) := by decide +kernel
theorem dX8_takes_0 : decode cX8_takes 0 = .ok (.iload_n 1, 1) := by decide +kernel
theorem dX8_takes_1 : decode cX8_takes 1 = .ok (.iload_n 0, 1) := by decide +kernel
theorem dX8_takes_2 : decode cX8_takes 2 = .ok (.ifCond .ne 8, 3) := by decide +kernel
theorem dX8_takes_5 : decode cX8_takes 5 = .ok (.bipush 20, 2) := by decide +kernel
theorem dX8_takes_7 : decode cX8_takes 7 = .ok (.goto 27, 3) := by decide +kernel
theorem dX8_takes_10 : decode cX8_takes 10 = .ok (.iload_n 0, 1) := by decide +kernel
theorem dX8_takes_11 : decode cX8_takes 11 = .ok (.iconst 1, 1) := by decide +kernel
theorem dX8_takes_12 : decode cX8_takes 12 = .ok (.if_icmp .ne 8, 3) := by decide +kernel
theorem dX8_takes_15 : decode cX8_takes 15 = .ok (.bipush 100, 2) := by decide +kernel
theorem dX8_takes_17 : decode cX8_takes 17 = .ok (.goto 17, 3) := by decide +kernel
theorem dX8_takes_20 : decode cX8_takes 20 = .ok (.iload_n 0, 1) := by decide +kernel
theorem dX8_takes_21 : decode cX8_takes 21 = .ok (.iconst 2, 1) := by decide +kernel
theorem dX8_takes_22 : decode cX8_takes 22 = .ok (.if_icmp .ne 9, 3) := by decide +kernel
theorem dX8_takes_25 : decode cX8_takes 25 = .ok (.sipush 400, 3) := by decide +kernel
theorem dX8_takes_28 : decode cX8_takes 28 = .ok (.goto 6, 3) := by decide +kernel
theorem dX8_takes_31 : decode cX8_takes 31 = .ok (.sipush 2000, 3) := by decide +kernel
theorem dX8_takes_34 : decode cX8_takes 34 = .ok (.invokestatic 148, 3) := by decide +kernel
theorem dX8_takes_37 : decode cX8_takes 37 = .ok (.ireturn, 1) := by decide +kernel
theorem dX8_shares_0 : decode cX8_shares 0 = .ok (.iload_n 2, 1) := by decide +kernel
theorem dX8_shares_1 : decode cX8_shares 1 = .ok (.istore_n 3, 1) := by decide +kernel
theorem dX8_shares_2 : decode cX8_shares 2 = .ok (.iconst 0, 1) := by decide +kernel
theorem dX8_shares_3 : decode cX8_shares 3 = .ok (.istore 4, 2) := by decide +kernel
theorem dX8_shares_5 : decode cX8_shares 5 = .ok (.iload 4, 2) := by decide +kernel
theorem dX8_shares_7 : decode cX8_shares 7 = .ok (.aload_n 0, 1) := by decide +kernel
theorem dX8_shares_8 : decode cX8_shares 8 = .ok (.getfield 127, 3) := by decide +kernel
theorem dX8_shares_11 : decode cX8_shares 11 = .ok (.if_icmp .ge 45, 3) := by decide +kernel
theorem dX8_shares_14 : decode cX8_shares 14 = .ok (.iload_n 2, 1) := by decide +kernel
theorem dX8_shares_15 : decode cX8_shares 15 = .ok (.aload_n 0, 1) := by decide +kernel
theorem dX8_shares_16 : decode cX8_shares 16 = .ok (.getfield 56, 3) := by decide +kernel
theorem dX8_shares_19 : decode cX8_shares 19 = .ok (.bipush 12, 2) := by decide +kernel
theorem dX8_shares_21 : decode cX8_shares 21 = .ok (.iload_n 1, 1) := by decide +kernel
theorem dX8_shares_22 : decode cX8_shares 22 = .ok (.imul, 1) := by decide +kernel
theorem dX8_shares_23 : decode cX8_shares 23 = .ok (.iload 4, 2) := by decide +kernel
theorem dX8_shares_25 : decode cX8_shares 25 = .ok (.iadd, 1) := by decide +kernel
theorem dX8_shares_26 : decode cX8_shares 26 = .ok (.iaload, 1) := by decide +kernel
theorem dX8_shares_27 : decode cX8_shares 27 = .ok (.imul, 1) := by decide +kernel
theorem dX8_shares_28 : decode cX8_shares 28 = .ok (.bipush 100, 2) := by decide +kernel
theorem dX8_shares_30 : decode cX8_shares 30 = .ok (.idiv, 1) := by decide +kernel
theorem dX8_shares_31 : decode cX8_shares 31 = .ok (.istore 5, 2) := by decide +kernel
theorem dX8_shares_33 : decode cX8_shares 33 = .ok (.aload_n 0, 1) := by decide +kernel
theorem dX8_shares_34 : decode cX8_shares 34 = .ok (.getfield 35, 3) := by decide +kernel
theorem dX8_shares_37 : decode cX8_shares 37 = .ok (.iload 4, 2) := by decide +kernel
theorem dX8_shares_39 : decode cX8_shares 39 = .ok (.dup2, 1) := by decide +kernel
theorem dX8_shares_40 : decode cX8_shares 40 = .ok (.iaload, 1) := by decide +kernel
theorem dX8_shares_41 : decode cX8_shares 41 = .ok (.iload 5, 2) := by decide +kernel
theorem dX8_shares_43 : decode cX8_shares 43 = .ok (.iadd, 1) := by decide +kernel
theorem dX8_shares_44 : decode cX8_shares 44 = .ok (.iastore, 1) := by decide +kernel
theorem dX8_shares_45 : decode cX8_shares 45 = .ok (.iload_n 3, 1) := by decide +kernel
theorem dX8_shares_46 : decode cX8_shares 46 = .ok (.iload 5, 2) := by decide +kernel
theorem dX8_shares_48 : decode cX8_shares 48 = .ok (.isub, 1) := by decide +kernel
theorem dX8_shares_49 : decode cX8_shares 49 = .ok (.istore_n 3, 1) := by decide +kernel
theorem dX8_shares_50 : decode cX8_shares 50 = .ok (.iinc 4 1, 3) := by decide +kernel
theorem dX8_shares_53 : decode cX8_shares 53 = .ok (.goto (-48), 3) := by decide +kernel
theorem dX8_shares_56 : decode cX8_shares 56 = .ok (.aload_n 0, 1) := by decide +kernel
theorem dX8_shares_57 : decode cX8_shares 57 = .ok (.getfield 35, 3) := by decide +kernel
theorem dX8_shares_60 : decode cX8_shares 60 = .ok (.iload_n 1, 1) := by decide +kernel
theorem dX8_shares_61 : decode cX8_shares 61 = .ok (.dup2, 1) := by decide +kernel
theorem dX8_shares_62 : decode cX8_shares 62 = .ok (.iaload, 1) := by decide +kernel
theorem dX8_shares_63 : decode cX8_shares 63 = .ok (.iload_n 3, 1) := by decide +kernel
theorem dX8_shares_64 : decode cX8_shares 64 = .ok (.iadd, 1) := by decide +kernel
theorem dX8_shares_65 : decode cX8_shares 65 = .ok (.iastore, 1) := by decide +kernel
theorem dX8_shares_66 : decode cX8_shares 66 = .ok (.return_, 1) := by decide +kernel
theorem dX8_mayWork_0 : decode cX8_mayWork 0 = .ok (.aload_n 0, 1) := by decide +kernel
theorem dX8_mayWork_1 : decode cX8_mayWork 1 = .ok (.iload_n 2, 1) := by decide +kernel
theorem dX8_mayWork_2 : decode cX8_mayWork 2 = .ok (.invokevirtual 172, 3) := by decide +kernel
theorem dX8_mayWork_5 : decode cX8_mayWork 5 = .ok (.istore 4, 2) := by decide +kernel
theorem dX8_mayWork_7 : decode cX8_mayWork 7 = .ok (.iload 4, 2) := by decide +kernel
theorem dX8_mayWork_9 : decode cX8_mayWork 9 = .ok (.iconst (-1), 1) := by decide +kernel
theorem dX8_mayWork_10 : decode cX8_mayWork 10 = .ok (.if_icmp .ne 15, 3) := by decide +kernel
theorem dX8_mayWork_13 : decode cX8_mayWork 13 = .ok (.iload_n 3, 1) := by decide +kernel
theorem dX8_mayWork_14 : decode cX8_mayWork 14 = .ok (.ifCond .ne 7, 3) := by decide +kernel
theorem dX8_mayWork_17 : decode cX8_mayWork 17 = .ok (.iconst 1, 1) := by decide +kernel
theorem dX8_mayWork_18 : decode cX8_mayWork 18 = .ok (.goto 23, 3) := by decide +kernel
theorem dX8_mayWork_21 : decode cX8_mayWork 21 = .ok (.iconst 0, 1) := by decide +kernel
theorem dX8_mayWork_22 : decode cX8_mayWork 22 = .ok (.goto 19, 3) := by decide +kernel
theorem dX8_mayWork_25 : decode cX8_mayWork 25 = .ok (.aload_n 0, 1) := by decide +kernel
theorem dX8_mayWork_26 : decode cX8_mayWork 26 = .ok (.getfield 59, 3) := by decide +kernel
theorem dX8_mayWork_29 : decode cX8_mayWork 29 = .ok (.iload 4, 2) := by decide +kernel
theorem dX8_mayWork_31 : decode cX8_mayWork 31 = .ok (.iaload, 1) := by decide +kernel
theorem dX8_mayWork_32 : decode cX8_mayWork 32 = .ok (.iload_n 1, 1) := by decide +kernel
theorem dX8_mayWork_33 : decode cX8_mayWork 33 = .ok (.if_icmp .ne 7, 3) := by decide +kernel
theorem dX8_mayWork_36 : decode cX8_mayWork 36 = .ok (.iconst 1, 1) := by decide +kernel
theorem dX8_mayWork_37 : decode cX8_mayWork 37 = .ok (.goto 4, 3) := by decide +kernel
theorem dX8_mayWork_40 : decode cX8_mayWork 40 = .ok (.iconst 0, 1) := by decide +kernel
theorem dX8_mayWork_41 : decode cX8_mayWork 41 = .ok (.ireturn, 1) := by decide +kernel
theorem dX8_work_0 : decode cX8_work 0 = .ok (.aload_n 0, 1) := by decide +kernel
theorem dX8_work_1 : decode cX8_work 1 = .ok (.iload_n 1, 1) := by decide +kernel
theorem dX8_work_2 : decode cX8_work 2 = .ok (.invokevirtual 176, 3) := by decide +kernel
theorem dX8_work_5 : decode cX8_work 5 = .ok (.ifCond .eq 14, 3) := by decide +kernel
theorem dX8_work_8 : decode cX8_work 8 = .ok (.iload_n 2, 1) := by decide +kernel
theorem dX8_work_9 : decode cX8_work 9 = .ok (.invokestatic 134, 3) := by decide +kernel
theorem dX8_work_12 : decode cX8_work 12 = .ok (.ifCond .eq 7, 3) := by decide +kernel
theorem dX8_work_15 : decode cX8_work 15 = .ok (.iconst 1, 1) := by decide +kernel
theorem dX8_work_16 : decode cX8_work 16 = .ok (.goto 4, 3) := by decide +kernel
theorem dX8_work_19 : decode cX8_work 19 = .ok (.iconst 0, 1) := by decide +kernel
theorem dX8_work_20 : decode cX8_work 20 = .ok (.istore 4, 2) := by decide +kernel
theorem dX8_work_22 : decode cX8_work 22 = .ok (.iload 4, 2) := by decide +kernel
theorem dX8_work_24 : decode cX8_work 24 = .ok (.ifCond .eq 14, 3) := by decide +kernel
theorem dX8_work_27 : decode cX8_work 27 = .ok (.iload_n 3, 1) := by decide +kernel
theorem dX8_work_28 : decode cX8_work 28 = .ok (.invokestatic 189, 3) := by decide +kernel
theorem dX8_work_31 : decode cX8_work 31 = .ok (.ifCond .eq 7, 3) := by decide +kernel
theorem dX8_work_34 : decode cX8_work 34 = .ok (.iconst 1, 1) := by decide +kernel
theorem dX8_work_35 : decode cX8_work 35 = .ok (.goto 4, 3) := by decide +kernel
theorem dX8_work_38 : decode cX8_work 38 = .ok (.iconst 0, 1) := by decide +kernel
theorem dX8_work_39 : decode cX8_work 39 = .ok (.istore 5, 2) := by decide +kernel
theorem dX8_work_41 : decode cX8_work 41 = .ok (.iload 5, 2) := by decide +kernel
theorem dX8_work_43 : decode cX8_work 43 = .ok (.ifCond .eq 50, 3) := by decide +kernel
theorem dX8_work_46 : decode cX8_work 46 = .ok (.aload_n 0, 1) := by decide +kernel
theorem dX8_work_47 : decode cX8_work 47 = .ok (.iload_n 1, 1) := by decide +kernel
theorem dX8_work_48 : decode cX8_work 48 = .ok (.invokevirtual 155, 3) := by decide +kernel
theorem dX8_work_51 : decode cX8_work 51 = .ok (.ifCond .ne 42, 3) := by decide +kernel
theorem dX8_work_54 : decode cX8_work 54 = .ok (.aload_n 0, 1) := by decide +kernel
theorem dX8_work_55 : decode cX8_work 55 = .ok (.getfield 53, 3) := by decide +kernel
theorem dX8_work_58 : decode cX8_work 58 = .ok (.iload_n 1, 1) := by decide +kernel
theorem dX8_work_59 : decode cX8_work 59 = .ok (.iaload, 1) := by decide +kernel
theorem dX8_work_60 : decode cX8_work 60 = .ok (.aload_n 0, 1) := by decide +kernel
theorem dX8_work_61 : decode cX8_work 61 = .ok (.getfield 138, 3) := by decide +kernel
theorem dX8_work_64 : decode cX8_work 64 = .ok (.if_icmp .eq 29, 3) := by decide +kernel
theorem dX8_work_67 : decode cX8_work 67 = .ok (.aload_n 0, 1) := by decide +kernel
theorem dX8_work_68 : decode cX8_work 68 = .ok (.iload_n 1, 1) := by decide +kernel
theorem dX8_work_69 : decode cX8_work 69 = .ok (.iload_n 2, 1) := by decide +kernel
theorem dX8_work_70 : decode cX8_work 70 = .ok (.iload_n 3, 1) := by decide +kernel
theorem dX8_work_71 : decode cX8_work 71 = .ok (.invokevirtual 192, 3) := by decide +kernel
theorem dX8_work_74 : decode cX8_work 74 = .ok (.ifCond .eq 19, 3) := by decide +kernel
theorem dX8_work_77 : decode cX8_work 77 = .ok (.aload_n 0, 1) := by decide +kernel
theorem dX8_work_78 : decode cX8_work 78 = .ok (.iload_n 1, 1) := by decide +kernel
theorem dX8_work_79 : decode cX8_work 79 = .ok (.invokevirtual 195, 3) := by decide +kernel
theorem dX8_work_82 : decode cX8_work 82 = .ok (.iload_n 3, 1) := by decide +kernel
theorem dX8_work_83 : decode cX8_work 83 = .ok (.invokestatic 198, 3) := by decide +kernel
theorem dX8_work_86 : decode cX8_work 86 = .ok (.if_icmp .lt 7, 3) := by decide +kernel
theorem dX8_work_89 : decode cX8_work 89 = .ok (.iconst 1, 1) := by decide +kernel
theorem dX8_work_90 : decode cX8_work 90 = .ok (.goto 4, 3) := by decide +kernel
theorem dX8_work_93 : decode cX8_work 93 = .ok (.iconst 0, 1) := by decide +kernel
theorem dX8_work_94 : decode cX8_work 94 = .ok (.istore 6, 2) := by decide +kernel
theorem dX8_work_96 : decode cX8_work 96 = .ok (.aload_n 0, 1) := by decide +kernel
theorem dX8_work_97 : decode cX8_work 97 = .ok (.iload 4, 2) := by decide +kernel
theorem dX8_work_99 : decode cX8_work 99 = .ok (.ifCond .ne 7, 3) := by decide +kernel
theorem dX8_work_102 : decode cX8_work 102 = .ok (.iconst 1, 1) := by decide +kernel
theorem dX8_work_103 : decode cX8_work 103 = .ok (.goto 22, 3) := by decide +kernel
theorem dX8_work_106 : decode cX8_work 106 = .ok (.iload 5, 2) := by decide +kernel
theorem dX8_work_108 : decode cX8_work 108 = .ok (.ifCond .ne 7, 3) := by decide +kernel
theorem dX8_work_111 : decode cX8_work 111 = .ok (.iconst 2, 1) := by decide +kernel
theorem dX8_work_112 : decode cX8_work 112 = .ok (.goto 13, 3) := by decide +kernel
theorem dX8_work_115 : decode cX8_work 115 = .ok (.iload 6, 2) := by decide +kernel
theorem dX8_work_117 : decode cX8_work 117 = .ok (.ifCond .eq 7, 3) := by decide +kernel
theorem dX8_work_120 : decode cX8_work 120 = .ok (.iconst 0, 1) := by decide +kernel
theorem dX8_work_121 : decode cX8_work 121 = .ok (.goto 4, 3) := by decide +kernel
theorem dX8_work_124 : decode cX8_work 124 = .ok (.iconst 3, 1) := by decide +kernel
theorem dX8_work_125 : decode cX8_work 125 = .ok (.invokevirtual 145, 3) := by decide +kernel
theorem dX8_work_128 : decode cX8_work 128 = .ok (.ifCond .ne 5, 3) := by decide +kernel
theorem dX8_work_131 : decode cX8_work 131 = .ok (.iconst 0, 1) := by decide +kernel
theorem dX8_work_132 : decode cX8_work 132 = .ok (.ireturn, 1) := by decide +kernel
theorem dX8_work_133 : decode cX8_work 133 = .ok (.iload_n 3, 1) := by decide +kernel
theorem dX8_work_134 : decode cX8_work 134 = .ok (.aload_n 0, 1) := by decide +kernel
theorem dX8_work_135 : decode cX8_work 135 = .ok (.getfield 25, 3) := by decide +kernel
theorem dX8_work_138 : decode cX8_work 138 = .ok (.iload_n 2, 1) := by decide +kernel
theorem dX8_work_139 : decode cX8_work 139 = .ok (.iaload, 1) := by decide +kernel
theorem dX8_work_140 : decode cX8_work 140 = .ok (.invokestatic 201, 3) := by decide +kernel
theorem dX8_work_143 : decode cX8_work 143 = .ok (.istore 7, 2) := by decide +kernel
theorem dX8_work_145 : decode cX8_work 145 = .ok (.iload_n 3, 1) := by decide +kernel
theorem dX8_work_146 : decode cX8_work 146 = .ok (.aload_n 0, 1) := by decide +kernel
theorem dX8_work_147 : decode cX8_work 147 = .ok (.getfield 25, 3) := by decide +kernel
theorem dX8_work_150 : decode cX8_work 150 = .ok (.iload_n 2, 1) := by decide +kernel
theorem dX8_work_151 : decode cX8_work 151 = .ok (.iaload, 1) := by decide +kernel
theorem dX8_work_152 : decode cX8_work 152 = .ok (.aload_n 0, 1) := by decide +kernel
theorem dX8_work_153 : decode cX8_work 153 = .ok (.getfield 29, 3) := by decide +kernel
theorem dX8_work_156 : decode cX8_work 156 = .ok (.iload_n 2, 1) := by decide +kernel
theorem dX8_work_157 : decode cX8_work 157 = .ok (.iaload, 1) := by decide +kernel
theorem dX8_work_158 : decode cX8_work 158 = .ok (.invokestatic 204, 3) := by decide +kernel
theorem dX8_work_161 : decode cX8_work 161 = .ok (.istore 8, 2) := by decide +kernel
theorem dX8_work_163 : decode cX8_work 163 = .ok (.aload_n 0, 1) := by decide +kernel
theorem dX8_work_164 : decode cX8_work 164 = .ok (.getfield 25, 3) := by decide +kernel
theorem dX8_work_167 : decode cX8_work 167 = .ok (.iload_n 2, 1) := by decide +kernel
theorem dX8_work_168 : decode cX8_work 168 = .ok (.dup2, 1) := by decide +kernel
theorem dX8_work_169 : decode cX8_work 169 = .ok (.iaload, 1) := by decide +kernel
theorem dX8_work_170 : decode cX8_work 170 = .ok (.iload 7, 2) := by decide +kernel
theorem dX8_work_172 : decode cX8_work 172 = .ok (.isub, 1) := by decide +kernel
theorem dX8_work_173 : decode cX8_work 173 = .ok (.iastore, 1) := by decide +kernel
theorem dX8_work_174 : decode cX8_work 174 = .ok (.iload_n 2, 1) := by decide +kernel
theorem dX8_work_175 : decode cX8_work 175 = .ok (.bipush 39, 2) := by decide +kernel
theorem dX8_work_177 : decode cX8_work 177 = .ok (.if_icmp .ne 20, 3) := by decide +kernel
theorem dX8_work_180 : decode cX8_work 180 = .ok (.aload_n 0, 1) := by decide +kernel
theorem dX8_work_181 : decode cX8_work 181 = .ok (.dup, 1) := by decide +kernel
theorem dX8_work_182 : decode cX8_work 182 = .ok (.getfield 208, 3) := by decide +kernel
theorem dX8_work_185 : decode cX8_work 185 = .ok (.iload 7, 2) := by decide +kernel
theorem dX8_work_187 : decode cX8_work 187 = .ok (.iload 8, 2) := by decide +kernel
theorem dX8_work_189 : decode cX8_work 189 = .ok (.isub, 1) := by decide +kernel
theorem dX8_work_190 : decode cX8_work 190 = .ok (.iadd, 1) := by decide +kernel
theorem dX8_work_191 : decode cX8_work 191 = .ok (.putfield 208, 3) := by decide +kernel
theorem dX8_work_194 : decode cX8_work 194 = .ok (.goto 19, 3) := by decide +kernel
theorem dX8_work_197 : decode cX8_work 197 = .ok (.aload_n 0, 1) := by decide +kernel
theorem dX8_work_198 : decode cX8_work 198 = .ok (.getfield 25, 3) := by decide +kernel
theorem dX8_work_201 : decode cX8_work 201 = .ok (.iload_n 2, 1) := by decide +kernel
theorem dX8_work_202 : decode cX8_work 202 = .ok (.iconst 1, 1) := by decide +kernel
theorem dX8_work_203 : decode cX8_work 203 = .ok (.iadd, 1) := by decide +kernel
theorem dX8_work_204 : decode cX8_work 204 = .ok (.dup2, 1) := by decide +kernel
theorem dX8_work_205 : decode cX8_work 205 = .ok (.iaload, 1) := by decide +kernel
theorem dX8_work_206 : decode cX8_work 206 = .ok (.iload 7, 2) := by decide +kernel
theorem dX8_work_208 : decode cX8_work 208 = .ok (.iload 8, 2) := by decide +kernel
theorem dX8_work_210 : decode cX8_work 210 = .ok (.isub, 1) := by decide +kernel
theorem dX8_work_211 : decode cX8_work 211 = .ok (.iadd, 1) := by decide +kernel
theorem dX8_work_212 : decode cX8_work 212 = .ok (.iastore, 1) := by decide +kernel
theorem dX8_work_213 : decode cX8_work 213 = .ok (.aload_n 0, 1) := by decide +kernel
theorem dX8_work_214 : decode cX8_work 214 = .ok (.iload_n 1, 1) := by decide +kernel
theorem dX8_work_215 : decode cX8_work 215 = .ok (.iload 8, 2) := by decide +kernel
theorem dX8_work_217 : decode cX8_work 217 = .ok (.invokevirtual 211, 3) := by decide +kernel
theorem dX8_work_220 : decode cX8_work 220 = .ok (.aload_n 0, 1) := by decide +kernel
theorem dX8_work_221 : decode cX8_work 221 = .ok (.getfield 53, 3) := by decide +kernel
theorem dX8_work_224 : decode cX8_work 224 = .ok (.iload_n 1, 1) := by decide +kernel
theorem dX8_work_225 : decode cX8_work 225 = .ok (.aload_n 0, 1) := by decide +kernel
theorem dX8_work_226 : decode cX8_work 226 = .ok (.getfield 138, 3) := by decide +kernel
theorem dX8_work_229 : decode cX8_work 229 = .ok (.iastore, 1) := by decide +kernel
theorem dX8_work_230 : decode cX8_work 230 = .ok (.aload_n 0, 1) := by decide +kernel
theorem dX8_work_231 : decode cX8_work 231 = .ok (.iconst 1, 1) := by decide +kernel
theorem dX8_work_232 : decode cX8_work 232 = .ok (.putfield 141, 3) := by decide +kernel
theorem dX8_work_235 : decode cX8_work 235 = .ok (.aload_n 0, 1) := by decide +kernel
theorem dX8_work_236 : decode cX8_work 236 = .ok (.iload_n 2, 1) := by decide +kernel
theorem dX8_work_237 : decode cX8_work 237 = .ok (.invokevirtual 172, 3) := by decide +kernel
theorem dX8_work_240 : decode cX8_work 240 = .ok (.iconst (-1), 1) := by decide +kernel
theorem dX8_work_241 : decode cX8_work 241 = .ok (.if_icmp .eq 17, 3) := by decide +kernel
theorem dX8_work_244 : decode cX8_work 244 = .ok (.aload_n 0, 1) := by decide +kernel
theorem dX8_work_245 : decode cX8_work 245 = .ok (.getfield 72, 3) := by decide +kernel
theorem dX8_work_248 : decode cX8_work 248 = .ok (.aload_n 0, 1) := by decide +kernel
theorem dX8_work_249 : decode cX8_work 249 = .ok (.iload_n 2, 1) := by decide +kernel
theorem dX8_work_250 : decode cX8_work 250 = .ok (.invokevirtual 172, 3) := by decide +kernel
theorem dX8_work_253 : decode cX8_work 253 = .ok (.aload_n 0, 1) := by decide +kernel
theorem dX8_work_254 : decode cX8_work 254 = .ok (.getfield 138, 3) := by decide +kernel
theorem dX8_work_257 : decode cX8_work 257 = .ok (.iastore, 1) := by decide +kernel
theorem dX8_work_258 : decode cX8_work 258 = .ok (.iload 8, 2) := by decide +kernel
theorem dX8_work_260 : decode cX8_work 260 = .ok (.ireturn, 1) := by decide +kernel
theorem dX8_sample_0 : decode cX8_sample 0 = .ok (.aload_n 0, 1) := by decide +kernel
theorem dX8_sample_1 : decode cX8_sample 1 = .ok (.iload_n 1, 1) := by decide +kernel
theorem dX8_sample_2 : decode cX8_sample 2 = .ok (.invokestatic 134, 3) := by decide +kernel
theorem dX8_sample_5 : decode cX8_sample 5 = .ok (.ifCond .eq 7, 3) := by decide +kernel
theorem dX8_sample_8 : decode cX8_sample 8 = .ok (.iconst 0, 1) := by decide +kernel
theorem dX8_sample_9 : decode cX8_sample 9 = .ok (.goto 4, 3) := by decide +kernel
theorem dX8_sample_12 : decode cX8_sample 12 = .ok (.iconst 1, 1) := by decide +kernel
theorem dX8_sample_13 : decode cX8_sample 13 = .ok (.invokevirtual 145, 3) := by decide +kernel
theorem dX8_sample_16 : decode cX8_sample 16 = .ok (.ifCond .eq 15, 3) := by decide +kernel
theorem dX8_sample_19 : decode cX8_sample 19 = .ok (.aload_n 0, 1) := by decide +kernel
theorem dX8_sample_20 : decode cX8_sample 20 = .ok (.getfield 25, 3) := by decide +kernel
theorem dX8_sample_23 : decode cX8_sample 23 = .ok (.iload_n 1, 1) := by decide +kernel
theorem dX8_sample_24 : decode cX8_sample 24 = .ok (.iaload, 1) := by decide +kernel
theorem dX8_sample_25 : decode cX8_sample 25 = .ok (.bipush 100, 2) := by decide +kernel
theorem dX8_sample_27 : decode cX8_sample 27 = .ok (.idiv, 1) := by decide +kernel
theorem dX8_sample_28 : decode cX8_sample 28 = .ok (.goto 4, 3) := by decide +kernel
theorem dX8_sample_31 : decode cX8_sample 31 = .ok (.iconst 0, 1) := by decide +kernel
theorem dX8_sample_32 : decode cX8_sample 32 = .ok (.ireturn, 1) := by decide +kernel
theorem dX8_salt_0 : decode cX8_salt 0 = .ok (.aload_n 0, 1) := by decide +kernel
theorem dX8_salt_1 : decode cX8_salt 1 = .ok (.iload_n 1, 1) := by decide +kernel
theorem dX8_salt_2 : decode cX8_salt 2 = .ok (.invokevirtual 176, 3) := by decide +kernel
theorem dX8_salt_5 : decode cX8_salt 5 = .ok (.ifCond .eq 14, 3) := by decide +kernel
theorem dX8_salt_8 : decode cX8_salt 8 = .ok (.iload_n 2, 1) := by decide +kernel
theorem dX8_salt_9 : decode cX8_salt 9 = .ok (.invokestatic 134, 3) := by decide +kernel
theorem dX8_salt_12 : decode cX8_salt 12 = .ok (.ifCond .eq 7, 3) := by decide +kernel
theorem dX8_salt_15 : decode cX8_salt 15 = .ok (.iconst 1, 1) := by decide +kernel
theorem dX8_salt_16 : decode cX8_salt 16 = .ok (.goto 4, 3) := by decide +kernel
theorem dX8_salt_19 : decode cX8_salt 19 = .ok (.iconst 0, 1) := by decide +kernel
theorem dX8_salt_20 : decode cX8_salt 20 = .ok (.istore 4, 2) := by decide +kernel
theorem dX8_salt_22 : decode cX8_salt 22 = .ok (.aload_n 0, 1) := by decide +kernel
theorem dX8_salt_23 : decode cX8_salt 23 = .ok (.iload 4, 2) := by decide +kernel
theorem dX8_salt_25 : decode cX8_salt 25 = .ok (.ifCond .ne 7, 3) := by decide +kernel
theorem dX8_salt_28 : decode cX8_salt 28 = .ok (.iconst 1, 1) := by decide +kernel
theorem dX8_salt_29 : decode cX8_salt 29 = .ok (.goto 41, 3) := by decide +kernel
theorem dX8_salt_32 : decode cX8_salt 32 = .ok (.iload_n 3, 1) := by decide +kernel
theorem dX8_salt_33 : decode cX8_salt 33 = .ok (.iconst 1, 1) := by decide +kernel
theorem dX8_salt_34 : decode cX8_salt 34 = .ok (.sipush 10000, 3) := by decide +kernel
theorem dX8_salt_37 : decode cX8_salt 37 = .ok (.invokestatic 123, 3) := by decide +kernel
theorem dX8_salt_40 : decode cX8_salt 40 = .ok (.ifCond .ne 7, 3) := by decide +kernel
theorem dX8_salt_43 : decode cX8_salt 43 = .ok (.iconst 2, 1) := by decide +kernel
theorem dX8_salt_44 : decode cX8_salt 44 = .ok (.goto 26, 3) := by decide +kernel
theorem dX8_salt_47 : decode cX8_salt 47 = .ok (.aload_n 0, 1) := by decide +kernel
theorem dX8_salt_48 : decode cX8_salt 48 = .ok (.iload_n 1, 1) := by decide +kernel
theorem dX8_salt_49 : decode cX8_salt 49 = .ok (.invokevirtual 155, 3) := by decide +kernel
theorem dX8_salt_52 : decode cX8_salt 52 = .ok (.ifCond .ne 13, 3) := by decide +kernel
theorem dX8_salt_55 : decode cX8_salt 55 = .ok (.aload_n 0, 1) := by decide +kernel
theorem dX8_salt_56 : decode cX8_salt 56 = .ok (.getfield 35, 3) := by decide +kernel
theorem dX8_salt_59 : decode cX8_salt 59 = .ok (.iload_n 1, 1) := by decide +kernel
theorem dX8_salt_60 : decode cX8_salt 60 = .ok (.iaload, 1) := by decide +kernel
theorem dX8_salt_61 : decode cX8_salt 61 = .ok (.iload_n 3, 1) := by decide +kernel
theorem dX8_salt_62 : decode cX8_salt 62 = .ok (.if_icmp .ge 7, 3) := by decide +kernel
theorem dX8_salt_65 : decode cX8_salt 65 = .ok (.iconst 3, 1) := by decide +kernel
theorem dX8_salt_66 : decode cX8_salt 66 = .ok (.goto 4, 3) := by decide +kernel
theorem dX8_salt_69 : decode cX8_salt 69 = .ok (.iconst 0, 1) := by decide +kernel
theorem dX8_salt_70 : decode cX8_salt 70 = .ok (.invokevirtual 145, 3) := by decide +kernel
theorem dX8_salt_73 : decode cX8_salt 73 = .ok (.ifCond .ne 5, 3) := by decide +kernel
theorem dX8_salt_76 : decode cX8_salt 76 = .ok (.iconst 0, 1) := by decide +kernel
theorem dX8_salt_77 : decode cX8_salt 77 = .ok (.ireturn, 1) := by decide +kernel
theorem dX8_salt_78 : decode cX8_salt 78 = .ok (.aload_n 0, 1) := by decide +kernel
theorem dX8_salt_79 : decode cX8_salt 79 = .ok (.getfield 35, 3) := by decide +kernel
theorem dX8_salt_82 : decode cX8_salt 82 = .ok (.iload_n 1, 1) := by decide +kernel
theorem dX8_salt_83 : decode cX8_salt 83 = .ok (.dup2, 1) := by decide +kernel
theorem dX8_salt_84 : decode cX8_salt 84 = .ok (.iaload, 1) := by decide +kernel
theorem dX8_salt_85 : decode cX8_salt 85 = .ok (.iload_n 3, 1) := by decide +kernel
theorem dX8_salt_86 : decode cX8_salt 86 = .ok (.isub, 1) := by decide +kernel
theorem dX8_salt_87 : decode cX8_salt 87 = .ok (.iastore, 1) := by decide +kernel
theorem dX8_salt_88 : decode cX8_salt 88 = .ok (.aload_n 0, 1) := by decide +kernel
theorem dX8_salt_89 : decode cX8_salt 89 = .ok (.getfield 25, 3) := by decide +kernel
theorem dX8_salt_92 : decode cX8_salt 92 = .ok (.iload_n 2, 1) := by decide +kernel
theorem dX8_salt_93 : decode cX8_salt 93 = .ok (.dup2, 1) := by decide +kernel
theorem dX8_salt_94 : decode cX8_salt 94 = .ok (.iaload, 1) := by decide +kernel
theorem dX8_salt_95 : decode cX8_salt 95 = .ok (.iload_n 3, 1) := by decide +kernel
theorem dX8_salt_96 : decode cX8_salt 96 = .ok (.iadd, 1) := by decide +kernel
theorem dX8_salt_97 : decode cX8_salt 97 = .ok (.iastore, 1) := by decide +kernel
theorem dX8_salt_98 : decode cX8_salt 98 = .ok (.aload_n 0, 1) := by decide +kernel
theorem dX8_salt_99 : decode cX8_salt 99 = .ok (.getfield 105, 3) := by decide +kernel
theorem dX8_salt_102 : decode cX8_salt 102 = .ok (.aload_n 0, 1) := by decide +kernel
theorem dX8_salt_103 : decode cX8_salt 103 = .ok (.getfield 215, 3) := by decide +kernel
theorem dX8_salt_106 : decode cX8_salt 106 = .ok (.iload_n 1, 1) := by decide +kernel
theorem dX8_salt_107 : decode cX8_salt 107 = .ok (.iastore, 1) := by decide +kernel
theorem dX8_salt_108 : decode cX8_salt 108 = .ok (.aload_n 0, 1) := by decide +kernel
theorem dX8_salt_109 : decode cX8_salt 109 = .ok (.getfield 108, 3) := by decide +kernel
theorem dX8_salt_112 : decode cX8_salt 112 = .ok (.aload_n 0, 1) := by decide +kernel
theorem dX8_salt_113 : decode cX8_salt 113 = .ok (.getfield 215, 3) := by decide +kernel
theorem dX8_salt_116 : decode cX8_salt 116 = .ok (.iload_n 2, 1) := by decide +kernel
theorem dX8_salt_117 : decode cX8_salt 117 = .ok (.iastore, 1) := by decide +kernel
theorem dX8_salt_118 : decode cX8_salt 118 = .ok (.aload_n 0, 1) := by decide +kernel
theorem dX8_salt_119 : decode cX8_salt 119 = .ok (.getfield 111, 3) := by decide +kernel
theorem dX8_salt_122 : decode cX8_salt 122 = .ok (.aload_n 0, 1) := by decide +kernel
theorem dX8_salt_123 : decode cX8_salt 123 = .ok (.getfield 215, 3) := by decide +kernel
theorem dX8_salt_126 : decode cX8_salt 126 = .ok (.aload_n 0, 1) := by decide +kernel
theorem dX8_salt_127 : decode cX8_salt 127 = .ok (.getfield 138, 3) := by decide +kernel
theorem dX8_salt_130 : decode cX8_salt 130 = .ok (.iastore, 1) := by decide +kernel
theorem dX8_salt_131 : decode cX8_salt 131 = .ok (.aload_n 0, 1) := by decide +kernel
theorem dX8_salt_132 : decode cX8_salt 132 = .ok (.dup, 1) := by decide +kernel
theorem dX8_salt_133 : decode cX8_salt 133 = .ok (.getfield 215, 3) := by decide +kernel
theorem dX8_salt_136 : decode cX8_salt 136 = .ok (.iconst 1, 1) := by decide +kernel
theorem dX8_salt_137 : decode cX8_salt 137 = .ok (.iadd, 1) := by decide +kernel
theorem dX8_salt_138 : decode cX8_salt 138 = .ok (.putfield 215, 3) := by decide +kernel
theorem dX8_salt_141 : decode cX8_salt 141 = .ok (.aload_n 0, 1) := by decide +kernel
theorem dX8_salt_142 : decode cX8_salt 142 = .ok (.iconst 1, 1) := by decide +kernel
theorem dX8_salt_143 : decode cX8_salt 143 = .ok (.putfield 141, 3) := by decide +kernel
theorem dX8_salt_146 : decode cX8_salt 146 = .ok (.aload_n 0, 1) := by decide +kernel
theorem dX8_salt_147 : decode cX8_salt 147 = .ok (.getfield 25, 3) := by decide +kernel
theorem dX8_salt_150 : decode cX8_salt 150 = .ok (.iload_n 2, 1) := by decide +kernel
theorem dX8_salt_151 : decode cX8_salt 151 = .ok (.iaload, 1) := by decide +kernel
theorem dX8_salt_152 : decode cX8_salt 152 = .ok (.ireturn, 1) := by decide +kernel
theorem dX8_brass_0 : decode cX8_brass 0 = .ok (.aload_n 0, 1) := by decide +kernel
theorem dX8_brass_1 : decode cX8_brass 1 = .ok (.iload_n 1, 1) := by decide +kernel
theorem dX8_brass_2 : decode cX8_brass 2 = .ok (.invokevirtual 176, 3) := by decide +kernel
theorem dX8_brass_5 : decode cX8_brass 5 = .ok (.istore_n 3, 1) := by decide +kernel
theorem dX8_brass_6 : decode cX8_brass 6 = .ok (.aload_n 0, 1) := by decide +kernel
theorem dX8_brass_7 : decode cX8_brass 7 = .ok (.iload_n 3, 1) := by decide +kernel
theorem dX8_brass_8 : decode cX8_brass 8 = .ok (.ifCond .ne 7, 3) := by decide +kernel
theorem dX8_brass_11 : decode cX8_brass 11 = .ok (.iconst 1, 1) := by decide +kernel
theorem dX8_brass_12 : decode cX8_brass 12 = .ok (.goto 44, 3) := by decide +kernel
theorem dX8_brass_15 : decode cX8_brass 15 = .ok (.iload_n 2, 1) := by decide +kernel
theorem dX8_brass_16 : decode cX8_brass 16 = .ok (.iconst 1, 1) := by decide +kernel
theorem dX8_brass_17 : decode cX8_brass 17 = .ok (.sipush 10000, 3) := by decide +kernel
theorem dX8_brass_20 : decode cX8_brass 20 = .ok (.invokestatic 123, 3) := by decide +kernel
theorem dX8_brass_23 : decode cX8_brass 23 = .ok (.ifCond .ne 7, 3) := by decide +kernel
theorem dX8_brass_26 : decode cX8_brass 26 = .ok (.iconst 2, 1) := by decide +kernel
theorem dX8_brass_27 : decode cX8_brass 27 = .ok (.goto 29, 3) := by decide +kernel
theorem dX8_brass_30 : decode cX8_brass 30 = .ok (.aload_n 0, 1) := by decide +kernel
theorem dX8_brass_31 : decode cX8_brass 31 = .ok (.iload_n 1, 1) := by decide +kernel
theorem dX8_brass_32 : decode cX8_brass 32 = .ok (.invokevirtual 155, 3) := by decide +kernel
theorem dX8_brass_35 : decode cX8_brass 35 = .ok (.ifCond .ne 16, 3) := by decide +kernel
theorem dX8_brass_38 : decode cX8_brass 38 = .ok (.aload_n 0, 1) := by decide +kernel
theorem dX8_brass_39 : decode cX8_brass 39 = .ok (.getfield 38, 3) := by decide +kernel
theorem dX8_brass_42 : decode cX8_brass 42 = .ok (.iload_n 1, 1) := by decide +kernel
theorem dX8_brass_43 : decode cX8_brass 43 = .ok (.iaload, 1) := by decide +kernel
theorem dX8_brass_44 : decode cX8_brass 44 = .ok (.iload_n 2, 1) := by decide +kernel
theorem dX8_brass_45 : decode cX8_brass 45 = .ok (.iadd, 1) := by decide +kernel
theorem dX8_brass_46 : decode cX8_brass 46 = .ok (.ldc 133, 2) := by decide +kernel
theorem dX8_brass_48 : decode cX8_brass 48 = .ok (.if_icmp .le 7, 3) := by decide +kernel
theorem dX8_brass_51 : decode cX8_brass 51 = .ok (.iconst 3, 1) := by decide +kernel
theorem dX8_brass_52 : decode cX8_brass 52 = .ok (.goto 4, 3) := by decide +kernel
theorem dX8_brass_55 : decode cX8_brass 55 = .ok (.iconst 0, 1) := by decide +kernel
theorem dX8_brass_56 : decode cX8_brass 56 = .ok (.invokevirtual 145, 3) := by decide +kernel
theorem dX8_brass_59 : decode cX8_brass 59 = .ok (.ifCond .ne 5, 3) := by decide +kernel
theorem dX8_brass_62 : decode cX8_brass 62 = .ok (.iconst 0, 1) := by decide +kernel
theorem dX8_brass_63 : decode cX8_brass 63 = .ok (.ireturn, 1) := by decide +kernel
theorem dX8_brass_64 : decode cX8_brass 64 = .ok (.aload_n 0, 1) := by decide +kernel
theorem dX8_brass_65 : decode cX8_brass 65 = .ok (.getfield 38, 3) := by decide +kernel
theorem dX8_brass_68 : decode cX8_brass 68 = .ok (.iload_n 1, 1) := by decide +kernel
theorem dX8_brass_69 : decode cX8_brass 69 = .ok (.dup2, 1) := by decide +kernel
theorem dX8_brass_70 : decode cX8_brass 70 = .ok (.iaload, 1) := by decide +kernel
theorem dX8_brass_71 : decode cX8_brass 71 = .ok (.iload_n 2, 1) := by decide +kernel
theorem dX8_brass_72 : decode cX8_brass 72 = .ok (.iadd, 1) := by decide +kernel
theorem dX8_brass_73 : decode cX8_brass 73 = .ok (.iastore, 1) := by decide +kernel
theorem dX8_brass_74 : decode cX8_brass 74 = .ok (.aload_n 0, 1) := by decide +kernel
theorem dX8_brass_75 : decode cX8_brass 75 = .ok (.getfield 38, 3) := by decide +kernel
theorem dX8_brass_78 : decode cX8_brass 78 = .ok (.iload_n 1, 1) := by decide +kernel
theorem dX8_brass_79 : decode cX8_brass 79 = .ok (.iaload, 1) := by decide +kernel
theorem dX8_brass_80 : decode cX8_brass 80 = .ok (.ireturn, 1) := by decide +kernel
theorem dX8_sell_0 : decode cX8_sell 0 = .ok (.aload_n 0, 1) := by decide +kernel
theorem dX8_sell_1 : decode cX8_sell 1 = .ok (.iload_n 1, 1) := by decide +kernel
theorem dX8_sell_2 : decode cX8_sell 2 = .ok (.invokevirtual 176, 3) := by decide +kernel
theorem dX8_sell_5 : decode cX8_sell 5 = .ok (.istore_n 3, 1) := by decide +kernel
theorem dX8_sell_6 : decode cX8_sell 6 = .ok (.aload_n 0, 1) := by decide +kernel
theorem dX8_sell_7 : decode cX8_sell 7 = .ok (.iload_n 3, 1) := by decide +kernel
theorem dX8_sell_8 : decode cX8_sell 8 = .ok (.ifCond .ne 7, 3) := by decide +kernel
theorem dX8_sell_11 : decode cX8_sell 11 = .ok (.iconst 1, 1) := by decide +kernel
theorem dX8_sell_12 : decode cX8_sell 12 = .ok (.goto 47, 3) := by decide +kernel
theorem dX8_sell_15 : decode cX8_sell 15 = .ok (.iload_n 2, 1) := by decide +kernel
theorem dX8_sell_16 : decode cX8_sell 16 = .ok (.iconst 1, 1) := by decide +kernel
theorem dX8_sell_17 : decode cX8_sell 17 = .ok (.ldc 218, 2) := by decide +kernel
theorem dX8_sell_19 : decode cX8_sell 19 = .ok (.invokestatic 123, 3) := by decide +kernel
theorem dX8_sell_22 : decode cX8_sell 22 = .ok (.ifCond .ne 7, 3) := by decide +kernel
theorem dX8_sell_25 : decode cX8_sell 25 = .ok (.iconst 2, 1) := by decide +kernel
theorem dX8_sell_26 : decode cX8_sell 26 = .ok (.goto 33, 3) := by decide +kernel
theorem dX8_sell_29 : decode cX8_sell 29 = .ok (.aload_n 0, 1) := by decide +kernel
theorem dX8_sell_30 : decode cX8_sell 30 = .ok (.iload_n 1, 1) := by decide +kernel
theorem dX8_sell_31 : decode cX8_sell 31 = .ok (.invokevirtual 155, 3) := by decide +kernel
theorem dX8_sell_34 : decode cX8_sell 34 = .ok (.ifCond .ne 20, 3) := by decide +kernel
theorem dX8_sell_37 : decode cX8_sell 37 = .ok (.aload_n 0, 1) := by decide +kernel
theorem dX8_sell_38 : decode cX8_sell 38 = .ok (.getfield 35, 3) := by decide +kernel
theorem dX8_sell_41 : decode cX8_sell 41 = .ok (.iload_n 1, 1) := by decide +kernel
theorem dX8_sell_42 : decode cX8_sell 42 = .ok (.iaload, 1) := by decide +kernel
theorem dX8_sell_43 : decode cX8_sell 43 = .ok (.aload_n 0, 1) := by decide +kernel
theorem dX8_sell_44 : decode cX8_sell 44 = .ok (.getfield 38, 3) := by decide +kernel
theorem dX8_sell_47 : decode cX8_sell 47 = .ok (.iload_n 1, 1) := by decide +kernel
theorem dX8_sell_48 : decode cX8_sell 48 = .ok (.iaload, 1) := by decide +kernel
theorem dX8_sell_49 : decode cX8_sell 49 = .ok (.iadd, 1) := by decide +kernel
theorem dX8_sell_50 : decode cX8_sell 50 = .ok (.iload_n 2, 1) := by decide +kernel
theorem dX8_sell_51 : decode cX8_sell 51 = .ok (.if_icmp .ge 7, 3) := by decide +kernel
theorem dX8_sell_54 : decode cX8_sell 54 = .ok (.iconst 3, 1) := by decide +kernel
theorem dX8_sell_55 : decode cX8_sell 55 = .ok (.goto 4, 3) := by decide +kernel
theorem dX8_sell_58 : decode cX8_sell 58 = .ok (.iconst 0, 1) := by decide +kernel
theorem dX8_sell_59 : decode cX8_sell 59 = .ok (.invokevirtual 145, 3) := by decide +kernel
theorem dX8_sell_62 : decode cX8_sell 62 = .ok (.ifCond .ne 5, 3) := by decide +kernel
theorem dX8_sell_65 : decode cX8_sell 65 = .ok (.iconst 0, 1) := by decide +kernel
theorem dX8_sell_66 : decode cX8_sell 66 = .ok (.ireturn, 1) := by decide +kernel
theorem dX8_sell_67 : decode cX8_sell 67 = .ok (.aload_n 0, 1) := by decide +kernel
theorem dX8_sell_68 : decode cX8_sell 68 = .ok (.getfield 35, 3) := by decide +kernel
theorem dX8_sell_71 : decode cX8_sell 71 = .ok (.iload_n 1, 1) := by decide +kernel
theorem dX8_sell_72 : decode cX8_sell 72 = .ok (.iaload, 1) := by decide +kernel
theorem dX8_sell_73 : decode cX8_sell 73 = .ok (.aload_n 0, 1) := by decide +kernel
theorem dX8_sell_74 : decode cX8_sell 74 = .ok (.getfield 38, 3) := by decide +kernel
theorem dX8_sell_77 : decode cX8_sell 77 = .ok (.iload_n 1, 1) := by decide +kernel
theorem dX8_sell_78 : decode cX8_sell 78 = .ok (.iaload, 1) := by decide +kernel
theorem dX8_sell_79 : decode cX8_sell 79 = .ok (.iadd, 1) := by decide +kernel
theorem dX8_sell_80 : decode cX8_sell 80 = .ok (.istore 4, 2) := by decide +kernel
theorem dX8_sell_82 : decode cX8_sell 82 = .ok (.bipush 20, 2) := by decide +kernel
theorem dX8_sell_84 : decode cX8_sell 84 = .ok (.aload_n 0, 1) := by decide +kernel
theorem dX8_sell_85 : decode cX8_sell 85 = .ok (.getfield 38, 3) := by decide +kernel
theorem dX8_sell_88 : decode cX8_sell 88 = .ok (.iload_n 1, 1) := by decide +kernel
theorem dX8_sell_89 : decode cX8_sell 89 = .ok (.iaload, 1) := by decide +kernel
theorem dX8_sell_90 : decode cX8_sell 90 = .ok (.imul, 1) := by decide +kernel
theorem dX8_sell_91 : decode cX8_sell 91 = .ok (.iload 4, 2) := by decide +kernel
theorem dX8_sell_93 : decode cX8_sell 93 = .ok (.if_icmp .le 15, 3) := by decide +kernel
theorem dX8_sell_96 : decode cX8_sell 96 = .ok (.aload_n 0, 1) := by decide +kernel
theorem dX8_sell_97 : decode cX8_sell 97 = .ok (.getfield 50, 3) := by decide +kernel
theorem dX8_sell_100 : decode cX8_sell 100 = .ok (.iload_n 1, 1) := by decide +kernel
theorem dX8_sell_101 : decode cX8_sell 101 = .ok (.dup2, 1) := by decide +kernel
theorem dX8_sell_102 : decode cX8_sell 102 = .ok (.iaload, 1) := by decide +kernel
theorem dX8_sell_103 : decode cX8_sell 103 = .ok (.iconst 1, 1) := by decide +kernel
theorem dX8_sell_104 : decode cX8_sell 104 = .ok (.iadd, 1) := by decide +kernel
theorem dX8_sell_105 : decode cX8_sell 105 = .ok (.iastore, 1) := by decide +kernel
theorem dX8_sell_106 : decode cX8_sell 106 = .ok (.iconst (-1), 1) := by decide +kernel
theorem dX8_sell_107 : decode cX8_sell 107 = .ok (.ireturn, 1) := by decide +kernel
theorem dX8_sell_108 : decode cX8_sell 108 = .ok (.iload_n 2, 1) := by decide +kernel
theorem dX8_sell_109 : decode cX8_sell 109 = .ok (.i2l, 1) := by decide +kernel
theorem dX8_sell_110 : decode cX8_sell 110 = .ok (.aload_n 0, 1) := by decide +kernel
theorem dX8_sell_111 : decode cX8_sell 111 = .ok (.getfield 38, 3) := by decide +kernel
theorem dX8_sell_114 : decode cX8_sell 114 = .ok (.iload_n 1, 1) := by decide +kernel
theorem dX8_sell_115 : decode cX8_sell 115 = .ok (.iaload, 1) := by decide +kernel
theorem dX8_sell_116 : decode cX8_sell 116 = .ok (.i2l, 1) := by decide +kernel
theorem dX8_sell_117 : decode cX8_sell 117 = .ok (.lmul, 1) := by decide +kernel
theorem dX8_sell_118 : decode cX8_sell 118 = .ok (.iload 4, 2) := by decide +kernel
theorem dX8_sell_120 : decode cX8_sell 120 = .ok (.i2l, 1) := by decide +kernel
theorem dX8_sell_121 : decode cX8_sell 121 = .ok (.ldiv, 1) := by decide +kernel
theorem dX8_sell_122 : decode cX8_sell 122 = .ok (.l2i, 1) := by decide +kernel
theorem dX8_sell_123 : decode cX8_sell 123 = .ok (.istore 5, 2) := by decide +kernel
theorem dX8_sell_125 : decode cX8_sell 125 = .ok (.aload_n 0, 1) := by decide +kernel
theorem dX8_sell_126 : decode cX8_sell 126 = .ok (.getfield 38, 3) := by decide +kernel
theorem dX8_sell_129 : decode cX8_sell 129 = .ok (.iload_n 1, 1) := by decide +kernel
theorem dX8_sell_130 : decode cX8_sell 130 = .ok (.dup2, 1) := by decide +kernel
theorem dX8_sell_131 : decode cX8_sell 131 = .ok (.iaload, 1) := by decide +kernel
theorem dX8_sell_132 : decode cX8_sell 132 = .ok (.iload 5, 2) := by decide +kernel
theorem dX8_sell_134 : decode cX8_sell 134 = .ok (.isub, 1) := by decide +kernel
theorem dX8_sell_135 : decode cX8_sell 135 = .ok (.iastore, 1) := by decide +kernel
theorem dX8_sell_136 : decode cX8_sell 136 = .ok (.aload_n 0, 1) := by decide +kernel
theorem dX8_sell_137 : decode cX8_sell 137 = .ok (.getfield 35, 3) := by decide +kernel
theorem dX8_sell_140 : decode cX8_sell 140 = .ok (.iload_n 1, 1) := by decide +kernel
theorem dX8_sell_141 : decode cX8_sell 141 = .ok (.dup2, 1) := by decide +kernel
theorem dX8_sell_142 : decode cX8_sell 142 = .ok (.iaload, 1) := by decide +kernel
theorem dX8_sell_143 : decode cX8_sell 143 = .ok (.iload_n 2, 1) := by decide +kernel
theorem dX8_sell_144 : decode cX8_sell 144 = .ok (.iload 5, 2) := by decide +kernel
theorem dX8_sell_146 : decode cX8_sell 146 = .ok (.isub, 1) := by decide +kernel
theorem dX8_sell_147 : decode cX8_sell 147 = .ok (.isub, 1) := by decide +kernel
theorem dX8_sell_148 : decode cX8_sell 148 = .ok (.iastore, 1) := by decide +kernel
theorem dX8_sell_149 : decode cX8_sell 149 = .ok (.aload_n 0, 1) := by decide +kernel
theorem dX8_sell_150 : decode cX8_sell 150 = .ok (.dup, 1) := by decide +kernel
theorem dX8_sell_151 : decode cX8_sell 151 = .ok (.getfield 219, 3) := by decide +kernel
theorem dX8_sell_154 : decode cX8_sell 154 = .ok (.iload_n 2, 1) := by decide +kernel
theorem dX8_sell_155 : decode cX8_sell 155 = .ok (.iload 5, 2) := by decide +kernel
theorem dX8_sell_157 : decode cX8_sell 157 = .ok (.isub, 1) := by decide +kernel
theorem dX8_sell_158 : decode cX8_sell 158 = .ok (.iadd, 1) := by decide +kernel
theorem dX8_sell_159 : decode cX8_sell 159 = .ok (.putfield 219, 3) := by decide +kernel
theorem dX8_sell_162 : decode cX8_sell 162 = .ok (.iload_n 2, 1) := by decide +kernel
theorem dX8_sell_163 : decode cX8_sell 163 = .ok (.i2l, 1) := by decide +kernel
theorem dX8_sell_164 : decode cX8_sell 164 = .ok (.aload_n 0, 1) := by decide +kernel
theorem dX8_sell_165 : decode cX8_sell 165 = .ok (.getfield 19, 3) := by decide +kernel
theorem dX8_sell_168 : decode cX8_sell 168 = .ok (.i2l, 1) := by decide +kernel
theorem dX8_sell_169 : decode cX8_sell 169 = .ok (.lmul, 1) := by decide +kernel
theorem dX8_sell_170 : decode cX8_sell 170 = .ok (.ldc2_w 222, 3) := by decide +kernel
theorem dX8_sell_173 : decode cX8_sell 173 = .ok (.ldiv, 1) := by decide +kernel
theorem dX8_sell_174 : decode cX8_sell 174 = .ok (.l2i, 1) := by decide +kernel
theorem dX8_sell_175 : decode cX8_sell 175 = .ok (.istore 6, 2) := by decide +kernel
theorem dX8_sell_177 : decode cX8_sell 177 = .ok (.aload_n 0, 1) := by decide +kernel
theorem dX8_sell_178 : decode cX8_sell 178 = .ok (.getfield 44, 3) := by decide +kernel
theorem dX8_sell_181 : decode cX8_sell 181 = .ok (.iload_n 1, 1) := by decide +kernel
theorem dX8_sell_182 : decode cX8_sell 182 = .ok (.dup2, 1) := by decide +kernel
theorem dX8_sell_183 : decode cX8_sell 183 = .ok (.iaload, 1) := by decide +kernel
theorem dX8_sell_184 : decode cX8_sell 184 = .ok (.iload 6, 2) := by decide +kernel
theorem dX8_sell_186 : decode cX8_sell 186 = .ok (.iadd, 1) := by decide +kernel
theorem dX8_sell_187 : decode cX8_sell 187 = .ok (.iastore, 1) := by decide +kernel
theorem dX8_sell_188 : decode cX8_sell 188 = .ok (.iload 6, 2) := by decide +kernel
theorem dX8_sell_190 : decode cX8_sell 190 = .ok (.ireturn, 1) := by decide +kernel
theorem dX8_rate_0 : decode cX8_rate 0 = .ok (.aload_n 0, 1) := by decide +kernel
theorem dX8_rate_1 : decode cX8_rate 1 = .ok (.iload_n 1, 1) := by decide +kernel
theorem dX8_rate_2 : decode cX8_rate 2 = .ok (.iconst 1, 1) := by decide +kernel
theorem dX8_rate_3 : decode cX8_rate 3 = .ok (.bipush 100, 2) := by decide +kernel
theorem dX8_rate_5 : decode cX8_rate 5 = .ok (.invokestatic 123, 3) := by decide +kernel
theorem dX8_rate_8 : decode cX8_rate 8 = .ok (.ifCond .eq 7, 3) := by decide +kernel
theorem dX8_rate_11 : decode cX8_rate 11 = .ok (.iconst 0, 1) := by decide +kernel
theorem dX8_rate_12 : decode cX8_rate 12 = .ok (.goto 4, 3) := by decide +kernel
theorem dX8_rate_15 : decode cX8_rate 15 = .ok (.iconst 1, 1) := by decide +kernel
theorem dX8_rate_16 : decode cX8_rate 16 = .ok (.invokevirtual 145, 3) := by decide +kernel
theorem dX8_rate_19 : decode cX8_rate 19 = .ok (.ifCond .ne 5, 3) := by decide +kernel
theorem dX8_rate_22 : decode cX8_rate 22 = .ok (.iconst 0, 1) := by decide +kernel
theorem dX8_rate_23 : decode cX8_rate 23 = .ok (.ireturn, 1) := by decide +kernel
theorem dX8_rate_24 : decode cX8_rate 24 = .ok (.aload_n 0, 1) := by decide +kernel
theorem dX8_rate_25 : decode cX8_rate 25 = .ok (.getfield 19, 3) := by decide +kernel
theorem dX8_rate_28 : decode cX8_rate 28 = .ok (.istore_n 2, 1) := by decide +kernel
theorem dX8_rate_29 : decode cX8_rate 29 = .ok (.aload_n 0, 1) := by decide +kernel
theorem dX8_rate_30 : decode cX8_rate 30 = .ok (.iload_n 1, 1) := by decide +kernel
theorem dX8_rate_31 : decode cX8_rate 31 = .ok (.putfield 19, 3) := by decide +kernel
theorem dX8_rate_34 : decode cX8_rate 34 = .ok (.iload_n 2, 1) := by decide +kernel
theorem dX8_rate_35 : decode cX8_rate 35 = .ok (.ireturn, 1) := by decide +kernel
theorem dX8_price_0 : decode cX8_price 0 = .ok (.aload_n 0, 1) := by decide +kernel
theorem dX8_price_1 : decode cX8_price 1 = .ok (.getfield 22, 3) := by decide +kernel
theorem dX8_price_4 : decode cX8_price 4 = .ok (.bipush 100, 2) := by decide +kernel
theorem dX8_price_6 : decode cX8_price 6 = .ok (.if_icmp .ge 17, 3) := by decide +kernel
theorem dX8_price_9 : decode cX8_price 9 = .ok (.iconst 5, 1) := by decide +kernel
theorem dX8_price_10 : decode cX8_price 10 = .ok (.bipush 100, 2) := by decide +kernel
theorem dX8_price_12 : decode cX8_price 12 = .ok (.aload_n 0, 1) := by decide +kernel
theorem dX8_price_13 : decode cX8_price 13 = .ok (.getfield 22, 3) := by decide +kernel
theorem dX8_price_16 : decode cX8_price 16 = .ok (.isub, 1) := by decide +kernel
theorem dX8_price_17 : decode cX8_price 17 = .ok (.iconst 5, 1) := by decide +kernel
theorem dX8_price_18 : decode cX8_price 18 = .ok (.idiv, 1) := by decide +kernel
theorem dX8_price_19 : decode cX8_price 19 = .ok (.iadd, 1) := by decide +kernel
theorem dX8_price_20 : decode cX8_price 20 = .ok (.goto 4, 3) := by decide +kernel
theorem dX8_price_23 : decode cX8_price 23 = .ok (.iconst 5, 1) := by decide +kernel
theorem dX8_price_24 : decode cX8_price 24 = .ok (.ireturn, 1) := by decide +kernel
theorem dX8_freight_0 : decode cX8_freight 0 = .ok (.iload_n 1, 1) := by decide +kernel
theorem dX8_freight_1 : decode cX8_freight 1 = .ok (.iconst 1, 1) := by decide +kernel
theorem dX8_freight_2 : decode cX8_freight 2 = .ok (.sipush 1000, 3) := by decide +kernel
theorem dX8_freight_5 : decode cX8_freight 5 = .ok (.invokestatic 123, 3) := by decide +kernel
theorem dX8_freight_8 : decode cX8_freight 8 = .ok (.ifCond .eq 23, 3) := by decide +kernel
theorem dX8_freight_11 : decode cX8_freight 11 = .ok (.iload_n 2, 1) := by decide +kernel
theorem dX8_freight_12 : decode cX8_freight 12 = .ok (.aload_n 0, 1) := by decide +kernel
theorem dX8_freight_13 : decode cX8_freight 13 = .ok (.getfield 138, 3) := by decide +kernel
theorem dX8_freight_16 : decode cX8_freight 16 = .ok (.iconst 1, 1) := by decide +kernel
theorem dX8_freight_17 : decode cX8_freight 17 = .ok (.iadd, 1) := by decide +kernel
theorem dX8_freight_18 : decode cX8_freight 18 = .ok (.sipush 5000, 3) := by decide +kernel
theorem dX8_freight_21 : decode cX8_freight 21 = .ok (.invokestatic 123, 3) := by decide +kernel
theorem dX8_freight_24 : decode cX8_freight 24 = .ok (.ifCond .eq 7, 3) := by decide +kernel
theorem dX8_freight_27 : decode cX8_freight 27 = .ok (.iconst 1, 1) := by decide +kernel
theorem dX8_freight_28 : decode cX8_freight 28 = .ok (.goto 4, 3) := by decide +kernel
theorem dX8_freight_31 : decode cX8_freight 31 = .ok (.iconst 0, 1) := by decide +kernel
theorem dX8_freight_32 : decode cX8_freight 32 = .ok (.istore_n 3, 1) := by decide +kernel
theorem dX8_freight_33 : decode cX8_freight 33 = .ok (.aload_n 0, 1) := by decide +kernel
theorem dX8_freight_34 : decode cX8_freight 34 = .ok (.iload_n 3, 1) := by decide +kernel
theorem dX8_freight_35 : decode cX8_freight 35 = .ok (.ifCond .ne 7, 3) := by decide +kernel
theorem dX8_freight_38 : decode cX8_freight 38 = .ok (.iconst 1, 1) := by decide +kernel
theorem dX8_freight_39 : decode cX8_freight 39 = .ok (.goto 17, 3) := by decide +kernel
theorem dX8_freight_42 : decode cX8_freight 42 = .ok (.aload_n 0, 1) := by decide +kernel
theorem dX8_freight_43 : decode cX8_freight 43 = .ok (.getfield 152, 3) := by decide +kernel
theorem dX8_freight_46 : decode cX8_freight 46 = .ok (.bipush 20, 2) := by decide +kernel
theorem dX8_freight_48 : decode cX8_freight 48 = .ok (.if_icmp .ne 7, 3) := by decide +kernel
theorem dX8_freight_51 : decode cX8_freight 51 = .ok (.iconst 2, 1) := by decide +kernel
theorem dX8_freight_52 : decode cX8_freight 52 = .ok (.goto 4, 3) := by decide +kernel
theorem dX8_freight_55 : decode cX8_freight 55 = .ok (.iconst 0, 1) := by decide +kernel
theorem dX8_freight_56 : decode cX8_freight 56 = .ok (.invokevirtual 145, 3) := by decide +kernel
theorem dX8_freight_59 : decode cX8_freight 59 = .ok (.ifCond .eq 33, 3) := by decide +kernel
theorem dX8_freight_62 : decode cX8_freight 62 = .ok (.aload_n 0, 1) := by decide +kernel
theorem dX8_freight_63 : decode cX8_freight 63 = .ok (.getfield 99, 3) := by decide +kernel
theorem dX8_freight_66 : decode cX8_freight 66 = .ok (.aload_n 0, 1) := by decide +kernel
theorem dX8_freight_67 : decode cX8_freight 67 = .ok (.getfield 152, 3) := by decide +kernel
theorem dX8_freight_70 : decode cX8_freight 70 = .ok (.iload_n 1, 1) := by decide +kernel
theorem dX8_freight_71 : decode cX8_freight 71 = .ok (.iastore, 1) := by decide +kernel
theorem dX8_freight_72 : decode cX8_freight 72 = .ok (.aload_n 0, 1) := by decide +kernel
theorem dX8_freight_73 : decode cX8_freight 73 = .ok (.getfield 102, 3) := by decide +kernel
theorem dX8_freight_76 : decode cX8_freight 76 = .ok (.aload_n 0, 1) := by decide +kernel
theorem dX8_freight_77 : decode cX8_freight 77 = .ok (.getfield 152, 3) := by decide +kernel
theorem dX8_freight_80 : decode cX8_freight 80 = .ok (.iload_n 2, 1) := by decide +kernel
theorem dX8_freight_81 : decode cX8_freight 81 = .ok (.iastore, 1) := by decide +kernel
theorem dX8_freight_82 : decode cX8_freight 82 = .ok (.aload_n 0, 1) := by decide +kernel
theorem dX8_freight_83 : decode cX8_freight 83 = .ok (.dup, 1) := by decide +kernel
theorem dX8_freight_84 : decode cX8_freight 84 = .ok (.getfield 152, 3) := by decide +kernel
theorem dX8_freight_87 : decode cX8_freight 87 = .ok (.iconst 1, 1) := by decide +kernel
theorem dX8_freight_88 : decode cX8_freight 88 = .ok (.iadd, 1) := by decide +kernel
theorem dX8_freight_89 : decode cX8_freight 89 = .ok (.putfield 152, 3) := by decide +kernel
theorem dX8_freight_92 : decode cX8_freight 92 = .ok (.return_, 1) := by decide +kernel
theorem dX8_buy_0 : decode cX8_buy 0 = .ok (.aload_n 0, 1) := by decide +kernel
theorem dX8_buy_1 : decode cX8_buy 1 = .ok (.iload_n 1, 1) := by decide +kernel
theorem dX8_buy_2 : decode cX8_buy 2 = .ok (.invokevirtual 176, 3) := by decide +kernel
theorem dX8_buy_5 : decode cX8_buy 5 = .ok (.istore_n 3, 1) := by decide +kernel
theorem dX8_buy_6 : decode cX8_buy 6 = .ok (.iload_n 3, 1) := by decide +kernel
theorem dX8_buy_7 : decode cX8_buy 7 = .ok (.ifCond .eq 49, 3) := by decide +kernel
theorem dX8_buy_10 : decode cX8_buy 10 = .ok (.iload_n 2, 1) := by decide +kernel
theorem dX8_buy_11 : decode cX8_buy 11 = .ok (.iconst 1, 1) := by decide +kernel
theorem dX8_buy_12 : decode cX8_buy 12 = .ok (.sipush 1000, 3) := by decide +kernel
theorem dX8_buy_15 : decode cX8_buy 15 = .ok (.invokestatic 123, 3) := by decide +kernel
theorem dX8_buy_18 : decode cX8_buy 18 = .ok (.ifCond .eq 38, 3) := by decide +kernel
theorem dX8_buy_21 : decode cX8_buy 21 = .ok (.aload_n 0, 1) := by decide +kernel
theorem dX8_buy_22 : decode cX8_buy 22 = .ok (.iload_n 1, 1) := by decide +kernel
theorem dX8_buy_23 : decode cX8_buy 23 = .ok (.invokevirtual 155, 3) := by decide +kernel
theorem dX8_buy_26 : decode cX8_buy 26 = .ok (.ifCond .ne 30, 3) := by decide +kernel
theorem dX8_buy_29 : decode cX8_buy 29 = .ok (.iload_n 2, 1) := by decide +kernel
theorem dX8_buy_30 : decode cX8_buy 30 = .ok (.aload_n 0, 1) := by decide +kernel
theorem dX8_buy_31 : decode cX8_buy 31 = .ok (.getfield 22, 3) := by decide +kernel
theorem dX8_buy_34 : decode cX8_buy 34 = .ok (.if_icmp .gt 22, 3) := by decide +kernel
theorem dX8_buy_37 : decode cX8_buy 37 = .ok (.aload_n 0, 1) := by decide +kernel
theorem dX8_buy_38 : decode cX8_buy 38 = .ok (.getfield 44, 3) := by decide +kernel
theorem dX8_buy_41 : decode cX8_buy 41 = .ok (.iload_n 1, 1) := by decide +kernel
theorem dX8_buy_42 : decode cX8_buy 42 = .ok (.iaload, 1) := by decide +kernel
theorem dX8_buy_43 : decode cX8_buy 43 = .ok (.iload_n 2, 1) := by decide +kernel
theorem dX8_buy_44 : decode cX8_buy 44 = .ok (.aload_n 0, 1) := by decide +kernel
theorem dX8_buy_45 : decode cX8_buy 45 = .ok (.invokevirtual 224, 3) := by decide +kernel
theorem dX8_buy_48 : decode cX8_buy 48 = .ok (.imul, 1) := by decide +kernel
theorem dX8_buy_49 : decode cX8_buy 49 = .ok (.if_icmp .lt 7, 3) := by decide +kernel
theorem dX8_buy_52 : decode cX8_buy 52 = .ok (.iconst 1, 1) := by decide +kernel
theorem dX8_buy_53 : decode cX8_buy 53 = .ok (.goto 4, 3) := by decide +kernel
theorem dX8_buy_56 : decode cX8_buy 56 = .ok (.iconst 0, 1) := by decide +kernel
theorem dX8_buy_57 : decode cX8_buy 57 = .ok (.istore 4, 2) := by decide +kernel
theorem dX8_buy_59 : decode cX8_buy 59 = .ok (.aload_n 0, 1) := by decide +kernel
theorem dX8_buy_60 : decode cX8_buy 60 = .ok (.iload_n 3, 1) := by decide +kernel
theorem dX8_buy_61 : decode cX8_buy 61 = .ok (.ifCond .ne 7, 3) := by decide +kernel
theorem dX8_buy_64 : decode cX8_buy 64 = .ok (.iconst 1, 1) := by decide +kernel
theorem dX8_buy_65 : decode cX8_buy 65 = .ok (.goto 28, 3) := by decide +kernel
theorem dX8_buy_68 : decode cX8_buy 68 = .ok (.iload_n 2, 1) := by decide +kernel
theorem dX8_buy_69 : decode cX8_buy 69 = .ok (.iconst 1, 1) := by decide +kernel
theorem dX8_buy_70 : decode cX8_buy 70 = .ok (.sipush 1000, 3) := by decide +kernel
theorem dX8_buy_73 : decode cX8_buy 73 = .ok (.invokestatic 123, 3) := by decide +kernel
theorem dX8_buy_76 : decode cX8_buy 76 = .ok (.ifCond .ne 7, 3) := by decide +kernel
theorem dX8_buy_79 : decode cX8_buy 79 = .ok (.iconst 2, 1) := by decide +kernel
theorem dX8_buy_80 : decode cX8_buy 80 = .ok (.goto 13, 3) := by decide +kernel
theorem dX8_buy_83 : decode cX8_buy 83 = .ok (.iload 4, 2) := by decide +kernel
theorem dX8_buy_85 : decode cX8_buy 85 = .ok (.ifCond .eq 7, 3) := by decide +kernel
theorem dX8_buy_88 : decode cX8_buy 88 = .ok (.iconst 0, 1) := by decide +kernel
theorem dX8_buy_89 : decode cX8_buy 89 = .ok (.goto 4, 3) := by decide +kernel
theorem dX8_buy_92 : decode cX8_buy 92 = .ok (.iconst 3, 1) := by decide +kernel
theorem dX8_buy_93 : decode cX8_buy 93 = .ok (.invokevirtual 145, 3) := by decide +kernel
theorem dX8_buy_96 : decode cX8_buy 96 = .ok (.ifCond .ne 5, 3) := by decide +kernel
theorem dX8_buy_99 : decode cX8_buy 99 = .ok (.iconst 0, 1) := by decide +kernel
theorem dX8_buy_100 : decode cX8_buy 100 = .ok (.ireturn, 1) := by decide +kernel
theorem dX8_buy_101 : decode cX8_buy 101 = .ok (.iload_n 2, 1) := by decide +kernel
theorem dX8_buy_102 : decode cX8_buy 102 = .ok (.aload_n 0, 1) := by decide +kernel
theorem dX8_buy_103 : decode cX8_buy 103 = .ok (.invokevirtual 224, 3) := by decide +kernel
theorem dX8_buy_106 : decode cX8_buy 106 = .ok (.imul, 1) := by decide +kernel
theorem dX8_buy_107 : decode cX8_buy 107 = .ok (.istore 5, 2) := by decide +kernel
theorem dX8_buy_109 : decode cX8_buy 109 = .ok (.aload_n 0, 1) := by decide +kernel
theorem dX8_buy_110 : decode cX8_buy 110 = .ok (.dup, 1) := by decide +kernel
theorem dX8_buy_111 : decode cX8_buy 111 = .ok (.getfield 22, 3) := by decide +kernel
theorem dX8_buy_114 : decode cX8_buy 114 = .ok (.iload_n 2, 1) := by decide +kernel
theorem dX8_buy_115 : decode cX8_buy 115 = .ok (.isub, 1) := by decide +kernel
theorem dX8_buy_116 : decode cX8_buy 116 = .ok (.putfield 22, 3) := by decide +kernel
theorem dX8_buy_119 : decode cX8_buy 119 = .ok (.aload_n 0, 1) := by decide +kernel
theorem dX8_buy_120 : decode cX8_buy 120 = .ok (.getfield 41, 3) := by decide +kernel
theorem dX8_buy_123 : decode cX8_buy 123 = .ok (.iload_n 1, 1) := by decide +kernel
theorem dX8_buy_124 : decode cX8_buy 124 = .ok (.dup2, 1) := by decide +kernel
theorem dX8_buy_125 : decode cX8_buy 125 = .ok (.iaload, 1) := by decide +kernel
theorem dX8_buy_126 : decode cX8_buy 126 = .ok (.iload_n 2, 1) := by decide +kernel
theorem dX8_buy_127 : decode cX8_buy 127 = .ok (.iadd, 1) := by decide +kernel
theorem dX8_buy_128 : decode cX8_buy 128 = .ok (.iastore, 1) := by decide +kernel
theorem dX8_buy_129 : decode cX8_buy 129 = .ok (.aload_n 0, 1) := by decide +kernel
theorem dX8_buy_130 : decode cX8_buy 130 = .ok (.getfield 44, 3) := by decide +kernel
theorem dX8_buy_133 : decode cX8_buy 133 = .ok (.iload_n 1, 1) := by decide +kernel
theorem dX8_buy_134 : decode cX8_buy 134 = .ok (.dup2, 1) := by decide +kernel
theorem dX8_buy_135 : decode cX8_buy 135 = .ok (.iaload, 1) := by decide +kernel
theorem dX8_buy_136 : decode cX8_buy 136 = .ok (.iload 5, 2) := by decide +kernel
theorem dX8_buy_138 : decode cX8_buy 138 = .ok (.isub, 1) := by decide +kernel
theorem dX8_buy_139 : decode cX8_buy 139 = .ok (.iastore, 1) := by decide +kernel
theorem dX8_buy_140 : decode cX8_buy 140 = .ok (.iload 5, 2) := by decide +kernel
theorem dX8_buy_142 : decode cX8_buy 142 = .ok (.ireturn, 1) := by decide +kernel
theorem dX8_backed_0 : decode cX8_backed 0 = .ok (.iconst 0, 1) := by decide +kernel
theorem dX8_backed_1 : decode cX8_backed 1 = .ok (.istore_n 2, 1) := by decide +kernel
theorem dX8_backed_2 : decode cX8_backed 2 = .ok (.iconst 0, 1) := by decide +kernel
theorem dX8_backed_3 : decode cX8_backed 3 = .ok (.istore_n 3, 1) := by decide +kernel
theorem dX8_backed_4 : decode cX8_backed 4 = .ok (.iload_n 3, 1) := by decide +kernel
theorem dX8_backed_5 : decode cX8_backed 5 = .ok (.aload_n 0, 1) := by decide +kernel
theorem dX8_backed_6 : decode cX8_backed 6 = .ok (.getfield 127, 3) := by decide +kernel
theorem dX8_backed_9 : decode cX8_backed 9 = .ok (.if_icmp .ge 23, 3) := by decide +kernel
theorem dX8_backed_12 : decode cX8_backed 12 = .ok (.iload_n 2, 1) := by decide +kernel
theorem dX8_backed_13 : decode cX8_backed 13 = .ok (.aload_n 0, 1) := by decide +kernel
theorem dX8_backed_14 : decode cX8_backed 14 = .ok (.getfield 56, 3) := by decide +kernel
theorem dX8_backed_17 : decode cX8_backed 17 = .ok (.bipush 12, 2) := by decide +kernel
theorem dX8_backed_19 : decode cX8_backed 19 = .ok (.iload_n 1, 1) := by decide +kernel
theorem dX8_backed_20 : decode cX8_backed 20 = .ok (.imul, 1) := by decide +kernel
theorem dX8_backed_21 : decode cX8_backed 21 = .ok (.iload_n 3, 1) := by decide +kernel
theorem dX8_backed_22 : decode cX8_backed 22 = .ok (.iadd, 1) := by decide +kernel
theorem dX8_backed_23 : decode cX8_backed 23 = .ok (.iaload, 1) := by decide +kernel
theorem dX8_backed_24 : decode cX8_backed 24 = .ok (.iadd, 1) := by decide +kernel
theorem dX8_backed_25 : decode cX8_backed 25 = .ok (.istore_n 2, 1) := by decide +kernel
theorem dX8_backed_26 : decode cX8_backed 26 = .ok (.iinc 3 1, 3) := by decide +kernel
theorem dX8_backed_29 : decode cX8_backed 29 = .ok (.goto (-25), 3) := by decide +kernel
theorem dX8_backed_32 : decode cX8_backed 32 = .ok (.iload_n 2, 1) := by decide +kernel
theorem dX8_backed_33 : decode cX8_backed 33 = .ok (.ireturn, 1) := by decide +kernel
theorem dX8_back_0 : decode cX8_back 0 = .ok (.aload_n 0, 1) := by decide +kernel
theorem dX8_back_1 : decode cX8_back 1 = .ok (.iload_n 1, 1) := by decide +kernel
theorem dX8_back_2 : decode cX8_back 2 = .ok (.invokevirtual 176, 3) := by decide +kernel
theorem dX8_back_5 : decode cX8_back 5 = .ok (.ifCond .eq 15, 3) := by decide +kernel
theorem dX8_back_8 : decode cX8_back 8 = .ok (.aload_n 0, 1) := by decide +kernel
theorem dX8_back_9 : decode cX8_back 9 = .ok (.iload_n 2, 1) := by decide +kernel
theorem dX8_back_10 : decode cX8_back 10 = .ok (.invokevirtual 176, 3) := by decide +kernel
theorem dX8_back_13 : decode cX8_back 13 = .ok (.ifCond .eq 7, 3) := by decide +kernel
theorem dX8_back_16 : decode cX8_back 16 = .ok (.iconst 1, 1) := by decide +kernel
theorem dX8_back_17 : decode cX8_back 17 = .ok (.goto 4, 3) := by decide +kernel
theorem dX8_back_20 : decode cX8_back 20 = .ok (.iconst 0, 1) := by decide +kernel
theorem dX8_back_21 : decode cX8_back 21 = .ok (.istore 5, 2) := by decide +kernel
theorem dX8_back_23 : decode cX8_back 23 = .ok (.iload 5, 2) := by decide +kernel
theorem dX8_back_25 : decode cX8_back 25 = .ok (.ifCond .eq 33, 3) := by decide +kernel
theorem dX8_back_28 : decode cX8_back 28 = .ok (.iload_n 3, 1) := by decide +kernel
theorem dX8_back_29 : decode cX8_back 29 = .ok (.iconst 1, 1) := by decide +kernel
theorem dX8_back_30 : decode cX8_back 30 = .ok (.bipush 100, 2) := by decide +kernel
theorem dX8_back_32 : decode cX8_back 32 = .ok (.invokestatic 123, 3) := by decide +kernel
theorem dX8_back_35 : decode cX8_back 35 = .ok (.ifCond .eq 23, 3) := by decide +kernel
theorem dX8_back_38 : decode cX8_back 38 = .ok (.iload 4, 2) := by decide +kernel
theorem dX8_back_40 : decode cX8_back 40 = .ok (.iconst 0, 1) := by decide +kernel
theorem dX8_back_41 : decode cX8_back 41 = .ok (.ldc 133, 2) := by decide +kernel
theorem dX8_back_43 : decode cX8_back 43 = .ok (.invokestatic 123, 3) := by decide +kernel
theorem dX8_back_46 : decode cX8_back 46 = .ok (.ifCond .eq 12, 3) := by decide +kernel
theorem dX8_back_49 : decode cX8_back 49 = .ok (.iload_n 1, 1) := by decide +kernel
theorem dX8_back_50 : decode cX8_back 50 = .ok (.iload_n 2, 1) := by decide +kernel
theorem dX8_back_51 : decode cX8_back 51 = .ok (.if_icmp .eq 7, 3) := by decide +kernel
theorem dX8_back_54 : decode cX8_back 54 = .ok (.iconst 1, 1) := by decide +kernel
theorem dX8_back_55 : decode cX8_back 55 = .ok (.goto 4, 3) := by decide +kernel
theorem dX8_back_58 : decode cX8_back 58 = .ok (.iconst 0, 1) := by decide +kernel
theorem dX8_back_59 : decode cX8_back 59 = .ok (.istore 6, 2) := by decide +kernel
theorem dX8_back_61 : decode cX8_back 61 = .ok (.iload 6, 2) := by decide +kernel
theorem dX8_back_63 : decode cX8_back 63 = .ok (.ifCond .eq 60, 3) := by decide +kernel
theorem dX8_back_66 : decode cX8_back 66 = .ok (.aload_n 0, 1) := by decide +kernel
theorem dX8_back_67 : decode cX8_back 67 = .ok (.iload_n 1, 1) := by decide +kernel
theorem dX8_back_68 : decode cX8_back 68 = .ok (.invokevirtual 155, 3) := by decide +kernel
theorem dX8_back_71 : decode cX8_back 71 = .ok (.ifCond .ne 52, 3) := by decide +kernel
theorem dX8_back_74 : decode cX8_back 74 = .ok (.aload_n 0, 1) := by decide +kernel
theorem dX8_back_75 : decode cX8_back 75 = .ok (.iload_n 2, 1) := by decide +kernel
theorem dX8_back_76 : decode cX8_back 76 = .ok (.invokevirtual 155, 3) := by decide +kernel
theorem dX8_back_79 : decode cX8_back 79 = .ok (.ifCond .ne 44, 3) := by decide +kernel
theorem dX8_back_82 : decode cX8_back 82 = .ok (.aload_n 0, 1) := by decide +kernel
theorem dX8_back_83 : decode cX8_back 83 = .ok (.getfield 56, 3) := by decide +kernel
theorem dX8_back_86 : decode cX8_back 86 = .ok (.bipush 12, 2) := by decide +kernel
theorem dX8_back_88 : decode cX8_back 88 = .ok (.iload_n 2, 1) := by decide +kernel
theorem dX8_back_89 : decode cX8_back 89 = .ok (.imul, 1) := by decide +kernel
theorem dX8_back_90 : decode cX8_back 90 = .ok (.iload_n 1, 1) := by decide +kernel
theorem dX8_back_91 : decode cX8_back 91 = .ok (.iadd, 1) := by decide +kernel
theorem dX8_back_92 : decode cX8_back 92 = .ok (.iaload, 1) := by decide +kernel
theorem dX8_back_93 : decode cX8_back 93 = .ok (.ifCond .ne 30, 3) := by decide +kernel
theorem dX8_back_96 : decode cX8_back 96 = .ok (.aload_n 0, 1) := by decide +kernel
theorem dX8_back_97 : decode cX8_back 97 = .ok (.getfield 44, 3) := by decide +kernel
theorem dX8_back_100 : decode cX8_back 100 = .ok (.iload_n 1, 1) := by decide +kernel
theorem dX8_back_101 : decode cX8_back 101 = .ok (.iaload, 1) := by decide +kernel
theorem dX8_back_102 : decode cX8_back 102 = .ok (.iload 4, 2) := by decide +kernel
theorem dX8_back_104 : decode cX8_back 104 = .ok (.if_icmp .lt 19, 3) := by decide +kernel
theorem dX8_back_107 : decode cX8_back 107 = .ok (.aload_n 0, 1) := by decide +kernel
theorem dX8_back_108 : decode cX8_back 108 = .ok (.iload_n 2, 1) := by decide +kernel
theorem dX8_back_109 : decode cX8_back 109 = .ok (.invokevirtual 227, 3) := by decide +kernel
theorem dX8_back_112 : decode cX8_back 112 = .ok (.iload_n 3, 1) := by decide +kernel
theorem dX8_back_113 : decode cX8_back 113 = .ok (.iadd, 1) := by decide +kernel
theorem dX8_back_114 : decode cX8_back 114 = .ok (.bipush 100, 2) := by decide +kernel
theorem dX8_back_116 : decode cX8_back 116 = .ok (.if_icmp .gt 7, 3) := by decide +kernel
theorem dX8_back_119 : decode cX8_back 119 = .ok (.iconst 1, 1) := by decide +kernel
theorem dX8_back_120 : decode cX8_back 120 = .ok (.goto 4, 3) := by decide +kernel
theorem dX8_back_123 : decode cX8_back 123 = .ok (.iconst 0, 1) := by decide +kernel
theorem dX8_back_124 : decode cX8_back 124 = .ok (.istore 7, 2) := by decide +kernel
theorem dX8_back_126 : decode cX8_back 126 = .ok (.aload_n 0, 1) := by decide +kernel
theorem dX8_back_127 : decode cX8_back 127 = .ok (.iload 5, 2) := by decide +kernel
theorem dX8_back_129 : decode cX8_back 129 = .ok (.ifCond .ne 7, 3) := by decide +kernel
theorem dX8_back_132 : decode cX8_back 132 = .ok (.iconst 1, 1) := by decide +kernel
theorem dX8_back_133 : decode cX8_back 133 = .ok (.goto 22, 3) := by decide +kernel
theorem dX8_back_136 : decode cX8_back 136 = .ok (.iload 6, 2) := by decide +kernel
theorem dX8_back_138 : decode cX8_back 138 = .ok (.ifCond .ne 7, 3) := by decide +kernel
theorem dX8_back_141 : decode cX8_back 141 = .ok (.iconst 2, 1) := by decide +kernel
theorem dX8_back_142 : decode cX8_back 142 = .ok (.goto 13, 3) := by decide +kernel
theorem dX8_back_145 : decode cX8_back 145 = .ok (.iload 7, 2) := by decide +kernel
theorem dX8_back_147 : decode cX8_back 147 = .ok (.ifCond .eq 7, 3) := by decide +kernel
theorem dX8_back_150 : decode cX8_back 150 = .ok (.iconst 0, 1) := by decide +kernel
theorem dX8_back_151 : decode cX8_back 151 = .ok (.goto 4, 3) := by decide +kernel
theorem dX8_back_154 : decode cX8_back 154 = .ok (.iconst 3, 1) := by decide +kernel
theorem dX8_back_155 : decode cX8_back 155 = .ok (.invokevirtual 145, 3) := by decide +kernel
theorem dX8_back_158 : decode cX8_back 158 = .ok (.ifCond .eq 37, 3) := by decide +kernel
theorem dX8_back_161 : decode cX8_back 161 = .ok (.aload_n 0, 1) := by decide +kernel
theorem dX8_back_162 : decode cX8_back 162 = .ok (.getfield 56, 3) := by decide +kernel
theorem dX8_back_165 : decode cX8_back 165 = .ok (.bipush 12, 2) := by decide +kernel
theorem dX8_back_167 : decode cX8_back 167 = .ok (.iload_n 2, 1) := by decide +kernel
theorem dX8_back_168 : decode cX8_back 168 = .ok (.imul, 1) := by decide +kernel
theorem dX8_back_169 : decode cX8_back 169 = .ok (.iload_n 1, 1) := by decide +kernel
theorem dX8_back_170 : decode cX8_back 170 = .ok (.iadd, 1) := by decide +kernel
theorem dX8_back_171 : decode cX8_back 171 = .ok (.iload_n 3, 1) := by decide +kernel
theorem dX8_back_172 : decode cX8_back 172 = .ok (.iastore, 1) := by decide +kernel
theorem dX8_back_173 : decode cX8_back 173 = .ok (.aload_n 0, 1) := by decide +kernel
theorem dX8_back_174 : decode cX8_back 174 = .ok (.getfield 44, 3) := by decide +kernel
theorem dX8_back_177 : decode cX8_back 177 = .ok (.iload_n 1, 1) := by decide +kernel
theorem dX8_back_178 : decode cX8_back 178 = .ok (.dup2, 1) := by decide +kernel
theorem dX8_back_179 : decode cX8_back 179 = .ok (.iaload, 1) := by decide +kernel
theorem dX8_back_180 : decode cX8_back 180 = .ok (.iload 4, 2) := by decide +kernel
theorem dX8_back_182 : decode cX8_back 182 = .ok (.isub, 1) := by decide +kernel
theorem dX8_back_183 : decode cX8_back 183 = .ok (.iastore, 1) := by decide +kernel
theorem dX8_back_184 : decode cX8_back 184 = .ok (.aload_n 0, 1) := by decide +kernel
theorem dX8_back_185 : decode cX8_back 185 = .ok (.getfield 44, 3) := by decide +kernel
theorem dX8_back_188 : decode cX8_back 188 = .ok (.iload_n 2, 1) := by decide +kernel
theorem dX8_back_189 : decode cX8_back 189 = .ok (.dup2, 1) := by decide +kernel
theorem dX8_back_190 : decode cX8_back 190 = .ok (.iaload, 1) := by decide +kernel
theorem dX8_back_191 : decode cX8_back 191 = .ok (.iload 4, 2) := by decide +kernel
theorem dX8_back_193 : decode cX8_back 193 = .ok (.iadd, 1) := by decide +kernel
theorem dX8_back_194 : decode cX8_back 194 = .ok (.iastore, 1) := by decide +kernel
theorem dX8_back_195 : decode cX8_back 195 = .ok (.return_, 1) := by decide +kernel
theorem dX8_end_0 : decode cX8_end 0 = .ok (.aload_n 0, 1) := by decide +kernel
theorem dX8_end_1 : decode cX8_end 1 = .ok (.iload_n 1, 1) := by decide +kernel
theorem dX8_end_2 : decode cX8_end 2 = .ok (.invokevirtual 176, 3) := by decide +kernel
theorem dX8_end_5 : decode cX8_end 5 = .ok (.ifCond .eq 15, 3) := by decide +kernel
theorem dX8_end_8 : decode cX8_end 8 = .ok (.aload_n 0, 1) := by decide +kernel
theorem dX8_end_9 : decode cX8_end 9 = .ok (.iload_n 2, 1) := by decide +kernel
theorem dX8_end_10 : decode cX8_end 10 = .ok (.invokevirtual 176, 3) := by decide +kernel
theorem dX8_end_13 : decode cX8_end 13 = .ok (.ifCond .eq 7, 3) := by decide +kernel
theorem dX8_end_16 : decode cX8_end 16 = .ok (.iconst 1, 1) := by decide +kernel
theorem dX8_end_17 : decode cX8_end 17 = .ok (.goto 4, 3) := by decide +kernel
theorem dX8_end_20 : decode cX8_end 20 = .ok (.iconst 0, 1) := by decide +kernel
theorem dX8_end_21 : decode cX8_end 21 = .ok (.istore_n 3, 1) := by decide +kernel
theorem dX8_end_22 : decode cX8_end 22 = .ok (.aload_n 0, 1) := by decide +kernel
theorem dX8_end_23 : decode cX8_end 23 = .ok (.iload_n 3, 1) := by decide +kernel
theorem dX8_end_24 : decode cX8_end 24 = .ok (.ifCond .ne 7, 3) := by decide +kernel
theorem dX8_end_27 : decode cX8_end 27 = .ok (.iconst 1, 1) := by decide +kernel
theorem dX8_end_28 : decode cX8_end 28 = .ok (.goto 22, 3) := by decide +kernel
theorem dX8_end_31 : decode cX8_end 31 = .ok (.aload_n 0, 1) := by decide +kernel
theorem dX8_end_32 : decode cX8_end 32 = .ok (.getfield 56, 3) := by decide +kernel
theorem dX8_end_35 : decode cX8_end 35 = .ok (.bipush 12, 2) := by decide +kernel
theorem dX8_end_37 : decode cX8_end 37 = .ok (.iload_n 2, 1) := by decide +kernel
theorem dX8_end_38 : decode cX8_end 38 = .ok (.imul, 1) := by decide +kernel
theorem dX8_end_39 : decode cX8_end 39 = .ok (.iload_n 1, 1) := by decide +kernel
theorem dX8_end_40 : decode cX8_end 40 = .ok (.iadd, 1) := by decide +kernel
theorem dX8_end_41 : decode cX8_end 41 = .ok (.iaload, 1) := by decide +kernel
theorem dX8_end_42 : decode cX8_end 42 = .ok (.ifCond .le 7, 3) := by decide +kernel
theorem dX8_end_45 : decode cX8_end 45 = .ok (.iconst 0, 1) := by decide +kernel
theorem dX8_end_46 : decode cX8_end 46 = .ok (.goto 4, 3) := by decide +kernel
theorem dX8_end_49 : decode cX8_end 49 = .ok (.iconst 2, 1) := by decide +kernel
theorem dX8_end_50 : decode cX8_end 50 = .ok (.invokevirtual 145, 3) := by decide +kernel
theorem dX8_end_53 : decode cX8_end 53 = .ok (.ifCond .ne 5, 3) := by decide +kernel
theorem dX8_end_56 : decode cX8_end 56 = .ok (.iconst 0, 1) := by decide +kernel
theorem dX8_end_57 : decode cX8_end 57 = .ok (.ireturn, 1) := by decide +kernel
theorem dX8_end_58 : decode cX8_end 58 = .ok (.aload_n 0, 1) := by decide +kernel
theorem dX8_end_59 : decode cX8_end 59 = .ok (.getfield 56, 3) := by decide +kernel
theorem dX8_end_62 : decode cX8_end 62 = .ok (.bipush 12, 2) := by decide +kernel
theorem dX8_end_64 : decode cX8_end 64 = .ok (.iload_n 2, 1) := by decide +kernel
theorem dX8_end_65 : decode cX8_end 65 = .ok (.imul, 1) := by decide +kernel
theorem dX8_end_66 : decode cX8_end 66 = .ok (.iload_n 1, 1) := by decide +kernel
theorem dX8_end_67 : decode cX8_end 67 = .ok (.iadd, 1) := by decide +kernel
theorem dX8_end_68 : decode cX8_end 68 = .ok (.iaload, 1) := by decide +kernel
theorem dX8_end_69 : decode cX8_end 69 = .ok (.istore 4, 2) := by decide +kernel
theorem dX8_end_71 : decode cX8_end 71 = .ok (.aload_n 0, 1) := by decide +kernel
theorem dX8_end_72 : decode cX8_end 72 = .ok (.getfield 56, 3) := by decide +kernel
theorem dX8_end_75 : decode cX8_end 75 = .ok (.bipush 12, 2) := by decide +kernel
theorem dX8_end_77 : decode cX8_end 77 = .ok (.iload_n 2, 1) := by decide +kernel
theorem dX8_end_78 : decode cX8_end 78 = .ok (.imul, 1) := by decide +kernel
theorem dX8_end_79 : decode cX8_end 79 = .ok (.iload_n 1, 1) := by decide +kernel
theorem dX8_end_80 : decode cX8_end 80 = .ok (.iadd, 1) := by decide +kernel
theorem dX8_end_81 : decode cX8_end 81 = .ok (.iconst 0, 1) := by decide +kernel
theorem dX8_end_82 : decode cX8_end 82 = .ok (.iastore, 1) := by decide +kernel
theorem dX8_end_83 : decode cX8_end 83 = .ok (.iload 4, 2) := by decide +kernel
theorem dX8_end_85 : decode cX8_end 85 = .ok (.ireturn, 1) := by decide +kernel
theorem dX8_trade_0 : decode cX8_trade 0 = .ok (.aload_n 0, 1) := by decide +kernel
theorem dX8_trade_1 : decode cX8_trade 1 = .ok (.iload_n 1, 1) := by decide +kernel
theorem dX8_trade_2 : decode cX8_trade 2 = .ok (.invokevirtual 230, 3) := by decide +kernel
theorem dX8_trade_5 : decode cX8_trade 5 = .ok (.ifCond .eq 15, 3) := by decide +kernel
theorem dX8_trade_8 : decode cX8_trade 8 = .ok (.aload_n 0, 1) := by decide +kernel
theorem dX8_trade_9 : decode cX8_trade 9 = .ok (.iload_n 2, 1) := by decide +kernel
theorem dX8_trade_10 : decode cX8_trade 10 = .ok (.invokevirtual 176, 3) := by decide +kernel
theorem dX8_trade_13 : decode cX8_trade 13 = .ok (.ifCond .eq 7, 3) := by decide +kernel
theorem dX8_trade_16 : decode cX8_trade 16 = .ok (.iconst 1, 1) := by decide +kernel
theorem dX8_trade_17 : decode cX8_trade 17 = .ok (.goto 4, 3) := by decide +kernel
theorem dX8_trade_20 : decode cX8_trade 20 = .ok (.iconst 0, 1) := by decide +kernel
theorem dX8_trade_21 : decode cX8_trade 21 = .ok (.istore 4, 2) := by decide +kernel
theorem dX8_trade_23 : decode cX8_trade 23 = .ok (.iload 4, 2) := by decide +kernel
theorem dX8_trade_25 : decode cX8_trade 25 = .ok (.ifCond .eq 27, 3) := by decide +kernel
theorem dX8_trade_28 : decode cX8_trade 28 = .ok (.iload_n 3, 1) := by decide +kernel
theorem dX8_trade_29 : decode cX8_trade 29 = .ok (.iconst 0, 1) := by decide +kernel
theorem dX8_trade_30 : decode cX8_trade 30 = .ok (.ldc 133, 2) := by decide +kernel
theorem dX8_trade_32 : decode cX8_trade 32 = .ok (.invokestatic 123, 3) := by decide +kernel
theorem dX8_trade_35 : decode cX8_trade 35 = .ok (.ifCond .eq 17, 3) := by decide +kernel
theorem dX8_trade_38 : decode cX8_trade 38 = .ok (.iload_n 2, 1) := by decide +kernel
theorem dX8_trade_39 : decode cX8_trade 39 = .ok (.aload_n 0, 1) := by decide +kernel
theorem dX8_trade_40 : decode cX8_trade 40 = .ok (.getfield 59, 3) := by decide +kernel
theorem dX8_trade_43 : decode cX8_trade 43 = .ok (.iload_n 1, 1) := by decide +kernel
theorem dX8_trade_44 : decode cX8_trade 44 = .ok (.iaload, 1) := by decide +kernel
theorem dX8_trade_45 : decode cX8_trade 45 = .ok (.if_icmp .eq 7, 3) := by decide +kernel
theorem dX8_trade_48 : decode cX8_trade 48 = .ok (.iconst 1, 1) := by decide +kernel
theorem dX8_trade_49 : decode cX8_trade 49 = .ok (.goto 4, 3) := by decide +kernel
theorem dX8_trade_52 : decode cX8_trade 52 = .ok (.iconst 0, 1) := by decide +kernel
theorem dX8_trade_53 : decode cX8_trade 53 = .ok (.istore 5, 2) := by decide +kernel
theorem dX8_trade_55 : decode cX8_trade 55 = .ok (.aload_n 0, 1) := by decide +kernel
theorem dX8_trade_56 : decode cX8_trade 56 = .ok (.iload 4, 2) := by decide +kernel
theorem dX8_trade_58 : decode cX8_trade 58 = .ok (.ifCond .ne 7, 3) := by decide +kernel
theorem dX8_trade_61 : decode cX8_trade 61 = .ok (.iconst 1, 1) := by decide +kernel
theorem dX8_trade_62 : decode cX8_trade 62 = .ok (.goto 44, 3) := by decide +kernel
theorem dX8_trade_65 : decode cX8_trade 65 = .ok (.iload 5, 2) := by decide +kernel
theorem dX8_trade_67 : decode cX8_trade 67 = .ok (.ifCond .ne 7, 3) := by decide +kernel
theorem dX8_trade_70 : decode cX8_trade 70 = .ok (.iconst 2, 1) := by decide +kernel
theorem dX8_trade_71 : decode cX8_trade 71 = .ok (.goto 35, 3) := by decide +kernel
theorem dX8_trade_74 : decode cX8_trade 74 = .ok (.aload_n 0, 1) := by decide +kernel
theorem dX8_trade_75 : decode cX8_trade 75 = .ok (.getfield 68, 3) := by decide +kernel
theorem dX8_trade_78 : decode cX8_trade 78 = .ok (.iload_n 1, 1) := by decide +kernel
theorem dX8_trade_79 : decode cX8_trade 79 = .ok (.baload, 1) := by decide +kernel
theorem dX8_trade_80 : decode cX8_trade 80 = .ok (.ifCond .eq 21, 3) := by decide +kernel
theorem dX8_trade_83 : decode cX8_trade 83 = .ok (.aload_n 0, 1) := by decide +kernel
theorem dX8_trade_84 : decode cX8_trade 84 = .ok (.iload_n 2, 1) := by decide +kernel
theorem dX8_trade_85 : decode cX8_trade 85 = .ok (.invokevirtual 155, 3) := by decide +kernel
theorem dX8_trade_88 : decode cX8_trade 88 = .ok (.ifCond .ne 13, 3) := by decide +kernel
theorem dX8_trade_91 : decode cX8_trade 91 = .ok (.aload_n 0, 1) := by decide +kernel
theorem dX8_trade_92 : decode cX8_trade 92 = .ok (.getfield 44, 3) := by decide +kernel
theorem dX8_trade_95 : decode cX8_trade 95 = .ok (.iload_n 2, 1) := by decide +kernel
theorem dX8_trade_96 : decode cX8_trade 96 = .ok (.iaload, 1) := by decide +kernel
theorem dX8_trade_97 : decode cX8_trade 97 = .ok (.iload_n 3, 1) := by decide +kernel
theorem dX8_trade_98 : decode cX8_trade 98 = .ok (.if_icmp .ge 7, 3) := by decide +kernel
theorem dX8_trade_101 : decode cX8_trade 101 = .ok (.iconst 3, 1) := by decide +kernel
theorem dX8_trade_102 : decode cX8_trade 102 = .ok (.goto 4, 3) := by decide +kernel
theorem dX8_trade_105 : decode cX8_trade 105 = .ok (.iconst 0, 1) := by decide +kernel
theorem dX8_trade_106 : decode cX8_trade 106 = .ok (.invokevirtual 145, 3) := by decide +kernel
theorem dX8_trade_109 : decode cX8_trade 109 = .ok (.ifCond .ne 5, 3) := by decide +kernel
theorem dX8_trade_112 : decode cX8_trade 112 = .ok (.iconst 0, 1) := by decide +kernel
theorem dX8_trade_113 : decode cX8_trade 113 = .ok (.ireturn, 1) := by decide +kernel
theorem dX8_trade_114 : decode cX8_trade 114 = .ok (.aload_n 0, 1) := by decide +kernel
theorem dX8_trade_115 : decode cX8_trade 115 = .ok (.getfield 81, 3) := by decide +kernel
theorem dX8_trade_118 : decode cX8_trade 118 = .ok (.iload_n 1, 1) := by decide +kernel
theorem dX8_trade_119 : decode cX8_trade 119 = .ok (.aload_n 0, 1) := by decide +kernel
theorem dX8_trade_120 : decode cX8_trade 120 = .ok (.getfield 59, 3) := by decide +kernel
theorem dX8_trade_123 : decode cX8_trade 123 = .ok (.iload_n 1, 1) := by decide +kernel
theorem dX8_trade_124 : decode cX8_trade 124 = .ok (.iaload, 1) := by decide +kernel
theorem dX8_trade_125 : decode cX8_trade 125 = .ok (.iastore, 1) := by decide +kernel
theorem dX8_trade_126 : decode cX8_trade 126 = .ok (.aload_n 0, 1) := by decide +kernel
theorem dX8_trade_127 : decode cX8_trade 127 = .ok (.getfield 84, 3) := by decide +kernel
theorem dX8_trade_130 : decode cX8_trade 130 = .ok (.iload_n 1, 1) := by decide +kernel
theorem dX8_trade_131 : decode cX8_trade 131 = .ok (.iload_n 2, 1) := by decide +kernel
theorem dX8_trade_132 : decode cX8_trade 132 = .ok (.iastore, 1) := by decide +kernel
theorem dX8_trade_133 : decode cX8_trade 133 = .ok (.aload_n 0, 1) := by decide +kernel
theorem dX8_trade_134 : decode cX8_trade 134 = .ok (.getfield 87, 3) := by decide +kernel
theorem dX8_trade_137 : decode cX8_trade 137 = .ok (.iload_n 1, 1) := by decide +kernel
theorem dX8_trade_138 : decode cX8_trade 138 = .ok (.iload_n 3, 1) := by decide +kernel
theorem dX8_trade_139 : decode cX8_trade 139 = .ok (.iastore, 1) := by decide +kernel
theorem dX8_trade_140 : decode cX8_trade 140 = .ok (.aload_n 0, 1) := by decide +kernel
theorem dX8_trade_141 : decode cX8_trade 141 = .ok (.getfield 90, 3) := by decide +kernel
theorem dX8_trade_144 : decode cX8_trade 144 = .ok (.iload_n 1, 1) := by decide +kernel
theorem dX8_trade_145 : decode cX8_trade 145 = .ok (.aload_n 0, 1) := by decide +kernel
theorem dX8_trade_146 : decode cX8_trade 146 = .ok (.getfield 138, 3) := by decide +kernel
theorem dX8_trade_149 : decode cX8_trade 149 = .ok (.iastore, 1) := by decide +kernel
theorem dX8_trade_150 : decode cX8_trade 150 = .ok (.aload_n 0, 1) := by decide +kernel
theorem dX8_trade_151 : decode cX8_trade 151 = .ok (.getfield 78, 3) := by decide +kernel
theorem dX8_trade_154 : decode cX8_trade 154 = .ok (.iload_n 1, 1) := by decide +kernel
theorem dX8_trade_155 : decode cX8_trade 155 = .ok (.iconst 0, 1) := by decide +kernel
theorem dX8_trade_156 : decode cX8_trade 156 = .ok (.bastore, 1) := by decide +kernel
theorem dX8_trade_157 : decode cX8_trade 157 = .ok (.aload_n 0, 1) := by decide +kernel
theorem dX8_trade_158 : decode cX8_trade 158 = .ok (.getfield 44, 3) := by decide +kernel
theorem dX8_trade_161 : decode cX8_trade 161 = .ok (.iload_n 2, 1) := by decide +kernel
theorem dX8_trade_162 : decode cX8_trade 162 = .ok (.dup2, 1) := by decide +kernel
theorem dX8_trade_163 : decode cX8_trade 163 = .ok (.iaload, 1) := by decide +kernel
theorem dX8_trade_164 : decode cX8_trade 164 = .ok (.iload_n 3, 1) := by decide +kernel
theorem dX8_trade_165 : decode cX8_trade 165 = .ok (.isub, 1) := by decide +kernel
theorem dX8_trade_166 : decode cX8_trade 166 = .ok (.iastore, 1) := by decide +kernel
theorem dX8_trade_167 : decode cX8_trade 167 = .ok (.aload_n 0, 1) := by decide +kernel
theorem dX8_trade_168 : decode cX8_trade 168 = .ok (.getfield 44, 3) := by decide +kernel
theorem dX8_trade_171 : decode cX8_trade 171 = .ok (.aload_n 0, 1) := by decide +kernel
theorem dX8_trade_172 : decode cX8_trade 172 = .ok (.getfield 81, 3) := by decide +kernel
theorem dX8_trade_175 : decode cX8_trade 175 = .ok (.iload_n 1, 1) := by decide +kernel
theorem dX8_trade_176 : decode cX8_trade 176 = .ok (.iaload, 1) := by decide +kernel
theorem dX8_trade_177 : decode cX8_trade 177 = .ok (.dup2, 1) := by decide +kernel
theorem dX8_trade_178 : decode cX8_trade 178 = .ok (.iaload, 1) := by decide +kernel
theorem dX8_trade_179 : decode cX8_trade 179 = .ok (.iload_n 3, 1) := by decide +kernel
theorem dX8_trade_180 : decode cX8_trade 180 = .ok (.iadd, 1) := by decide +kernel
theorem dX8_trade_181 : decode cX8_trade 181 = .ok (.iastore, 1) := by decide +kernel
theorem dX8_trade_182 : decode cX8_trade 182 = .ok (.aload_n 0, 1) := by decide +kernel
theorem dX8_trade_183 : decode cX8_trade 183 = .ok (.getfield 59, 3) := by decide +kernel
theorem dX8_trade_186 : decode cX8_trade 186 = .ok (.iload_n 1, 1) := by decide +kernel
theorem dX8_trade_187 : decode cX8_trade 187 = .ok (.iload_n 2, 1) := by decide +kernel
theorem dX8_trade_188 : decode cX8_trade 188 = .ok (.iastore, 1) := by decide +kernel
theorem dX8_trade_189 : decode cX8_trade 189 = .ok (.aload_n 0, 1) := by decide +kernel
theorem dX8_trade_190 : decode cX8_trade 190 = .ok (.getfield 81, 3) := by decide +kernel
theorem dX8_trade_193 : decode cX8_trade 193 = .ok (.iload_n 1, 1) := by decide +kernel
theorem dX8_trade_194 : decode cX8_trade 194 = .ok (.iaload, 1) := by decide +kernel
theorem dX8_trade_195 : decode cX8_trade 195 = .ok (.ireturn, 1) := by decide +kernel
theorem dX8_isSalted_0 : decode cX8_isSalted 0 = .ok (.iconst 0, 1) := by decide +kernel
theorem dX8_isSalted_1 : decode cX8_isSalted 1 = .ok (.istore_n 2, 1) := by decide +kernel
theorem dX8_isSalted_2 : decode cX8_isSalted 2 = .ok (.iconst 0, 1) := by decide +kernel
theorem dX8_isSalted_3 : decode cX8_isSalted 3 = .ok (.istore_n 3, 1) := by decide +kernel
theorem dX8_isSalted_4 : decode cX8_isSalted 4 = .ok (.iload_n 3, 1) := by decide +kernel
theorem dX8_isSalted_5 : decode cX8_isSalted 5 = .ok (.aload_n 0, 1) := by decide +kernel
theorem dX8_isSalted_6 : decode cX8_isSalted 6 = .ok (.getfield 215, 3) := by decide +kernel
theorem dX8_isSalted_9 : decode cX8_isSalted 9 = .ok (.if_icmp .ge 106, 3) := by decide +kernel
theorem dX8_isSalted_12 : decode cX8_isSalted 12 = .ok (.aload_n 0, 1) := by decide +kernel
theorem dX8_isSalted_13 : decode cX8_isSalted 13 = .ok (.getfield 105, 3) := by decide +kernel
theorem dX8_isSalted_16 : decode cX8_isSalted 16 = .ok (.iload_n 3, 1) := by decide +kernel
theorem dX8_isSalted_17 : decode cX8_isSalted 17 = .ok (.iaload, 1) := by decide +kernel
theorem dX8_isSalted_18 : decode cX8_isSalted 18 = .ok (.aload_n 0, 1) := by decide +kernel
theorem dX8_isSalted_19 : decode cX8_isSalted 19 = .ok (.getfield 81, 3) := by decide +kernel
theorem dX8_isSalted_22 : decode cX8_isSalted 22 = .ok (.iload_n 1, 1) := by decide +kernel
theorem dX8_isSalted_23 : decode cX8_isSalted 23 = .ok (.iaload, 1) := by decide +kernel
theorem dX8_isSalted_24 : decode cX8_isSalted 24 = .ok (.if_icmp .ne 40, 3) := by decide +kernel
theorem dX8_isSalted_27 : decode cX8_isSalted 27 = .ok (.aload_n 0, 1) := by decide +kernel
theorem dX8_isSalted_28 : decode cX8_isSalted 28 = .ok (.getfield 108, 3) := by decide +kernel
theorem dX8_isSalted_31 : decode cX8_isSalted 31 = .ok (.iload_n 3, 1) := by decide +kernel
theorem dX8_isSalted_32 : decode cX8_isSalted 32 = .ok (.iaload, 1) := by decide +kernel
theorem dX8_isSalted_33 : decode cX8_isSalted 33 = .ok (.aload_n 0, 1) := by decide +kernel
theorem dX8_isSalted_34 : decode cX8_isSalted 34 = .ok (.getfield 62, 3) := by decide +kernel
theorem dX8_isSalted_37 : decode cX8_isSalted 37 = .ok (.iload_n 1, 1) := by decide +kernel
theorem dX8_isSalted_38 : decode cX8_isSalted 38 = .ok (.iaload, 1) := by decide +kernel
theorem dX8_isSalted_39 : decode cX8_isSalted 39 = .ok (.aload_n 0, 1) := by decide +kernel
theorem dX8_isSalted_40 : decode cX8_isSalted 40 = .ok (.getfield 62, 3) := by decide +kernel
theorem dX8_isSalted_43 : decode cX8_isSalted 43 = .ok (.iload_n 1, 1) := by decide +kernel
theorem dX8_isSalted_44 : decode cX8_isSalted 44 = .ok (.iaload, 1) := by decide +kernel
theorem dX8_isSalted_45 : decode cX8_isSalted 45 = .ok (.aload_n 0, 1) := by decide +kernel
theorem dX8_isSalted_46 : decode cX8_isSalted 46 = .ok (.getfield 65, 3) := by decide +kernel
theorem dX8_isSalted_49 : decode cX8_isSalted 49 = .ok (.iload_n 1, 1) := by decide +kernel
theorem dX8_isSalted_50 : decode cX8_isSalted 50 = .ok (.iaload, 1) := by decide +kernel
theorem dX8_isSalted_51 : decode cX8_isSalted 51 = .ok (.iadd, 1) := by decide +kernel
theorem dX8_isSalted_52 : decode cX8_isSalted 52 = .ok (.iconst 1, 1) := by decide +kernel
theorem dX8_isSalted_53 : decode cX8_isSalted 53 = .ok (.isub, 1) := by decide +kernel
theorem dX8_isSalted_54 : decode cX8_isSalted 54 = .ok (.invokestatic 123, 3) := by decide +kernel
theorem dX8_isSalted_57 : decode cX8_isSalted 57 = .ok (.ifCond .eq 7, 3) := by decide +kernel
theorem dX8_isSalted_60 : decode cX8_isSalted 60 = .ok (.iconst 1, 1) := by decide +kernel
theorem dX8_isSalted_61 : decode cX8_isSalted 61 = .ok (.goto 4, 3) := by decide +kernel
theorem dX8_isSalted_64 : decode cX8_isSalted 64 = .ok (.iconst 0, 1) := by decide +kernel
theorem dX8_isSalted_65 : decode cX8_isSalted 65 = .ok (.istore 4, 2) := by decide +kernel
theorem dX8_isSalted_67 : decode cX8_isSalted 67 = .ok (.iload_n 2, 1) := by decide +kernel
theorem dX8_isSalted_68 : decode cX8_isSalted 68 = .ok (.ifCond .ne 35, 3) := by decide +kernel
theorem dX8_isSalted_71 : decode cX8_isSalted 71 = .ok (.iload 4, 2) := by decide +kernel
theorem dX8_isSalted_73 : decode cX8_isSalted 73 = .ok (.ifCond .eq 34, 3) := by decide +kernel
theorem dX8_isSalted_76 : decode cX8_isSalted 76 = .ok (.aload_n 0, 1) := by decide +kernel
theorem dX8_isSalted_77 : decode cX8_isSalted 77 = .ok (.getfield 111, 3) := by decide +kernel
theorem dX8_isSalted_80 : decode cX8_isSalted 80 = .ok (.iload_n 3, 1) := by decide +kernel
theorem dX8_isSalted_81 : decode cX8_isSalted 81 = .ok (.iaload, 1) := by decide +kernel
theorem dX8_isSalted_82 : decode cX8_isSalted 82 = .ok (.aload_n 0, 1) := by decide +kernel
theorem dX8_isSalted_83 : decode cX8_isSalted 83 = .ok (.getfield 90, 3) := by decide +kernel
theorem dX8_isSalted_86 : decode cX8_isSalted 86 = .ok (.iload_n 1, 1) := by decide +kernel
theorem dX8_isSalted_87 : decode cX8_isSalted 87 = .ok (.iaload, 1) := by decide +kernel
theorem dX8_isSalted_88 : decode cX8_isSalted 88 = .ok (.bipush 30, 2) := by decide +kernel
theorem dX8_isSalted_90 : decode cX8_isSalted 90 = .ok (.isub, 1) := by decide +kernel
theorem dX8_isSalted_91 : decode cX8_isSalted 91 = .ok (.aload_n 0, 1) := by decide +kernel
theorem dX8_isSalted_92 : decode cX8_isSalted 92 = .ok (.getfield 90, 3) := by decide +kernel
theorem dX8_isSalted_95 : decode cX8_isSalted 95 = .ok (.iload_n 1, 1) := by decide +kernel
theorem dX8_isSalted_96 : decode cX8_isSalted 96 = .ok (.iaload, 1) := by decide +kernel
theorem dX8_isSalted_97 : decode cX8_isSalted 97 = .ok (.invokestatic 123, 3) := by decide +kernel
theorem dX8_isSalted_100 : decode cX8_isSalted 100 = .ok (.ifCond .eq 7, 3) := by decide +kernel
theorem dX8_isSalted_103 : decode cX8_isSalted 103 = .ok (.iconst 1, 1) := by decide +kernel
theorem dX8_isSalted_104 : decode cX8_isSalted 104 = .ok (.goto 4, 3) := by decide +kernel
theorem dX8_isSalted_107 : decode cX8_isSalted 107 = .ok (.iconst 0, 1) := by decide +kernel
theorem dX8_isSalted_108 : decode cX8_isSalted 108 = .ok (.istore_n 2, 1) := by decide +kernel
theorem dX8_isSalted_109 : decode cX8_isSalted 109 = .ok (.iinc 3 1, 3) := by decide +kernel
theorem dX8_isSalted_112 : decode cX8_isSalted 112 = .ok (.goto (-108), 3) := by decide +kernel
theorem dX8_isSalted_115 : decode cX8_isSalted 115 = .ok (.iload_n 2, 1) := by decide +kernel
theorem dX8_isSalted_116 : decode cX8_isSalted 116 = .ok (.ireturn, 1) := by decide +kernel
theorem dX8_suit_0 : decode cX8_suit 0 = .ok (.aload_n 0, 1) := by decide +kernel
theorem dX8_suit_1 : decode cX8_suit 1 = .ok (.iload_n 1, 1) := by decide +kernel
theorem dX8_suit_2 : decode cX8_suit 2 = .ok (.invokevirtual 230, 3) := by decide +kernel
theorem dX8_suit_5 : decode cX8_suit 5 = .ok (.istore_n 2, 1) := by decide +kernel
theorem dX8_suit_6 : decode cX8_suit 6 = .ok (.aload_n 0, 1) := by decide +kernel
theorem dX8_suit_7 : decode cX8_suit 7 = .ok (.iload_n 2, 1) := by decide +kernel
theorem dX8_suit_8 : decode cX8_suit 8 = .ok (.ifCond .ne 7, 3) := by decide +kernel
theorem dX8_suit_11 : decode cX8_suit 11 = .ok (.iconst 1, 1) := by decide +kernel
theorem dX8_suit_12 : decode cX8_suit 12 = .ok (.goto 43, 3) := by decide +kernel
theorem dX8_suit_15 : decode cX8_suit 15 = .ok (.aload_n 0, 1) := by decide +kernel
theorem dX8_suit_16 : decode cX8_suit 16 = .ok (.getfield 90, 3) := by decide +kernel
theorem dX8_suit_19 : decode cX8_suit 19 = .ok (.iload_n 1, 1) := by decide +kernel
theorem dX8_suit_20 : decode cX8_suit 20 = .ok (.iaload, 1) := by decide +kernel
theorem dX8_suit_21 : decode cX8_suit 21 = .ok (.iconst (-1), 1) := by decide +kernel
theorem dX8_suit_22 : decode cX8_suit 22 = .ok (.if_icmp .eq 28, 3) := by decide +kernel
theorem dX8_suit_25 : decode cX8_suit 25 = .ok (.aload_n 0, 1) := by decide +kernel
theorem dX8_suit_26 : decode cX8_suit 26 = .ok (.getfield 78, 3) := by decide +kernel
theorem dX8_suit_29 : decode cX8_suit 29 = .ok (.iload_n 1, 1) := by decide +kernel
theorem dX8_suit_30 : decode cX8_suit 30 = .ok (.baload, 1) := by decide +kernel
theorem dX8_suit_31 : decode cX8_suit 31 = .ok (.ifCond .ne 19, 3) := by decide +kernel
theorem dX8_suit_34 : decode cX8_suit 34 = .ok (.aload_n 0, 1) := by decide +kernel
theorem dX8_suit_35 : decode cX8_suit 35 = .ok (.getfield 138, 3) := by decide +kernel
theorem dX8_suit_38 : decode cX8_suit 38 = .ok (.aload_n 0, 1) := by decide +kernel
theorem dX8_suit_39 : decode cX8_suit 39 = .ok (.getfield 90, 3) := by decide +kernel
theorem dX8_suit_42 : decode cX8_suit 42 = .ok (.iload_n 1, 1) := by decide +kernel
theorem dX8_suit_43 : decode cX8_suit 43 = .ok (.iaload, 1) := by decide +kernel
theorem dX8_suit_44 : decode cX8_suit 44 = .ok (.isub, 1) := by decide +kernel
theorem dX8_suit_45 : decode cX8_suit 45 = .ok (.bipush 30, 2) := by decide +kernel
theorem dX8_suit_47 : decode cX8_suit 47 = .ok (.if_icmp .le 7, 3) := by decide +kernel
theorem dX8_suit_50 : decode cX8_suit 50 = .ok (.iconst 2, 1) := by decide +kernel
theorem dX8_suit_51 : decode cX8_suit 51 = .ok (.goto 4, 3) := by decide +kernel
theorem dX8_suit_54 : decode cX8_suit 54 = .ok (.iconst 0, 1) := by decide +kernel
theorem dX8_suit_55 : decode cX8_suit 55 = .ok (.invokevirtual 145, 3) := by decide +kernel
theorem dX8_suit_58 : decode cX8_suit 58 = .ok (.ifCond .ne 5, 3) := by decide +kernel
theorem dX8_suit_61 : decode cX8_suit 61 = .ok (.iconst 0, 1) := by decide +kernel
theorem dX8_suit_62 : decode cX8_suit 62 = .ok (.ireturn, 1) := by decide +kernel
theorem dX8_suit_63 : decode cX8_suit 63 = .ok (.aload_n 0, 1) := by decide +kernel
theorem dX8_suit_64 : decode cX8_suit 64 = .ok (.getfield 78, 3) := by decide +kernel
theorem dX8_suit_67 : decode cX8_suit 67 = .ok (.iload_n 1, 1) := by decide +kernel
theorem dX8_suit_68 : decode cX8_suit 68 = .ok (.iconst 1, 1) := by decide +kernel
theorem dX8_suit_69 : decode cX8_suit 69 = .ok (.bastore, 1) := by decide +kernel
theorem dX8_suit_70 : decode cX8_suit 70 = .ok (.aload_n 0, 1) := by decide +kernel
theorem dX8_suit_71 : decode cX8_suit 71 = .ok (.iload_n 1, 1) := by decide +kernel
theorem dX8_suit_72 : decode cX8_suit 72 = .ok (.invokevirtual 233, 3) := by decide +kernel
theorem dX8_suit_75 : decode cX8_suit 75 = .ok (.ifCond .ne 5, 3) := by decide +kernel
theorem dX8_suit_78 : decode cX8_suit 78 = .ok (.iconst (-1), 1) := by decide +kernel
theorem dX8_suit_79 : decode cX8_suit 79 = .ok (.ireturn, 1) := by decide +kernel
theorem dX8_suit_80 : decode cX8_suit 80 = .ok (.aload_n 0, 1) := by decide +kernel
theorem dX8_suit_81 : decode cX8_suit 81 = .ok (.getfield 87, 3) := by decide +kernel
theorem dX8_suit_84 : decode cX8_suit 84 = .ok (.iload_n 1, 1) := by decide +kernel
theorem dX8_suit_85 : decode cX8_suit 85 = .ok (.iaload, 1) := by decide +kernel
theorem dX8_suit_86 : decode cX8_suit 86 = .ok (.aload_n 0, 1) := by decide +kernel
theorem dX8_suit_87 : decode cX8_suit 87 = .ok (.getfield 44, 3) := by decide +kernel
theorem dX8_suit_90 : decode cX8_suit 90 = .ok (.aload_n 0, 1) := by decide +kernel
theorem dX8_suit_91 : decode cX8_suit 91 = .ok (.getfield 81, 3) := by decide +kernel
theorem dX8_suit_94 : decode cX8_suit 94 = .ok (.iload_n 1, 1) := by decide +kernel
theorem dX8_suit_95 : decode cX8_suit 95 = .ok (.iaload, 1) := by decide +kernel
theorem dX8_suit_96 : decode cX8_suit 96 = .ok (.iaload, 1) := by decide +kernel
theorem dX8_suit_97 : decode cX8_suit 97 = .ok (.invokestatic 148, 3) := by decide +kernel
theorem dX8_suit_100 : decode cX8_suit 100 = .ok (.istore_n 3, 1) := by decide +kernel
theorem dX8_suit_101 : decode cX8_suit 101 = .ok (.aload_n 0, 1) := by decide +kernel
theorem dX8_suit_102 : decode cX8_suit 102 = .ok (.getfield 44, 3) := by decide +kernel
theorem dX8_suit_105 : decode cX8_suit 105 = .ok (.aload_n 0, 1) := by decide +kernel
theorem dX8_suit_106 : decode cX8_suit 106 = .ok (.getfield 81, 3) := by decide +kernel
theorem dX8_suit_109 : decode cX8_suit 109 = .ok (.iload_n 1, 1) := by decide +kernel
theorem dX8_suit_110 : decode cX8_suit 110 = .ok (.iaload, 1) := by decide +kernel
theorem dX8_suit_111 : decode cX8_suit 111 = .ok (.dup2, 1) := by decide +kernel
theorem dX8_suit_112 : decode cX8_suit 112 = .ok (.iaload, 1) := by decide +kernel
theorem dX8_suit_113 : decode cX8_suit 113 = .ok (.iload_n 3, 1) := by decide +kernel
theorem dX8_suit_114 : decode cX8_suit 114 = .ok (.isub, 1) := by decide +kernel
theorem dX8_suit_115 : decode cX8_suit 115 = .ok (.iastore, 1) := by decide +kernel
theorem dX8_suit_116 : decode cX8_suit 116 = .ok (.aload_n 0, 1) := by decide +kernel
theorem dX8_suit_117 : decode cX8_suit 117 = .ok (.getfield 44, 3) := by decide +kernel
theorem dX8_suit_120 : decode cX8_suit 120 = .ok (.aload_n 0, 1) := by decide +kernel
theorem dX8_suit_121 : decode cX8_suit 121 = .ok (.getfield 84, 3) := by decide +kernel
theorem dX8_suit_124 : decode cX8_suit 124 = .ok (.iload_n 1, 1) := by decide +kernel
theorem dX8_suit_125 : decode cX8_suit 125 = .ok (.iaload, 1) := by decide +kernel
theorem dX8_suit_126 : decode cX8_suit 126 = .ok (.dup2, 1) := by decide +kernel
theorem dX8_suit_127 : decode cX8_suit 127 = .ok (.iaload, 1) := by decide +kernel
theorem dX8_suit_128 : decode cX8_suit 128 = .ok (.iload_n 3, 1) := by decide +kernel
theorem dX8_suit_129 : decode cX8_suit 129 = .ok (.iadd, 1) := by decide +kernel
theorem dX8_suit_130 : decode cX8_suit 130 = .ok (.iastore, 1) := by decide +kernel
theorem dX8_suit_131 : decode cX8_suit 131 = .ok (.iload_n 3, 1) := by decide +kernel
theorem dX8_suit_132 : decode cX8_suit 132 = .ok (.ireturn, 1) := by decide +kernel
theorem dX8_rumour_0 : decode cX8_rumour 0 = .ok (.aload_n 0, 1) := by decide +kernel
theorem dX8_rumour_1 : decode cX8_rumour 1 = .ok (.iload_n 1, 1) := by decide +kernel
theorem dX8_rumour_2 : decode cX8_rumour 2 = .ok (.invokestatic 134, 3) := by decide +kernel
theorem dX8_rumour_5 : decode cX8_rumour 5 = .ok (.ifCond .ne 7, 3) := by decide +kernel
theorem dX8_rumour_8 : decode cX8_rumour 8 = .ok (.iconst 1, 1) := by decide +kernel
theorem dX8_rumour_9 : decode cX8_rumour 9 = .ok (.goto 18, 3) := by decide +kernel
theorem dX8_rumour_12 : decode cX8_rumour 12 = .ok (.iload_n 2, 1) := by decide +kernel
theorem dX8_rumour_13 : decode cX8_rumour 13 = .ok (.iconst 0, 1) := by decide +kernel
theorem dX8_rumour_14 : decode cX8_rumour 14 = .ok (.bipush 100, 2) := by decide +kernel
theorem dX8_rumour_16 : decode cX8_rumour 16 = .ok (.invokestatic 123, 3) := by decide +kernel
theorem dX8_rumour_19 : decode cX8_rumour 19 = .ok (.ifCond .eq 7, 3) := by decide +kernel
theorem dX8_rumour_22 : decode cX8_rumour 22 = .ok (.iconst 0, 1) := by decide +kernel
theorem dX8_rumour_23 : decode cX8_rumour 23 = .ok (.goto 4, 3) := by decide +kernel
theorem dX8_rumour_26 : decode cX8_rumour 26 = .ok (.iconst 2, 1) := by decide +kernel
theorem dX8_rumour_27 : decode cX8_rumour 27 = .ok (.invokevirtual 145, 3) := by decide +kernel
theorem dX8_rumour_30 : decode cX8_rumour 30 = .ok (.ifCond .ne 5, 3) := by decide +kernel
theorem dX8_rumour_33 : decode cX8_rumour 33 = .ok (.iconst 0, 1) := by decide +kernel
theorem dX8_rumour_34 : decode cX8_rumour 34 = .ok (.ireturn, 1) := by decide +kernel
theorem dX8_rumour_35 : decode cX8_rumour 35 = .ok (.aload_n 0, 1) := by decide +kernel
theorem dX8_rumour_36 : decode cX8_rumour 36 = .ok (.getfield 32, 3) := by decide +kernel
theorem dX8_rumour_39 : decode cX8_rumour 39 = .ok (.iload_n 1, 1) := by decide +kernel
theorem dX8_rumour_40 : decode cX8_rumour 40 = .ok (.iaload, 1) := by decide +kernel
theorem dX8_rumour_41 : decode cX8_rumour 41 = .ok (.istore_n 3, 1) := by decide +kernel
theorem dX8_rumour_42 : decode cX8_rumour 42 = .ok (.aload_n 0, 1) := by decide +kernel
theorem dX8_rumour_43 : decode cX8_rumour 43 = .ok (.getfield 32, 3) := by decide +kernel
theorem dX8_rumour_46 : decode cX8_rumour 46 = .ok (.iload_n 1, 1) := by decide +kernel
theorem dX8_rumour_47 : decode cX8_rumour 47 = .ok (.iload_n 2, 1) := by decide +kernel
theorem dX8_rumour_48 : decode cX8_rumour 48 = .ok (.iastore, 1) := by decide +kernel
theorem dX8_rumour_49 : decode cX8_rumour 49 = .ok (.iload_n 3, 1) := by decide +kernel
theorem dX8_rumour_50 : decode cX8_rumour 50 = .ok (.ireturn, 1) := by decide +kernel
theorem dX8_day_0 : decode cX8_day 0 = .ok (.aload_n 0, 1) := by decide +kernel
theorem dX8_day_1 : decode cX8_day 1 = .ok (.iconst 0, 1) := by decide +kernel
theorem dX8_day_2 : decode cX8_day 2 = .ok (.putfield 120, 3) := by decide +kernel
theorem dX8_day_5 : decode cX8_day 5 = .ok (.aload_n 0, 1) := by decide +kernel
theorem dX8_day_6 : decode cX8_day 6 = .ok (.getfield 138, 3) := by decide +kernel
theorem dX8_day_9 : decode cX8_day 9 = .ok (.ireturn, 1) := by decide +kernel
theorem dX8_holds_0 : decode cX8_holds 0 = .ok (.aload_n 0, 1) := by decide +kernel
theorem dX8_holds_1 : decode cX8_holds 1 = .ok (.iload_n 1, 1) := by decide +kernel
theorem dX8_holds_2 : decode cX8_holds 2 = .ok (.invokestatic 134, 3) := by decide +kernel
theorem dX8_holds_5 : decode cX8_holds 5 = .ok (.ifCond .eq 7, 3) := by decide +kernel
theorem dX8_holds_8 : decode cX8_holds 8 = .ok (.iconst 0, 1) := by decide +kernel
theorem dX8_holds_9 : decode cX8_holds 9 = .ok (.goto 4, 3) := by decide +kernel
theorem dX8_holds_12 : decode cX8_holds 12 = .ok (.iconst 1, 1) := by decide +kernel
theorem dX8_holds_13 : decode cX8_holds 13 = .ok (.invokevirtual 145, 3) := by decide +kernel
theorem dX8_holds_16 : decode cX8_holds 16 = .ok (.ifCond .eq 11, 3) := by decide +kernel
theorem dX8_holds_19 : decode cX8_holds 19 = .ok (.aload_n 0, 1) := by decide +kernel
theorem dX8_holds_20 : decode cX8_holds 20 = .ok (.iload_n 1, 1) := by decide +kernel
theorem dX8_holds_21 : decode cX8_holds 21 = .ok (.invokevirtual 172, 3) := by decide +kernel
theorem dX8_holds_24 : decode cX8_holds 24 = .ok (.goto 4, 3) := by decide +kernel
theorem dX8_holds_27 : decode cX8_holds 27 = .ok (.iconst 0, 1) := by decide +kernel
theorem dX8_holds_28 : decode cX8_holds 28 = .ok (.ireturn, 1) := by decide +kernel
theorem dX8_ofClaim_0 : decode cX8_ofClaim 0 = .ok (.aload_n 0, 1) := by decide +kernel
theorem dX8_ofClaim_1 : decode cX8_ofClaim 1 = .ok (.aload_n 0, 1) := by decide +kernel
theorem dX8_ofClaim_2 : decode cX8_ofClaim 2 = .ok (.iload_n 1, 1) := by decide +kernel
theorem dX8_ofClaim_3 : decode cX8_ofClaim 3 = .ok (.invokevirtual 230, 3) := by decide +kernel
theorem dX8_ofClaim_6 : decode cX8_ofClaim 6 = .ok (.ifCond .ne 7, 3) := by decide +kernel
theorem dX8_ofClaim_9 : decode cX8_ofClaim 9 = .ok (.iconst 1, 1) := by decide +kernel
theorem dX8_ofClaim_10 : decode cX8_ofClaim 10 = .ok (.goto 17, 3) := by decide +kernel
theorem dX8_ofClaim_13 : decode cX8_ofClaim 13 = .ok (.iload_n 2, 1) := by decide +kernel
theorem dX8_ofClaim_14 : decode cX8_ofClaim 14 = .ok (.iconst 0, 1) := by decide +kernel
theorem dX8_ofClaim_15 : decode cX8_ofClaim 15 = .ok (.iconst 5, 1) := by decide +kernel
theorem dX8_ofClaim_16 : decode cX8_ofClaim 16 = .ok (.invokestatic 123, 3) := by decide +kernel
theorem dX8_ofClaim_19 : decode cX8_ofClaim 19 = .ok (.ifCond .eq 7, 3) := by decide +kernel
theorem dX8_ofClaim_22 : decode cX8_ofClaim 22 = .ok (.iconst 0, 1) := by decide +kernel
theorem dX8_ofClaim_23 : decode cX8_ofClaim 23 = .ok (.goto 4, 3) := by decide +kernel
theorem dX8_ofClaim_26 : decode cX8_ofClaim 26 = .ok (.iconst 2, 1) := by decide +kernel
theorem dX8_ofClaim_27 : decode cX8_ofClaim 27 = .ok (.invokevirtual 145, 3) := by decide +kernel
theorem dX8_ofClaim_30 : decode cX8_ofClaim 30 = .ok (.ifCond .ne 5, 3) := by decide +kernel
theorem dX8_ofClaim_33 : decode cX8_ofClaim 33 = .ok (.iconst 0, 1) := by decide +kernel
theorem dX8_ofClaim_34 : decode cX8_ofClaim 34 = .ok (.ireturn, 1) := by decide +kernel
theorem dX8_ofClaim_35 : decode cX8_ofClaim 35 = .ok (.iload_n 2, 1) := by decide +kernel
theorem dX8_ofClaim_36 : decode cX8_ofClaim 36 = .ok (.ifCond .ne 12, 3) := by decide +kernel
theorem dX8_ofClaim_39 : decode cX8_ofClaim 39 = .ok (.aload_n 0, 1) := by decide +kernel
theorem dX8_ofClaim_40 : decode cX8_ofClaim 40 = .ok (.getfield 59, 3) := by decide +kernel
theorem dX8_ofClaim_43 : decode cX8_ofClaim 43 = .ok (.iload_n 1, 1) := by decide +kernel
theorem dX8_ofClaim_44 : decode cX8_ofClaim 44 = .ok (.iaload, 1) := by decide +kernel
theorem dX8_ofClaim_45 : decode cX8_ofClaim 45 = .ok (.goto 73, 3) := by decide +kernel
theorem dX8_ofClaim_48 : decode cX8_ofClaim 48 = .ok (.iload_n 2, 1) := by decide +kernel
theorem dX8_ofClaim_49 : decode cX8_ofClaim 49 = .ok (.iconst 1, 1) := by decide +kernel
theorem dX8_ofClaim_50 : decode cX8_ofClaim 50 = .ok (.if_icmp .ne 12, 3) := by decide +kernel
theorem dX8_ofClaim_53 : decode cX8_ofClaim 53 = .ok (.aload_n 0, 1) := by decide +kernel
theorem dX8_ofClaim_54 : decode cX8_ofClaim 54 = .ok (.getfield 62, 3) := by decide +kernel
theorem dX8_ofClaim_57 : decode cX8_ofClaim 57 = .ok (.iload_n 1, 1) := by decide +kernel
theorem dX8_ofClaim_58 : decode cX8_ofClaim 58 = .ok (.iaload, 1) := by decide +kernel
theorem dX8_ofClaim_59 : decode cX8_ofClaim 59 = .ok (.goto 59, 3) := by decide +kernel
theorem dX8_ofClaim_62 : decode cX8_ofClaim 62 = .ok (.iload_n 2, 1) := by decide +kernel
theorem dX8_ofClaim_63 : decode cX8_ofClaim 63 = .ok (.iconst 2, 1) := by decide +kernel
theorem dX8_ofClaim_64 : decode cX8_ofClaim 64 = .ok (.if_icmp .ne 12, 3) := by decide +kernel
theorem dX8_ofClaim_67 : decode cX8_ofClaim 67 = .ok (.aload_n 0, 1) := by decide +kernel
theorem dX8_ofClaim_68 : decode cX8_ofClaim 68 = .ok (.getfield 65, 3) := by decide +kernel
theorem dX8_ofClaim_71 : decode cX8_ofClaim 71 = .ok (.iload_n 1, 1) := by decide +kernel
theorem dX8_ofClaim_72 : decode cX8_ofClaim 72 = .ok (.iaload, 1) := by decide +kernel
theorem dX8_ofClaim_73 : decode cX8_ofClaim 73 = .ok (.goto 45, 3) := by decide +kernel
theorem dX8_ofClaim_76 : decode cX8_ofClaim 76 = .ok (.iload_n 2, 1) := by decide +kernel
theorem dX8_ofClaim_77 : decode cX8_ofClaim 77 = .ok (.iconst 3, 1) := by decide +kernel
theorem dX8_ofClaim_78 : decode cX8_ofClaim 78 = .ok (.if_icmp .ne 20, 3) := by decide +kernel
theorem dX8_ofClaim_81 : decode cX8_ofClaim 81 = .ok (.aload_n 0, 1) := by decide +kernel
theorem dX8_ofClaim_82 : decode cX8_ofClaim 82 = .ok (.getfield 68, 3) := by decide +kernel
theorem dX8_ofClaim_85 : decode cX8_ofClaim 85 = .ok (.iload_n 1, 1) := by decide +kernel
theorem dX8_ofClaim_86 : decode cX8_ofClaim 86 = .ok (.baload, 1) := by decide +kernel
theorem dX8_ofClaim_87 : decode cX8_ofClaim 87 = .ok (.ifCond .eq 7, 3) := by decide +kernel
theorem dX8_ofClaim_90 : decode cX8_ofClaim 90 = .ok (.iconst 1, 1) := by decide +kernel
theorem dX8_ofClaim_91 : decode cX8_ofClaim 91 = .ok (.goto 27, 3) := by decide +kernel
theorem dX8_ofClaim_94 : decode cX8_ofClaim 94 = .ok (.iconst 0, 1) := by decide +kernel
theorem dX8_ofClaim_95 : decode cX8_ofClaim 95 = .ok (.goto 23, 3) := by decide +kernel
theorem dX8_ofClaim_98 : decode cX8_ofClaim 98 = .ok (.iload_n 2, 1) := by decide +kernel
theorem dX8_ofClaim_99 : decode cX8_ofClaim 99 = .ok (.iconst 4, 1) := by decide +kernel
theorem dX8_ofClaim_100 : decode cX8_ofClaim 100 = .ok (.if_icmp .ne 12, 3) := by decide +kernel
theorem dX8_ofClaim_103 : decode cX8_ofClaim 103 = .ok (.aload_n 0, 1) := by decide +kernel
theorem dX8_ofClaim_104 : decode cX8_ofClaim 104 = .ok (.getfield 72, 3) := by decide +kernel
theorem dX8_ofClaim_107 : decode cX8_ofClaim 107 = .ok (.iload_n 1, 1) := by decide +kernel
theorem dX8_ofClaim_108 : decode cX8_ofClaim 108 = .ok (.iaload, 1) := by decide +kernel
theorem dX8_ofClaim_109 : decode cX8_ofClaim 109 = .ok (.goto 9, 3) := by decide +kernel
theorem dX8_ofClaim_112 : decode cX8_ofClaim 112 = .ok (.aload_n 0, 1) := by decide +kernel
theorem dX8_ofClaim_113 : decode cX8_ofClaim 113 = .ok (.getfield 75, 3) := by decide +kernel
theorem dX8_ofClaim_116 : decode cX8_ofClaim 116 = .ok (.iload_n 1, 1) := by decide +kernel
theorem dX8_ofClaim_117 : decode cX8_ofClaim 117 = .ok (.iaload, 1) := by decide +kernel
theorem dX8_ofClaim_118 : decode cX8_ofClaim 118 = .ok (.ireturn, 1) := by decide +kernel
theorem dX8_ofMiner_0 : decode cX8_ofMiner 0 = .ok (.aload_n 0, 1) := by decide +kernel
theorem dX8_ofMiner_1 : decode cX8_ofMiner 1 = .ok (.aload_n 0, 1) := by decide +kernel
theorem dX8_ofMiner_2 : decode cX8_ofMiner 2 = .ok (.iload_n 1, 1) := by decide +kernel
theorem dX8_ofMiner_3 : decode cX8_ofMiner 3 = .ok (.invokevirtual 176, 3) := by decide +kernel
theorem dX8_ofMiner_6 : decode cX8_ofMiner 6 = .ok (.ifCond .ne 7, 3) := by decide +kernel
theorem dX8_ofMiner_9 : decode cX8_ofMiner 9 = .ok (.iconst 1, 1) := by decide +kernel
theorem dX8_ofMiner_10 : decode cX8_ofMiner 10 = .ok (.goto 18, 3) := by decide +kernel
theorem dX8_ofMiner_13 : decode cX8_ofMiner 13 = .ok (.iload_n 2, 1) := by decide +kernel
theorem dX8_ofMiner_14 : decode cX8_ofMiner 14 = .ok (.iconst 0, 1) := by decide +kernel
theorem dX8_ofMiner_15 : decode cX8_ofMiner 15 = .ok (.bipush 7, 2) := by decide +kernel
theorem dX8_ofMiner_17 : decode cX8_ofMiner 17 = .ok (.invokestatic 123, 3) := by decide +kernel
theorem dX8_ofMiner_20 : decode cX8_ofMiner 20 = .ok (.ifCond .eq 7, 3) := by decide +kernel
theorem dX8_ofMiner_23 : decode cX8_ofMiner 23 = .ok (.iconst 0, 1) := by decide +kernel
theorem dX8_ofMiner_24 : decode cX8_ofMiner 24 = .ok (.goto 4, 3) := by decide +kernel
theorem dX8_ofMiner_27 : decode cX8_ofMiner 27 = .ok (.iconst 2, 1) := by decide +kernel
theorem dX8_ofMiner_28 : decode cX8_ofMiner 28 = .ok (.invokevirtual 145, 3) := by decide +kernel
theorem dX8_ofMiner_31 : decode cX8_ofMiner 31 = .ok (.ifCond .ne 5, 3) := by decide +kernel
theorem dX8_ofMiner_34 : decode cX8_ofMiner 34 = .ok (.iconst 0, 1) := by decide +kernel
theorem dX8_ofMiner_35 : decode cX8_ofMiner 35 = .ok (.ireturn, 1) := by decide +kernel
theorem dX8_ofMiner_36 : decode cX8_ofMiner 36 = .ok (.iload_n 2, 1) := by decide +kernel
theorem dX8_ofMiner_37 : decode cX8_ofMiner 37 = .ok (.tableswitch 91 0 6 #[43, 50, 57, 64, 71, 78, 84], 43) := by decide +kernel
theorem dX8_ofMiner_80 : decode cX8_ofMiner 80 = .ok (.aload_n 0, 1) := by decide +kernel
theorem dX8_ofMiner_81 : decode cX8_ofMiner 81 = .ok (.getfield 35, 3) := by decide +kernel
theorem dX8_ofMiner_84 : decode cX8_ofMiner 84 = .ok (.iload_n 1, 1) := by decide +kernel
theorem dX8_ofMiner_85 : decode cX8_ofMiner 85 = .ok (.iaload, 1) := by decide +kernel
theorem dX8_ofMiner_86 : decode cX8_ofMiner 86 = .ok (.ireturn, 1) := by decide +kernel
theorem dX8_ofMiner_87 : decode cX8_ofMiner 87 = .ok (.aload_n 0, 1) := by decide +kernel
theorem dX8_ofMiner_88 : decode cX8_ofMiner 88 = .ok (.getfield 38, 3) := by decide +kernel
theorem dX8_ofMiner_91 : decode cX8_ofMiner 91 = .ok (.iload_n 1, 1) := by decide +kernel
theorem dX8_ofMiner_92 : decode cX8_ofMiner 92 = .ok (.iaload, 1) := by decide +kernel
theorem dX8_ofMiner_93 : decode cX8_ofMiner 93 = .ok (.ireturn, 1) := by decide +kernel
theorem dX8_ofMiner_94 : decode cX8_ofMiner 94 = .ok (.aload_n 0, 1) := by decide +kernel
theorem dX8_ofMiner_95 : decode cX8_ofMiner 95 = .ok (.getfield 41, 3) := by decide +kernel
theorem dX8_ofMiner_98 : decode cX8_ofMiner 98 = .ok (.iload_n 1, 1) := by decide +kernel
theorem dX8_ofMiner_99 : decode cX8_ofMiner 99 = .ok (.iaload, 1) := by decide +kernel
theorem dX8_ofMiner_100 : decode cX8_ofMiner 100 = .ok (.ireturn, 1) := by decide +kernel
theorem dX8_ofMiner_101 : decode cX8_ofMiner 101 = .ok (.aload_n 0, 1) := by decide +kernel
theorem dX8_ofMiner_102 : decode cX8_ofMiner 102 = .ok (.getfield 44, 3) := by decide +kernel
theorem dX8_ofMiner_105 : decode cX8_ofMiner 105 = .ok (.iload_n 1, 1) := by decide +kernel
theorem dX8_ofMiner_106 : decode cX8_ofMiner 106 = .ok (.iaload, 1) := by decide +kernel
theorem dX8_ofMiner_107 : decode cX8_ofMiner 107 = .ok (.ireturn, 1) := by decide +kernel
theorem dX8_ofMiner_108 : decode cX8_ofMiner 108 = .ok (.aload_n 0, 1) := by decide +kernel
theorem dX8_ofMiner_109 : decode cX8_ofMiner 109 = .ok (.getfield 47, 3) := by decide +kernel
theorem dX8_ofMiner_112 : decode cX8_ofMiner 112 = .ok (.iload_n 1, 1) := by decide +kernel
theorem dX8_ofMiner_113 : decode cX8_ofMiner 113 = .ok (.iaload, 1) := by decide +kernel
theorem dX8_ofMiner_114 : decode cX8_ofMiner 114 = .ok (.ireturn, 1) := by decide +kernel
theorem dX8_ofMiner_115 : decode cX8_ofMiner 115 = .ok (.aload_n 0, 1) := by decide +kernel
theorem dX8_ofMiner_116 : decode cX8_ofMiner 116 = .ok (.iload_n 1, 1) := by decide +kernel
theorem dX8_ofMiner_117 : decode cX8_ofMiner 117 = .ok (.invokevirtual 195, 3) := by decide +kernel
theorem dX8_ofMiner_120 : decode cX8_ofMiner 120 = .ok (.ireturn, 1) := by decide +kernel
theorem dX8_ofMiner_121 : decode cX8_ofMiner 121 = .ok (.aload_n 0, 1) := by decide +kernel
theorem dX8_ofMiner_122 : decode cX8_ofMiner 122 = .ok (.getfield 50, 3) := by decide +kernel
theorem dX8_ofMiner_125 : decode cX8_ofMiner 125 = .ok (.iload_n 1, 1) := by decide +kernel
theorem dX8_ofMiner_126 : decode cX8_ofMiner 126 = .ok (.iaload, 1) := by decide +kernel
theorem dX8_ofMiner_127 : decode cX8_ofMiner 127 = .ok (.ireturn, 1) := by decide +kernel
theorem dX8_ofMiner_128 : decode cX8_ofMiner 128 = .ok (.aload_n 0, 1) := by decide +kernel
theorem dX8_ofMiner_129 : decode cX8_ofMiner 129 = .ok (.iload_n 1, 1) := by decide +kernel
theorem dX8_ofMiner_130 : decode cX8_ofMiner 130 = .ok (.invokevirtual 227, 3) := by decide +kernel
theorem dX8_ofMiner_133 : decode cX8_ofMiner 133 = .ok (.ireturn, 1) := by decide +kernel
theorem dX8_gets_0 : decode cX8_gets 0 = .ok (.aload_n 0, 1) := by decide +kernel
theorem dX8_gets_1 : decode cX8_gets 1 = .ok (.iload_n 1, 1) := by decide +kernel
theorem dX8_gets_2 : decode cX8_gets 2 = .ok (.iconst 0, 1) := by decide +kernel
theorem dX8_gets_3 : decode cX8_gets 3 = .ok (.aload_n 0, 1) := by decide +kernel
theorem dX8_gets_4 : decode cX8_gets 4 = .ok (.getfield 183, 3) := by decide +kernel
theorem dX8_gets_7 : decode cX8_gets 7 = .ok (.iconst 1, 1) := by decide +kernel
theorem dX8_gets_8 : decode cX8_gets 8 = .ok (.isub, 1) := by decide +kernel
theorem dX8_gets_9 : decode cX8_gets 9 = .ok (.invokestatic 123, 3) := by decide +kernel
theorem dX8_gets_12 : decode cX8_gets 12 = .ok (.ifCond .eq 7, 3) := by decide +kernel
theorem dX8_gets_15 : decode cX8_gets 15 = .ok (.iconst 0, 1) := by decide +kernel
theorem dX8_gets_16 : decode cX8_gets 16 = .ok (.goto 4, 3) := by decide +kernel
theorem dX8_gets_19 : decode cX8_gets 19 = .ok (.iconst 1, 1) := by decide +kernel
theorem dX8_gets_20 : decode cX8_gets 20 = .ok (.invokevirtual 145, 3) := by decide +kernel
theorem dX8_gets_23 : decode cX8_gets 23 = .ok (.ifCond .eq 11, 3) := by decide +kernel
theorem dX8_gets_26 : decode cX8_gets 26 = .ok (.aload_n 0, 1) := by decide +kernel
theorem dX8_gets_27 : decode cX8_gets 27 = .ok (.iload_n 1, 1) := by decide +kernel
theorem dX8_gets_28 : decode cX8_gets 28 = .ok (.invokevirtual 186, 3) := by decide +kernel
theorem dX8_gets_31 : decode cX8_gets 31 = .ok (.goto 4, 3) := by decide +kernel
theorem dX8_gets_34 : decode cX8_gets 34 = .ok (.iconst 0, 1) := by decide +kernel
theorem dX8_gets_35 : decode cX8_gets 35 = .ok (.ireturn, 1) := by decide +kernel
theorem dX8_inGround_0 : decode cX8_inGround 0 = .ok (.iconst 0, 1) := by decide +kernel
theorem dX8_inGround_1 : decode cX8_inGround 1 = .ok (.istore_n 1, 1) := by decide +kernel
theorem dX8_inGround_2 : decode cX8_inGround 2 = .ok (.iconst 0, 1) := by decide +kernel
theorem dX8_inGround_3 : decode cX8_inGround 3 = .ok (.istore_n 2, 1) := by decide +kernel
theorem dX8_inGround_4 : decode cX8_inGround 4 = .ok (.iload_n 2, 1) := by decide +kernel
theorem dX8_inGround_5 : decode cX8_inGround 5 = .ok (.bipush 40, 2) := by decide +kernel
theorem dX8_inGround_7 : decode cX8_inGround 7 = .ok (.if_icmp .ge 18, 3) := by decide +kernel
theorem dX8_inGround_10 : decode cX8_inGround 10 = .ok (.iload_n 1, 1) := by decide +kernel
theorem dX8_inGround_11 : decode cX8_inGround 11 = .ok (.aload_n 0, 1) := by decide +kernel
theorem dX8_inGround_12 : decode cX8_inGround 12 = .ok (.getfield 25, 3) := by decide +kernel
theorem dX8_inGround_15 : decode cX8_inGround 15 = .ok (.iload_n 2, 1) := by decide +kernel
theorem dX8_inGround_16 : decode cX8_inGround 16 = .ok (.iaload, 1) := by decide +kernel
theorem dX8_inGround_17 : decode cX8_inGround 17 = .ok (.iadd, 1) := by decide +kernel
theorem dX8_inGround_18 : decode cX8_inGround 18 = .ok (.istore_n 1, 1) := by decide +kernel
theorem dX8_inGround_19 : decode cX8_inGround 19 = .ok (.iinc 2 1, 3) := by decide +kernel
theorem dX8_inGround_22 : decode cX8_inGround 22 = .ok (.goto (-18), 3) := by decide +kernel
theorem dX8_inGround_25 : decode cX8_inGround 25 = .ok (.iload_n 1, 1) := by decide +kernel
theorem dX8_inGround_26 : decode cX8_inGround 26 = .ok (.ireturn, 1) := by decide +kernel
theorem dX8_withMiners_0 : decode cX8_withMiners 0 = .ok (.iconst 0, 1) := by decide +kernel
theorem dX8_withMiners_1 : decode cX8_withMiners 1 = .ok (.istore_n 1, 1) := by decide +kernel
theorem dX8_withMiners_2 : decode cX8_withMiners 2 = .ok (.iconst 0, 1) := by decide +kernel
theorem dX8_withMiners_3 : decode cX8_withMiners 3 = .ok (.istore_n 2, 1) := by decide +kernel
theorem dX8_withMiners_4 : decode cX8_withMiners 4 = .ok (.iload_n 2, 1) := by decide +kernel
theorem dX8_withMiners_5 : decode cX8_withMiners 5 = .ok (.aload_n 0, 1) := by decide +kernel
theorem dX8_withMiners_6 : decode cX8_withMiners 6 = .ok (.getfield 127, 3) := by decide +kernel
theorem dX8_withMiners_9 : decode cX8_withMiners 9 = .ok (.if_icmp .ge 18, 3) := by decide +kernel
theorem dX8_withMiners_12 : decode cX8_withMiners 12 = .ok (.iload_n 1, 1) := by decide +kernel
theorem dX8_withMiners_13 : decode cX8_withMiners 13 = .ok (.aload_n 0, 1) := by decide +kernel
theorem dX8_withMiners_14 : decode cX8_withMiners 14 = .ok (.getfield 35, 3) := by decide +kernel
theorem dX8_withMiners_17 : decode cX8_withMiners 17 = .ok (.iload_n 2, 1) := by decide +kernel
theorem dX8_withMiners_18 : decode cX8_withMiners 18 = .ok (.iaload, 1) := by decide +kernel
theorem dX8_withMiners_19 : decode cX8_withMiners 19 = .ok (.iadd, 1) := by decide +kernel
theorem dX8_withMiners_20 : decode cX8_withMiners 20 = .ok (.istore_n 1, 1) := by decide +kernel
theorem dX8_withMiners_21 : decode cX8_withMiners 21 = .ok (.iinc 2 1, 3) := by decide +kernel
theorem dX8_withMiners_24 : decode cX8_withMiners 24 = .ok (.goto (-20), 3) := by decide +kernel
theorem dX8_withMiners_27 : decode cX8_withMiners 27 = .ok (.iload_n 1, 1) := by decide +kernel
theorem dX8_withMiners_28 : decode cX8_withMiners 28 = .ok (.ireturn, 1) := by decide +kernel
theorem dX8_gold_0 : decode cX8_gold 0 = .ok (.aload_n 0, 1) := by decide +kernel
theorem dX8_gold_1 : decode cX8_gold 1 = .ok (.iload_n 1, 1) := by decide +kernel
theorem dX8_gold_2 : decode cX8_gold 2 = .ok (.iconst 0, 1) := by decide +kernel
theorem dX8_gold_3 : decode cX8_gold 3 = .ok (.iconst 4, 1) := by decide +kernel
theorem dX8_gold_4 : decode cX8_gold 4 = .ok (.invokestatic 123, 3) := by decide +kernel
theorem dX8_gold_7 : decode cX8_gold 7 = .ok (.ifCond .eq 7, 3) := by decide +kernel
theorem dX8_gold_10 : decode cX8_gold 10 = .ok (.iconst 0, 1) := by decide +kernel
theorem dX8_gold_11 : decode cX8_gold 11 = .ok (.goto 4, 3) := by decide +kernel
theorem dX8_gold_14 : decode cX8_gold 14 = .ok (.iconst 1, 1) := by decide +kernel
theorem dX8_gold_15 : decode cX8_gold 15 = .ok (.invokevirtual 145, 3) := by decide +kernel
theorem dX8_gold_18 : decode cX8_gold 18 = .ok (.ifCond .ne 5, 3) := by decide +kernel
theorem dX8_gold_21 : decode cX8_gold 21 = .ok (.iconst 0, 1) := by decide +kernel
theorem dX8_gold_22 : decode cX8_gold 22 = .ok (.ireturn, 1) := by decide +kernel
theorem dX8_gold_23 : decode cX8_gold 23 = .ok (.iload_n 1, 1) := by decide +kernel
theorem dX8_gold_24 : decode cX8_gold 24 = .ok (.ifCond .ne 10, 3) := by decide +kernel
theorem dX8_gold_27 : decode cX8_gold 27 = .ok (.aload_n 0, 1) := by decide +kernel
theorem dX8_gold_28 : decode cX8_gold 28 = .ok (.invokevirtual 236, 3) := by decide +kernel
theorem dX8_gold_31 : decode cX8_gold 31 = .ok (.goto 58, 3) := by decide +kernel
theorem dX8_gold_34 : decode cX8_gold 34 = .ok (.iload_n 1, 1) := by decide +kernel
theorem dX8_gold_35 : decode cX8_gold 35 = .ok (.iconst 1, 1) := by decide +kernel
theorem dX8_gold_36 : decode cX8_gold 36 = .ok (.if_icmp .ne 10, 3) := by decide +kernel
theorem dX8_gold_39 : decode cX8_gold 39 = .ok (.aload_n 0, 1) := by decide +kernel
theorem dX8_gold_40 : decode cX8_gold 40 = .ok (.getfield 208, 3) := by decide +kernel
theorem dX8_gold_43 : decode cX8_gold 43 = .ok (.goto 46, 3) := by decide +kernel
theorem dX8_gold_46 : decode cX8_gold 46 = .ok (.iload_n 1, 1) := by decide +kernel
theorem dX8_gold_47 : decode cX8_gold 47 = .ok (.iconst 2, 1) := by decide +kernel
theorem dX8_gold_48 : decode cX8_gold 48 = .ok (.if_icmp .ne 10, 3) := by decide +kernel
theorem dX8_gold_51 : decode cX8_gold 51 = .ok (.aload_n 0, 1) := by decide +kernel
theorem dX8_gold_52 : decode cX8_gold 52 = .ok (.invokevirtual 239, 3) := by decide +kernel
theorem dX8_gold_55 : decode cX8_gold 55 = .ok (.goto 34, 3) := by decide +kernel
theorem dX8_gold_58 : decode cX8_gold 58 = .ok (.iload_n 1, 1) := by decide +kernel
theorem dX8_gold_59 : decode cX8_gold 59 = .ok (.iconst 3, 1) := by decide +kernel
theorem dX8_gold_60 : decode cX8_gold 60 = .ok (.if_icmp .ne 10, 3) := by decide +kernel
theorem dX8_gold_63 : decode cX8_gold 63 = .ok (.aload_n 0, 1) := by decide +kernel
theorem dX8_gold_64 : decode cX8_gold 64 = .ok (.getfield 219, 3) := by decide +kernel
theorem dX8_gold_67 : decode cX8_gold 67 = .ok (.goto 22, 3) := by decide +kernel
theorem dX8_gold_70 : decode cX8_gold 70 = .ok (.aload_n 0, 1) := by decide +kernel
theorem dX8_gold_71 : decode cX8_gold 71 = .ok (.invokevirtual 236, 3) := by decide +kernel
theorem dX8_gold_74 : decode cX8_gold 74 = .ok (.aload_n 0, 1) := by decide +kernel
theorem dX8_gold_75 : decode cX8_gold 75 = .ok (.getfield 208, 3) := by decide +kernel
theorem dX8_gold_78 : decode cX8_gold 78 = .ok (.iadd, 1) := by decide +kernel
theorem dX8_gold_79 : decode cX8_gold 79 = .ok (.aload_n 0, 1) := by decide +kernel
theorem dX8_gold_80 : decode cX8_gold 80 = .ok (.invokevirtual 239, 3) := by decide +kernel
theorem dX8_gold_83 : decode cX8_gold 83 = .ok (.iadd, 1) := by decide +kernel
theorem dX8_gold_84 : decode cX8_gold 84 = .ok (.aload_n 0, 1) := by decide +kernel
theorem dX8_gold_85 : decode cX8_gold 85 = .ok (.getfield 219, 3) := by decide +kernel
theorem dX8_gold_88 : decode cX8_gold 88 = .ok (.iadd, 1) := by decide +kernel
theorem dX8_gold_89 : decode cX8_gold 89 = .ok (.ireturn, 1) := by decide +kernel
theorem dX8_camp_0 : decode cX8_camp 0 = .ok (.aload_n 0, 1) := by decide +kernel
theorem dX8_camp_1 : decode cX8_camp 1 = .ok (.iload_n 1, 1) := by decide +kernel
theorem dX8_camp_2 : decode cX8_camp 2 = .ok (.iconst 0, 1) := by decide +kernel
theorem dX8_camp_3 : decode cX8_camp 3 = .ok (.iconst 5, 1) := by decide +kernel
theorem dX8_camp_4 : decode cX8_camp 4 = .ok (.invokestatic 123, 3) := by decide +kernel
theorem dX8_camp_7 : decode cX8_camp 7 = .ok (.ifCond .eq 7, 3) := by decide +kernel
theorem dX8_camp_10 : decode cX8_camp 10 = .ok (.iconst 0, 1) := by decide +kernel
theorem dX8_camp_11 : decode cX8_camp 11 = .ok (.goto 4, 3) := by decide +kernel
theorem dX8_camp_14 : decode cX8_camp 14 = .ok (.iconst 1, 1) := by decide +kernel
theorem dX8_camp_15 : decode cX8_camp 15 = .ok (.invokevirtual 145, 3) := by decide +kernel
theorem dX8_camp_18 : decode cX8_camp 18 = .ok (.ifCond .ne 5, 3) := by decide +kernel
theorem dX8_camp_21 : decode cX8_camp 21 = .ok (.iconst 0, 1) := by decide +kernel
theorem dX8_camp_22 : decode cX8_camp 22 = .ok (.ireturn, 1) := by decide +kernel
theorem dX8_camp_23 : decode cX8_camp 23 = .ok (.iload_n 1, 1) := by decide +kernel
theorem dX8_camp_24 : decode cX8_camp 24 = .ok (.ifCond .ne 10, 3) := by decide +kernel
theorem dX8_camp_27 : decode cX8_camp 27 = .ok (.aload_n 0, 1) := by decide +kernel
theorem dX8_camp_28 : decode cX8_camp 28 = .ok (.getfield 13, 3) := by decide +kernel
theorem dX8_camp_31 : decode cX8_camp 31 = .ok (.goto 55, 3) := by decide +kernel
theorem dX8_camp_34 : decode cX8_camp 34 = .ok (.iload_n 1, 1) := by decide +kernel
theorem dX8_camp_35 : decode cX8_camp 35 = .ok (.iconst 1, 1) := by decide +kernel
theorem dX8_camp_36 : decode cX8_camp 36 = .ok (.if_icmp .ne 10, 3) := by decide +kernel
theorem dX8_camp_39 : decode cX8_camp 39 = .ok (.aload_n 0, 1) := by decide +kernel
theorem dX8_camp_40 : decode cX8_camp 40 = .ok (.getfield 16, 3) := by decide +kernel
theorem dX8_camp_43 : decode cX8_camp 43 = .ok (.goto 43, 3) := by decide +kernel
theorem dX8_camp_46 : decode cX8_camp 46 = .ok (.iload_n 1, 1) := by decide +kernel
theorem dX8_camp_47 : decode cX8_camp 47 = .ok (.iconst 2, 1) := by decide +kernel
theorem dX8_camp_48 : decode cX8_camp 48 = .ok (.if_icmp .ne 10, 3) := by decide +kernel
theorem dX8_camp_51 : decode cX8_camp 51 = .ok (.aload_n 0, 1) := by decide +kernel
theorem dX8_camp_52 : decode cX8_camp 52 = .ok (.getfield 22, 3) := by decide +kernel
theorem dX8_camp_55 : decode cX8_camp 55 = .ok (.goto 31, 3) := by decide +kernel
theorem dX8_camp_58 : decode cX8_camp 58 = .ok (.iload_n 1, 1) := by decide +kernel
theorem dX8_camp_59 : decode cX8_camp 59 = .ok (.iconst 3, 1) := by decide +kernel
theorem dX8_camp_60 : decode cX8_camp 60 = .ok (.if_icmp .ne 10, 3) := by decide +kernel
theorem dX8_camp_63 : decode cX8_camp 63 = .ok (.aload_n 0, 1) := by decide +kernel
theorem dX8_camp_64 : decode cX8_camp 64 = .ok (.invokevirtual 224, 3) := by decide +kernel
theorem dX8_camp_67 : decode cX8_camp 67 = .ok (.goto 19, 3) := by decide +kernel
theorem dX8_camp_70 : decode cX8_camp 70 = .ok (.iload_n 1, 1) := by decide +kernel
theorem dX8_camp_71 : decode cX8_camp 71 = .ok (.iconst 4, 1) := by decide +kernel
theorem dX8_camp_72 : decode cX8_camp 72 = .ok (.if_icmp .ne 10, 3) := by decide +kernel
theorem dX8_camp_75 : decode cX8_camp 75 = .ok (.aload_n 0, 1) := by decide +kernel
theorem dX8_camp_76 : decode cX8_camp 76 = .ok (.getfield 152, 3) := by decide +kernel
theorem dX8_camp_79 : decode cX8_camp 79 = .ok (.goto 7, 3) := by decide +kernel
theorem dX8_camp_82 : decode cX8_camp 82 = .ok (.aload_n 0, 1) := by decide +kernel
theorem dX8_camp_83 : decode cX8_camp 83 = .ok (.invokevirtual 168, 3) := by decide +kernel
theorem dX8_camp_86 : decode cX8_camp 86 = .ok (.ireturn, 1) := by decide +kernel
theorem dX8_belief_0 : decode cX8_belief 0 = .ok (.aload_n 0, 1) := by decide +kernel
theorem dX8_belief_1 : decode cX8_belief 1 = .ok (.iload_n 1, 1) := by decide +kernel
theorem dX8_belief_2 : decode cX8_belief 2 = .ok (.invokestatic 134, 3) := by decide +kernel
theorem dX8_belief_5 : decode cX8_belief 5 = .ok (.ifCond .eq 7, 3) := by decide +kernel
theorem dX8_belief_8 : decode cX8_belief 8 = .ok (.iconst 0, 1) := by decide +kernel
theorem dX8_belief_9 : decode cX8_belief 9 = .ok (.goto 4, 3) := by decide +kernel
theorem dX8_belief_12 : decode cX8_belief 12 = .ok (.iconst 1, 1) := by decide +kernel
theorem dX8_belief_13 : decode cX8_belief 13 = .ok (.invokevirtual 145, 3) := by decide +kernel
theorem dX8_belief_16 : decode cX8_belief 16 = .ok (.ifCond .eq 12, 3) := by decide +kernel
theorem dX8_belief_19 : decode cX8_belief 19 = .ok (.aload_n 0, 1) := by decide +kernel
theorem dX8_belief_20 : decode cX8_belief 20 = .ok (.getfield 32, 3) := by decide +kernel
theorem dX8_belief_23 : decode cX8_belief 23 = .ok (.iload_n 1, 1) := by decide +kernel
theorem dX8_belief_24 : decode cX8_belief 24 = .ok (.iaload, 1) := by decide +kernel
theorem dX8_belief_25 : decode cX8_belief 25 = .ok (.goto 4, 3) := by decide +kernel
theorem dX8_belief_28 : decode cX8_belief 28 = .ok (.iconst 0, 1) := by decide +kernel
theorem dX8_belief_29 : decode cX8_belief 29 = .ok (.ireturn, 1) := by decide +kernel
theorem dX8_orders_0 : decode cX8_orders 0 = .ok (.iconst 1, 1) := by decide +kernel
theorem dX8_orders_1 : decode cX8_orders 1 = .ok (.istore_n 1, 1) := by decide +kernel
theorem dX8_orders_2 : decode cX8_orders 2 = .ok (.iconst 2, 1) := by decide +kernel
theorem dX8_orders_3 : decode cX8_orders 3 = .ok (.istore_n 2, 1) := by decide +kernel
theorem dX8_orders_4 : decode cX8_orders 4 = .ok (.iload_n 2, 1) := by decide +kernel
theorem dX8_orders_5 : decode cX8_orders 5 = .ok (.iload_n 0, 1) := by decide +kernel
theorem dX8_orders_6 : decode cX8_orders 6 = .ok (.if_icmp .gt 13, 3) := by decide +kernel
theorem dX8_orders_9 : decode cX8_orders 9 = .ok (.iload_n 1, 1) := by decide +kernel
theorem dX8_orders_10 : decode cX8_orders 10 = .ok (.iload_n 2, 1) := by decide +kernel
theorem dX8_orders_11 : decode cX8_orders 11 = .ok (.imul, 1) := by decide +kernel
theorem dX8_orders_12 : decode cX8_orders 12 = .ok (.istore_n 1, 1) := by decide +kernel
theorem dX8_orders_13 : decode cX8_orders 13 = .ok (.iinc 2 1, 3) := by decide +kernel
theorem dX8_orders_16 : decode cX8_orders 16 = .ok (.goto (-12), 3) := by decide +kernel
theorem dX8_orders_19 : decode cX8_orders 19 = .ok (.iload_n 1, 1) := by decide +kernel
theorem dX8_orders_20 : decode cX8_orders 20 = .ok (.ireturn, 1) := by decide +kernel
theorem dX8_laysOrder_0 : decode cX8_laysOrder 0 = .ok (.iload_n 2, 1) := by decide +kernel
theorem dX8_laysOrder_1 : decode cX8_laysOrder 1 = .ok (.istore_n 3, 1) := by decide +kernel
theorem dX8_laysOrder_2 : decode cX8_laysOrder 2 = .ok (.iconst 0, 1) := by decide +kernel
theorem dX8_laysOrder_3 : decode cX8_laysOrder 3 = .ok (.istore 4, 2) := by decide +kernel
theorem dX8_laysOrder_5 : decode cX8_laysOrder 5 = .ok (.iconst 0, 1) := by decide +kernel
theorem dX8_laysOrder_6 : decode cX8_laysOrder 6 = .ok (.istore 5, 2) := by decide +kernel
theorem dX8_laysOrder_8 : decode cX8_laysOrder 8 = .ok (.iload 5, 2) := by decide +kernel
theorem dX8_laysOrder_10 : decode cX8_laysOrder 10 = .ok (.iload_n 1, 1) := by decide +kernel
theorem dX8_laysOrder_11 : decode cX8_laysOrder 11 = .ok (.if_icmp .ge 95, 3) := by decide +kernel
theorem dX8_laysOrder_14 : decode cX8_laysOrder 14 = .ok (.iload_n 1, 1) := by decide +kernel
theorem dX8_laysOrder_15 : decode cX8_laysOrder 15 = .ok (.iconst 1, 1) := by decide +kernel
theorem dX8_laysOrder_16 : decode cX8_laysOrder 16 = .ok (.isub, 1) := by decide +kernel
theorem dX8_laysOrder_17 : decode cX8_laysOrder 17 = .ok (.iload 5, 2) := by decide +kernel
theorem dX8_laysOrder_19 : decode cX8_laysOrder 19 = .ok (.isub, 1) := by decide +kernel
theorem dX8_laysOrder_20 : decode cX8_laysOrder 20 = .ok (.invokestatic 242, 3) := by decide +kernel
theorem dX8_laysOrder_23 : decode cX8_laysOrder 23 = .ok (.istore 6, 2) := by decide +kernel
theorem dX8_laysOrder_25 : decode cX8_laysOrder 25 = .ok (.iload_n 3, 1) := by decide +kernel
theorem dX8_laysOrder_26 : decode cX8_laysOrder 26 = .ok (.iload 6, 2) := by decide +kernel
theorem dX8_laysOrder_28 : decode cX8_laysOrder 28 = .ok (.idiv, 1) := by decide +kernel
theorem dX8_laysOrder_29 : decode cX8_laysOrder 29 = .ok (.istore 7, 2) := by decide +kernel
theorem dX8_laysOrder_31 : decode cX8_laysOrder 31 = .ok (.iload_n 3, 1) := by decide +kernel
theorem dX8_laysOrder_32 : decode cX8_laysOrder 32 = .ok (.iload 6, 2) := by decide +kernel
theorem dX8_laysOrder_34 : decode cX8_laysOrder 34 = .ok (.irem, 1) := by decide +kernel
theorem dX8_laysOrder_35 : decode cX8_laysOrder 35 = .ok (.istore_n 3, 1) := by decide +kernel
theorem dX8_laysOrder_36 : decode cX8_laysOrder 36 = .ok (.iconst 0, 1) := by decide +kernel
theorem dX8_laysOrder_37 : decode cX8_laysOrder 37 = .ok (.istore 8, 2) := by decide +kernel
theorem dX8_laysOrder_39 : decode cX8_laysOrder 39 = .ok (.iload 4, 2) := by decide +kernel
theorem dX8_laysOrder_41 : decode cX8_laysOrder 41 = .ok (.iload 8, 2) := by decide +kernel
theorem dX8_laysOrder_43 : decode cX8_laysOrder 43 = .ok (.ishr, 1) := by decide +kernel
theorem dX8_laysOrder_44 : decode cX8_laysOrder 44 = .ok (.iconst 1, 1) := by decide +kernel
theorem dX8_laysOrder_45 : decode cX8_laysOrder 45 = .ok (.iand, 1) := by decide +kernel
theorem dX8_laysOrder_46 : decode cX8_laysOrder 46 = .ok (.iconst 1, 1) := by decide +kernel
theorem dX8_laysOrder_47 : decode cX8_laysOrder 47 = .ok (.if_icmp .eq 8, 3) := by decide +kernel
theorem dX8_laysOrder_50 : decode cX8_laysOrder 50 = .ok (.iload 7, 2) := by decide +kernel
theorem dX8_laysOrder_52 : decode cX8_laysOrder 52 = .ok (.ifCond .le 30, 3) := by decide +kernel
theorem dX8_laysOrder_55 : decode cX8_laysOrder 55 = .ok (.iload 7, 2) := by decide +kernel
theorem dX8_laysOrder_57 : decode cX8_laysOrder 57 = .ok (.iload 4, 2) := by decide +kernel
theorem dX8_laysOrder_59 : decode cX8_laysOrder 59 = .ok (.iload 8, 2) := by decide +kernel
theorem dX8_laysOrder_61 : decode cX8_laysOrder 61 = .ok (.ishr, 1) := by decide +kernel
theorem dX8_laysOrder_62 : decode cX8_laysOrder 62 = .ok (.iconst 1, 1) := by decide +kernel
theorem dX8_laysOrder_63 : decode cX8_laysOrder 63 = .ok (.iand, 1) := by decide +kernel
theorem dX8_laysOrder_64 : decode cX8_laysOrder 64 = .ok (.iconst 1, 1) := by decide +kernel
theorem dX8_laysOrder_65 : decode cX8_laysOrder 65 = .ok (.if_icmp .ne 7, 3) := by decide +kernel
theorem dX8_laysOrder_68 : decode cX8_laysOrder 68 = .ok (.iconst 0, 1) := by decide +kernel
theorem dX8_laysOrder_69 : decode cX8_laysOrder 69 = .ok (.goto 4, 3) := by decide +kernel
theorem dX8_laysOrder_72 : decode cX8_laysOrder 72 = .ok (.iconst 1, 1) := by decide +kernel
theorem dX8_laysOrder_73 : decode cX8_laysOrder 73 = .ok (.isub, 1) := by decide +kernel
theorem dX8_laysOrder_74 : decode cX8_laysOrder 74 = .ok (.istore 7, 2) := by decide +kernel
theorem dX8_laysOrder_76 : decode cX8_laysOrder 76 = .ok (.iinc 8 1, 3) := by decide +kernel
theorem dX8_laysOrder_79 : decode cX8_laysOrder 79 = .ok (.goto (-40), 3) := by decide +kernel
theorem dX8_laysOrder_82 : decode cX8_laysOrder 82 = .ok (.aload_n 0, 1) := by decide +kernel
theorem dX8_laysOrder_83 : decode cX8_laysOrder 83 = .ok (.getfield 114, 3) := by decide +kernel
theorem dX8_laysOrder_86 : decode cX8_laysOrder 86 = .ok (.iload 5, 2) := by decide +kernel
theorem dX8_laysOrder_88 : decode cX8_laysOrder 88 = .ok (.iload 8, 2) := by decide +kernel
theorem dX8_laysOrder_90 : decode cX8_laysOrder 90 = .ok (.iastore, 1) := by decide +kernel
theorem dX8_laysOrder_91 : decode cX8_laysOrder 91 = .ok (.iload 4, 2) := by decide +kernel
theorem dX8_laysOrder_93 : decode cX8_laysOrder 93 = .ok (.iconst 1, 1) := by decide +kernel
theorem dX8_laysOrder_94 : decode cX8_laysOrder 94 = .ok (.iload 8, 2) := by decide +kernel
theorem dX8_laysOrder_96 : decode cX8_laysOrder 96 = .ok (.ishl, 1) := by decide +kernel
theorem dX8_laysOrder_97 : decode cX8_laysOrder 97 = .ok (.ior, 1) := by decide +kernel
theorem dX8_laysOrder_98 : decode cX8_laysOrder 98 = .ok (.istore 4, 2) := by decide +kernel
theorem dX8_laysOrder_100 : decode cX8_laysOrder 100 = .ok (.iinc 5 1, 3) := by decide +kernel
theorem dX8_laysOrder_103 : decode cX8_laysOrder 103 = .ok (.goto (-95), 3) := by decide +kernel
theorem dX8_laysOrder_106 : decode cX8_laysOrder 106 = .ok (.return_, 1) := by decide +kernel
theorem dX8_digs_0 : decode cX8_digs 0 = .ok (.aload_n 0, 1) := by decide +kernel
theorem dX8_digs_1 : decode cX8_digs 1 = .ok (.getfield 65, 3) := by decide +kernel
theorem dX8_digs_4 : decode cX8_digs 4 = .ok (.iload_n 1, 1) := by decide +kernel
theorem dX8_digs_5 : decode cX8_digs 5 = .ok (.iaload, 1) := by decide +kernel
theorem dX8_digs_6 : decode cX8_digs 6 = .ok (.istore_n 3, 1) := by decide +kernel
theorem dX8_digs_7 : decode cX8_digs 7 = .ok (.iconst 0, 1) := by decide +kernel
theorem dX8_digs_8 : decode cX8_digs 8 = .ok (.istore 4, 2) := by decide +kernel
theorem dX8_digs_10 : decode cX8_digs 10 = .ok (.iload 4, 2) := by decide +kernel
theorem dX8_digs_12 : decode cX8_digs 12 = .ok (.iload_n 3, 1) := by decide +kernel
theorem dX8_digs_13 : decode cX8_digs 13 = .ok (.if_icmp .ge 30, 3) := by decide +kernel
theorem dX8_digs_16 : decode cX8_digs 16 = .ok (.aload_n 0, 1) := by decide +kernel
theorem dX8_digs_17 : decode cX8_digs 17 = .ok (.getfield 117, 3) := by decide +kernel
theorem dX8_digs_20 : decode cX8_digs 20 = .ok (.iload 4, 2) := by decide +kernel
theorem dX8_digs_22 : decode cX8_digs 22 = .ok (.aload_n 0, 1) := by decide +kernel
theorem dX8_digs_23 : decode cX8_digs 23 = .ok (.getfield 25, 3) := by decide +kernel
theorem dX8_digs_26 : decode cX8_digs 26 = .ok (.aload_n 0, 1) := by decide +kernel
theorem dX8_digs_27 : decode cX8_digs 27 = .ok (.getfield 62, 3) := by decide +kernel
theorem dX8_digs_30 : decode cX8_digs 30 = .ok (.iload_n 1, 1) := by decide +kernel
theorem dX8_digs_31 : decode cX8_digs 31 = .ok (.iaload, 1) := by decide +kernel
theorem dX8_digs_32 : decode cX8_digs 32 = .ok (.iload 4, 2) := by decide +kernel
theorem dX8_digs_34 : decode cX8_digs 34 = .ok (.iadd, 1) := by decide +kernel
theorem dX8_digs_35 : decode cX8_digs 35 = .ok (.iaload, 1) := by decide +kernel
theorem dX8_digs_36 : decode cX8_digs 36 = .ok (.iastore, 1) := by decide +kernel
theorem dX8_digs_37 : decode cX8_digs 37 = .ok (.iinc 4 1, 3) := by decide +kernel
theorem dX8_digs_40 : decode cX8_digs 40 = .ok (.goto (-30), 3) := by decide +kernel
theorem dX8_digs_43 : decode cX8_digs 43 = .ok (.iconst 0, 1) := by decide +kernel
theorem dX8_digs_44 : decode cX8_digs 44 = .ok (.istore 4, 2) := by decide +kernel
theorem dX8_digs_46 : decode cX8_digs 46 = .ok (.iconst 0, 1) := by decide +kernel
theorem dX8_digs_47 : decode cX8_digs 47 = .ok (.istore 5, 2) := by decide +kernel
theorem dX8_digs_49 : decode cX8_digs 49 = .ok (.iload 5, 2) := by decide +kernel
theorem dX8_digs_51 : decode cX8_digs 51 = .ok (.iload_n 3, 1) := by decide +kernel
theorem dX8_digs_52 : decode cX8_digs 52 = .ok (.if_icmp .ge 102, 3) := by decide +kernel
theorem dX8_digs_55 : decode cX8_digs 55 = .ok (.aload_n 0, 1) := by decide +kernel
theorem dX8_digs_56 : decode cX8_digs 56 = .ok (.getfield 114, 3) := by decide +kernel
theorem dX8_digs_59 : decode cX8_digs 59 = .ok (.iload 5, 2) := by decide +kernel
theorem dX8_digs_61 : decode cX8_digs 61 = .ok (.iaload, 1) := by decide +kernel
theorem dX8_digs_62 : decode cX8_digs 62 = .ok (.istore 6, 2) := by decide +kernel
theorem dX8_digs_64 : decode cX8_digs 64 = .ok (.iload_n 2, 1) := by decide +kernel
theorem dX8_digs_65 : decode cX8_digs 65 = .ok (.aload_n 0, 1) := by decide +kernel
theorem dX8_digs_66 : decode cX8_digs 66 = .ok (.getfield 117, 3) := by decide +kernel
theorem dX8_digs_69 : decode cX8_digs 69 = .ok (.iload 6, 2) := by decide +kernel
theorem dX8_digs_71 : decode cX8_digs 71 = .ok (.iaload, 1) := by decide +kernel
theorem dX8_digs_72 : decode cX8_digs 72 = .ok (.invokestatic 201, 3) := by decide +kernel
theorem dX8_digs_75 : decode cX8_digs 75 = .ok (.istore 7, 2) := by decide +kernel
theorem dX8_digs_77 : decode cX8_digs 77 = .ok (.iload_n 2, 1) := by decide +kernel
theorem dX8_digs_78 : decode cX8_digs 78 = .ok (.aload_n 0, 1) := by decide +kernel
theorem dX8_digs_79 : decode cX8_digs 79 = .ok (.getfield 117, 3) := by decide +kernel
theorem dX8_digs_82 : decode cX8_digs 82 = .ok (.iload 6, 2) := by decide +kernel
theorem dX8_digs_84 : decode cX8_digs 84 = .ok (.iaload, 1) := by decide +kernel
theorem dX8_digs_85 : decode cX8_digs 85 = .ok (.aload_n 0, 1) := by decide +kernel
theorem dX8_digs_86 : decode cX8_digs 86 = .ok (.getfield 29, 3) := by decide +kernel
theorem dX8_digs_89 : decode cX8_digs 89 = .ok (.aload_n 0, 1) := by decide +kernel
theorem dX8_digs_90 : decode cX8_digs 90 = .ok (.getfield 62, 3) := by decide +kernel
theorem dX8_digs_93 : decode cX8_digs 93 = .ok (.iload_n 1, 1) := by decide +kernel
theorem dX8_digs_94 : decode cX8_digs 94 = .ok (.iaload, 1) := by decide +kernel
theorem dX8_digs_95 : decode cX8_digs 95 = .ok (.iload 6, 2) := by decide +kernel
theorem dX8_digs_97 : decode cX8_digs 97 = .ok (.iadd, 1) := by decide +kernel
theorem dX8_digs_98 : decode cX8_digs 98 = .ok (.iaload, 1) := by decide +kernel
theorem dX8_digs_99 : decode cX8_digs 99 = .ok (.invokestatic 204, 3) := by decide +kernel
theorem dX8_digs_102 : decode cX8_digs 102 = .ok (.istore 8, 2) := by decide +kernel
theorem dX8_digs_104 : decode cX8_digs 104 = .ok (.aload_n 0, 1) := by decide +kernel
theorem dX8_digs_105 : decode cX8_digs 105 = .ok (.getfield 117, 3) := by decide +kernel
theorem dX8_digs_108 : decode cX8_digs 108 = .ok (.iload 6, 2) := by decide +kernel
theorem dX8_digs_110 : decode cX8_digs 110 = .ok (.dup2, 1) := by decide +kernel
theorem dX8_digs_111 : decode cX8_digs 111 = .ok (.iaload, 1) := by decide +kernel
theorem dX8_digs_112 : decode cX8_digs 112 = .ok (.iload 7, 2) := by decide +kernel
theorem dX8_digs_114 : decode cX8_digs 114 = .ok (.isub, 1) := by decide +kernel
theorem dX8_digs_115 : decode cX8_digs 115 = .ok (.iastore, 1) := by decide +kernel
theorem dX8_digs_116 : decode cX8_digs 116 = .ok (.iload 6, 2) := by decide +kernel
theorem dX8_digs_118 : decode cX8_digs 118 = .ok (.iload_n 3, 1) := by decide +kernel
theorem dX8_digs_119 : decode cX8_digs 119 = .ok (.iconst 1, 1) := by decide +kernel
theorem dX8_digs_120 : decode cX8_digs 120 = .ok (.isub, 1) := by decide +kernel
theorem dX8_digs_121 : decode cX8_digs 121 = .ok (.if_icmp .ge 20, 3) := by decide +kernel
theorem dX8_digs_124 : decode cX8_digs 124 = .ok (.aload_n 0, 1) := by decide +kernel
theorem dX8_digs_125 : decode cX8_digs 125 = .ok (.getfield 117, 3) := by decide +kernel
theorem dX8_digs_128 : decode cX8_digs 128 = .ok (.iload 6, 2) := by decide +kernel
theorem dX8_digs_130 : decode cX8_digs 130 = .ok (.iconst 1, 1) := by decide +kernel
theorem dX8_digs_131 : decode cX8_digs 131 = .ok (.iadd, 1) := by decide +kernel
theorem dX8_digs_132 : decode cX8_digs 132 = .ok (.dup2, 1) := by decide +kernel
theorem dX8_digs_133 : decode cX8_digs 133 = .ok (.iaload, 1) := by decide +kernel
theorem dX8_digs_134 : decode cX8_digs 134 = .ok (.iload 7, 2) := by decide +kernel
theorem dX8_digs_136 : decode cX8_digs 136 = .ok (.iload 8, 2) := by decide +kernel
theorem dX8_digs_138 : decode cX8_digs 138 = .ok (.isub, 1) := by decide +kernel
theorem dX8_digs_139 : decode cX8_digs 139 = .ok (.iadd, 1) := by decide +kernel
theorem dX8_digs_140 : decode cX8_digs 140 = .ok (.iastore, 1) := by decide +kernel
theorem dX8_digs_141 : decode cX8_digs 141 = .ok (.iload 4, 2) := by decide +kernel
theorem dX8_digs_143 : decode cX8_digs 143 = .ok (.iload 8, 2) := by decide +kernel
theorem dX8_digs_145 : decode cX8_digs 145 = .ok (.iadd, 1) := by decide +kernel
theorem dX8_digs_146 : decode cX8_digs 146 = .ok (.istore 4, 2) := by decide +kernel
theorem dX8_digs_148 : decode cX8_digs 148 = .ok (.iinc 5 1, 3) := by decide +kernel
theorem dX8_digs_151 : decode cX8_digs 151 = .ok (.goto (-102), 3) := by decide +kernel
theorem dX8_digs_154 : decode cX8_digs 154 = .ok (.iload 4, 2) := by decide +kernel
theorem dX8_digs_156 : decode cX8_digs 156 = .ok (.ireturn, 1) := by decide +kernel
theorem dX8_bestOrder_0 : decode cX8_bestOrder 0 = .ok (.iconst 0, 1) := by decide +kernel
theorem dX8_bestOrder_1 : decode cX8_bestOrder 1 = .ok (.istore_n 3, 1) := by decide +kernel
theorem dX8_bestOrder_2 : decode cX8_bestOrder 2 = .ok (.iconst (-1), 1) := by decide +kernel
theorem dX8_bestOrder_3 : decode cX8_bestOrder 3 = .ok (.istore 4, 2) := by decide +kernel
theorem dX8_bestOrder_5 : decode cX8_bestOrder 5 = .ok (.iconst 0, 1) := by decide +kernel
theorem dX8_bestOrder_6 : decode cX8_bestOrder 6 = .ok (.istore 5, 2) := by decide +kernel
theorem dX8_bestOrder_8 : decode cX8_bestOrder 8 = .ok (.iload 5, 2) := by decide +kernel
theorem dX8_bestOrder_10 : decode cX8_bestOrder 10 = .ok (.aload_n 0, 1) := by decide +kernel
theorem dX8_bestOrder_11 : decode cX8_bestOrder 11 = .ok (.getfield 65, 3) := by decide +kernel
theorem dX8_bestOrder_14 : decode cX8_bestOrder 14 = .ok (.iload_n 1, 1) := by decide +kernel
theorem dX8_bestOrder_15 : decode cX8_bestOrder 15 = .ok (.iaload, 1) := by decide +kernel
theorem dX8_bestOrder_16 : decode cX8_bestOrder 16 = .ok (.invokestatic 242, 3) := by decide +kernel
theorem dX8_bestOrder_19 : decode cX8_bestOrder 19 = .ok (.if_icmp .ge 59, 3) := by decide +kernel
theorem dX8_bestOrder_22 : decode cX8_bestOrder 22 = .ok (.aload_n 0, 1) := by decide +kernel
theorem dX8_bestOrder_23 : decode cX8_bestOrder 23 = .ok (.aload_n 0, 1) := by decide +kernel
theorem dX8_bestOrder_24 : decode cX8_bestOrder 24 = .ok (.getfield 65, 3) := by decide +kernel
theorem dX8_bestOrder_27 : decode cX8_bestOrder 27 = .ok (.iload_n 1, 1) := by decide +kernel
theorem dX8_bestOrder_28 : decode cX8_bestOrder 28 = .ok (.iaload, 1) := by decide +kernel
theorem dX8_bestOrder_29 : decode cX8_bestOrder 29 = .ok (.iload 5, 2) := by decide +kernel
theorem dX8_bestOrder_31 : decode cX8_bestOrder 31 = .ok (.invokevirtual 245, 3) := by decide +kernel
theorem dX8_bestOrder_34 : decode cX8_bestOrder 34 = .ok (.aload_n 0, 1) := by decide +kernel
theorem dX8_bestOrder_35 : decode cX8_bestOrder 35 = .ok (.iload_n 1, 1) := by decide +kernel
theorem dX8_bestOrder_36 : decode cX8_bestOrder 36 = .ok (.iload_n 2, 1) := by decide +kernel
theorem dX8_bestOrder_37 : decode cX8_bestOrder 37 = .ok (.invokevirtual 248, 3) := by decide +kernel
theorem dX8_bestOrder_40 : decode cX8_bestOrder 40 = .ok (.istore 6, 2) := by decide +kernel
theorem dX8_bestOrder_42 : decode cX8_bestOrder 42 = .ok (.iload 6, 2) := by decide +kernel
theorem dX8_bestOrder_44 : decode cX8_bestOrder 44 = .ok (.iload 4, 2) := by decide +kernel
theorem dX8_bestOrder_46 : decode cX8_bestOrder 46 = .ok (.if_icmp .le 8, 3) := by decide +kernel
theorem dX8_bestOrder_49 : decode cX8_bestOrder 49 = .ok (.iload 5, 2) := by decide +kernel
theorem dX8_bestOrder_51 : decode cX8_bestOrder 51 = .ok (.goto 4, 3) := by decide +kernel
theorem dX8_bestOrder_54 : decode cX8_bestOrder 54 = .ok (.iload_n 3, 1) := by decide +kernel
theorem dX8_bestOrder_55 : decode cX8_bestOrder 55 = .ok (.istore_n 3, 1) := by decide +kernel
theorem dX8_bestOrder_56 : decode cX8_bestOrder 56 = .ok (.iload 6, 2) := by decide +kernel
theorem dX8_bestOrder_58 : decode cX8_bestOrder 58 = .ok (.iload 4, 2) := by decide +kernel
theorem dX8_bestOrder_60 : decode cX8_bestOrder 60 = .ok (.if_icmp .le 8, 3) := by decide +kernel
theorem dX8_bestOrder_63 : decode cX8_bestOrder 63 = .ok (.iload 6, 2) := by decide +kernel
theorem dX8_bestOrder_65 : decode cX8_bestOrder 65 = .ok (.goto 5, 3) := by decide +kernel
theorem dX8_bestOrder_68 : decode cX8_bestOrder 68 = .ok (.iload 4, 2) := by decide +kernel
theorem dX8_bestOrder_70 : decode cX8_bestOrder 70 = .ok (.istore 4, 2) := by decide +kernel
theorem dX8_bestOrder_72 : decode cX8_bestOrder 72 = .ok (.iinc 5 1, 3) := by decide +kernel
theorem dX8_bestOrder_75 : decode cX8_bestOrder 75 = .ok (.goto (-67), 3) := by decide +kernel
theorem dX8_bestOrder_78 : decode cX8_bestOrder 78 = .ok (.iload_n 3, 1) := by decide +kernel
theorem dX8_bestOrder_79 : decode cX8_bestOrder 79 = .ok (.ireturn, 1) := by decide +kernel
theorem dX8_asksPlan_0 : decode cX8_asksPlan 0 = .ok (.aload_n 0, 1) := by decide +kernel
theorem dX8_asksPlan_1 : decode cX8_asksPlan 1 = .ok (.iload_n 1, 1) := by decide +kernel
theorem dX8_asksPlan_2 : decode cX8_asksPlan 2 = .ok (.invokevirtual 230, 3) := by decide +kernel
theorem dX8_asksPlan_5 : decode cX8_asksPlan 5 = .ok (.ifCond .eq 11, 3) := by decide +kernel
theorem dX8_asksPlan_8 : decode cX8_asksPlan 8 = .ok (.iload_n 3, 1) := by decide +kernel
theorem dX8_asksPlan_9 : decode cX8_asksPlan 9 = .ok (.ifCond .eq 7, 3) := by decide +kernel
theorem dX8_asksPlan_12 : decode cX8_asksPlan 12 = .ok (.iconst 1, 1) := by decide +kernel
theorem dX8_asksPlan_13 : decode cX8_asksPlan 13 = .ok (.goto 4, 3) := by decide +kernel
theorem dX8_asksPlan_16 : decode cX8_asksPlan 16 = .ok (.iconst 0, 1) := by decide +kernel
theorem dX8_asksPlan_17 : decode cX8_asksPlan 17 = .ok (.istore 4, 2) := by decide +kernel
theorem dX8_asksPlan_19 : decode cX8_asksPlan 19 = .ok (.aload_n 0, 1) := by decide +kernel
theorem dX8_asksPlan_20 : decode cX8_asksPlan 20 = .ok (.iload 4, 2) := by decide +kernel
theorem dX8_asksPlan_22 : decode cX8_asksPlan 22 = .ok (.ifCond .ne 7, 3) := by decide +kernel
theorem dX8_asksPlan_25 : decode cX8_asksPlan 25 = .ok (.iconst 1, 1) := by decide +kernel
theorem dX8_asksPlan_26 : decode cX8_asksPlan 26 = .ok (.goto 29, 3) := by decide +kernel
theorem dX8_asksPlan_29 : decode cX8_asksPlan 29 = .ok (.iload_n 2, 1) := by decide +kernel
theorem dX8_asksPlan_30 : decode cX8_asksPlan 30 = .ok (.invokestatic 189, 3) := by decide +kernel
theorem dX8_asksPlan_33 : decode cX8_asksPlan 33 = .ok (.ifCond .ne 7, 3) := by decide +kernel
theorem dX8_asksPlan_36 : decode cX8_asksPlan 36 = .ok (.iconst 2, 1) := by decide +kernel
theorem dX8_asksPlan_37 : decode cX8_asksPlan 37 = .ok (.goto 18, 3) := by decide +kernel
theorem dX8_asksPlan_40 : decode cX8_asksPlan 40 = .ok (.aload_n 0, 1) := by decide +kernel
theorem dX8_asksPlan_41 : decode cX8_asksPlan 41 = .ok (.getfield 65, 3) := by decide +kernel
theorem dX8_asksPlan_44 : decode cX8_asksPlan 44 = .ok (.iload_n 1, 1) := by decide +kernel
theorem dX8_asksPlan_45 : decode cX8_asksPlan 45 = .ok (.iaload, 1) := by decide +kernel
theorem dX8_asksPlan_46 : decode cX8_asksPlan 46 = .ok (.iconst 5, 1) := by decide +kernel
theorem dX8_asksPlan_47 : decode cX8_asksPlan 47 = .ok (.if_icmp .le 7, 3) := by decide +kernel
theorem dX8_asksPlan_50 : decode cX8_asksPlan 50 = .ok (.iconst 3, 1) := by decide +kernel
theorem dX8_asksPlan_51 : decode cX8_asksPlan 51 = .ok (.goto 4, 3) := by decide +kernel
theorem dX8_asksPlan_54 : decode cX8_asksPlan 54 = .ok (.iconst 0, 1) := by decide +kernel
theorem dX8_asksPlan_55 : decode cX8_asksPlan 55 = .ok (.invokevirtual 145, 3) := by decide +kernel
theorem dX8_asksPlan_58 : decode cX8_asksPlan 58 = .ok (.ireturn, 1) := by decide +kernel
theorem dX8_plan_0 : decode cX8_plan 0 = .ok (.aload_n 0, 1) := by decide +kernel
theorem dX8_plan_1 : decode cX8_plan 1 = .ok (.iload_n 1, 1) := by decide +kernel
theorem dX8_plan_2 : decode cX8_plan 2 = .ok (.iload_n 2, 1) := by decide +kernel
theorem dX8_plan_3 : decode cX8_plan 3 = .ok (.iconst 1, 1) := by decide +kernel
theorem dX8_plan_4 : decode cX8_plan 4 = .ok (.invokevirtual 251, 3) := by decide +kernel
theorem dX8_plan_7 : decode cX8_plan 7 = .ok (.ifCond .ne 5, 3) := by decide +kernel
theorem dX8_plan_10 : decode cX8_plan 10 = .ok (.iconst 0, 1) := by decide +kernel
theorem dX8_plan_11 : decode cX8_plan 11 = .ok (.ireturn, 1) := by decide +kernel
theorem dX8_plan_12 : decode cX8_plan 12 = .ok (.aload_n 0, 1) := by decide +kernel
theorem dX8_plan_13 : decode cX8_plan 13 = .ok (.aload_n 0, 1) := by decide +kernel
theorem dX8_plan_14 : decode cX8_plan 14 = .ok (.getfield 65, 3) := by decide +kernel
theorem dX8_plan_17 : decode cX8_plan 17 = .ok (.iload_n 1, 1) := by decide +kernel
theorem dX8_plan_18 : decode cX8_plan 18 = .ok (.iaload, 1) := by decide +kernel
theorem dX8_plan_19 : decode cX8_plan 19 = .ok (.aload_n 0, 1) := by decide +kernel
theorem dX8_plan_20 : decode cX8_plan 20 = .ok (.iload_n 1, 1) := by decide +kernel
theorem dX8_plan_21 : decode cX8_plan 21 = .ok (.iload_n 2, 1) := by decide +kernel
theorem dX8_plan_22 : decode cX8_plan 22 = .ok (.invokevirtual 255, 3) := by decide +kernel
theorem dX8_plan_25 : decode cX8_plan 25 = .ok (.invokevirtual 245, 3) := by decide +kernel
theorem dX8_plan_28 : decode cX8_plan 28 = .ok (.aload_n 0, 1) := by decide +kernel
theorem dX8_plan_29 : decode cX8_plan 29 = .ok (.iload_n 1, 1) := by decide +kernel
theorem dX8_plan_30 : decode cX8_plan 30 = .ok (.iload_n 2, 1) := by decide +kernel
theorem dX8_plan_31 : decode cX8_plan 31 = .ok (.invokevirtual 248, 3) := by decide +kernel
theorem dX8_plan_34 : decode cX8_plan 34 = .ok (.ireturn, 1) := by decide +kernel
theorem dX8_planCell_0 : decode cX8_planCell 0 = .ok (.aload_n 0, 1) := by decide +kernel
theorem dX8_planCell_1 : decode cX8_planCell 1 = .ok (.iload_n 1, 1) := by decide +kernel
theorem dX8_planCell_2 : decode cX8_planCell 2 = .ok (.iload_n 2, 1) := by decide +kernel
theorem dX8_planCell_3 : decode cX8_planCell 3 = .ok (.iload_n 3, 1) := by decide +kernel
theorem dX8_planCell_4 : decode cX8_planCell 4 = .ok (.ifCond .lt 7, 3) := by decide +kernel
theorem dX8_planCell_7 : decode cX8_planCell 7 = .ok (.iconst 1, 1) := by decide +kernel
theorem dX8_planCell_8 : decode cX8_planCell 8 = .ok (.goto 4, 3) := by decide +kernel
theorem dX8_planCell_11 : decode cX8_planCell 11 = .ok (.iconst 0, 1) := by decide +kernel
theorem dX8_planCell_12 : decode cX8_planCell 12 = .ok (.invokevirtual 251, 3) := by decide +kernel
theorem dX8_planCell_15 : decode cX8_planCell 15 = .ok (.ifCond .ne 5, 3) := by decide +kernel
theorem dX8_planCell_18 : decode cX8_planCell 18 = .ok (.iconst 0, 1) := by decide +kernel
theorem dX8_planCell_19 : decode cX8_planCell 19 = .ok (.ireturn, 1) := by decide +kernel
theorem dX8_planCell_20 : decode cX8_planCell 20 = .ok (.iload_n 3, 1) := by decide +kernel
theorem dX8_planCell_21 : decode cX8_planCell 21 = .ok (.aload_n 0, 1) := by decide +kernel
theorem dX8_planCell_22 : decode cX8_planCell 22 = .ok (.getfield 65, 3) := by decide +kernel
theorem dX8_planCell_25 : decode cX8_planCell 25 = .ok (.iload_n 1, 1) := by decide +kernel
theorem dX8_planCell_26 : decode cX8_planCell 26 = .ok (.iaload, 1) := by decide +kernel
theorem dX8_planCell_27 : decode cX8_planCell 27 = .ok (.if_icmp .lt 5, 3) := by decide +kernel
theorem dX8_planCell_30 : decode cX8_planCell 30 = .ok (.iconst (-1), 1) := by decide +kernel
theorem dX8_planCell_31 : decode cX8_planCell 31 = .ok (.ireturn, 1) := by decide +kernel
theorem dX8_planCell_32 : decode cX8_planCell 32 = .ok (.aload_n 0, 1) := by decide +kernel
theorem dX8_planCell_33 : decode cX8_planCell 33 = .ok (.aload_n 0, 1) := by decide +kernel
theorem dX8_planCell_34 : decode cX8_planCell 34 = .ok (.getfield 65, 3) := by decide +kernel
theorem dX8_planCell_37 : decode cX8_planCell 37 = .ok (.iload_n 1, 1) := by decide +kernel
theorem dX8_planCell_38 : decode cX8_planCell 38 = .ok (.iaload, 1) := by decide +kernel
theorem dX8_planCell_39 : decode cX8_planCell 39 = .ok (.aload_n 0, 1) := by decide +kernel
theorem dX8_planCell_40 : decode cX8_planCell 40 = .ok (.iload_n 1, 1) := by decide +kernel
theorem dX8_planCell_41 : decode cX8_planCell 41 = .ok (.iload_n 2, 1) := by decide +kernel
theorem dX8_planCell_42 : decode cX8_planCell 42 = .ok (.invokevirtual 255, 3) := by decide +kernel
theorem dX8_planCell_45 : decode cX8_planCell 45 = .ok (.invokevirtual 245, 3) := by decide +kernel
theorem dX8_planCell_48 : decode cX8_planCell 48 = .ok (.aload_n 0, 1) := by decide +kernel
theorem dX8_planCell_49 : decode cX8_planCell 49 = .ok (.getfield 62, 3) := by decide +kernel
theorem dX8_planCell_52 : decode cX8_planCell 52 = .ok (.iload_n 1, 1) := by decide +kernel
theorem dX8_planCell_53 : decode cX8_planCell 53 = .ok (.iaload, 1) := by decide +kernel
theorem dX8_planCell_54 : decode cX8_planCell 54 = .ok (.aload_n 0, 1) := by decide +kernel
theorem dX8_planCell_55 : decode cX8_planCell 55 = .ok (.getfield 114, 3) := by decide +kernel
theorem dX8_planCell_58 : decode cX8_planCell 58 = .ok (.iload_n 3, 1) := by decide +kernel
theorem dX8_planCell_59 : decode cX8_planCell 59 = .ok (.iaload, 1) := by decide +kernel
theorem dX8_planCell_60 : decode cX8_planCell 60 = .ok (.iadd, 1) := by decide +kernel
theorem dX8_planCell_61 : decode cX8_planCell 61 = .ok (.ireturn, 1) := by decide +kernel
end
section
theorem dL_ground_0 : decode cL_ground 0 = .ok (.aload 4, 2) := by decide +kernel
theorem dL_ground_2 : decode cL_ground 2 = .ok (.iconst 0, 1) := by decide +kernel
theorem dL_ground_3 : decode cL_ground 3 = .ok (.aload_n 0, 1) := by decide +kernel
theorem dL_ground_4 : decode cL_ground 4 = .ok (.iload_n 1, 1) := by decide +kernel
theorem dL_ground_5 : decode cL_ground 5 = .ok (.iload_n 2, 1) := by decide +kernel
theorem dL_ground_6 : decode cL_ground 6 = .ok (.iload_n 3, 1) := by decide +kernel
theorem dL_ground_7 : decode cL_ground 7 = .ok (.invokevirtual 7, 3) := by decide +kernel
theorem dL_ground_10 : decode cL_ground 10 = .ok (.i2l, 1) := by decide +kernel
theorem dL_ground_11 : decode cL_ground 11 = .ok (.lastore, 1) := by decide +kernel
theorem dL_ground_12 : decode cL_ground 12 = .ok (.goto 15, 3) := by decide +kernel
theorem dL_ground_15 : decode cL_ground 15 = .ok (.astore 5, 2) := by decide +kernel
theorem dL_ground_17 : decode cL_ground 17 = .ok (.iconst 1, 1) := by decide +kernel
theorem dL_ground_18 : decode cL_ground 18 = .ok (.ireturn, 1) := by decide +kernel
theorem dL_ground_19 : decode cL_ground 19 = .ok (.astore 5, 2) := by decide +kernel
theorem dL_ground_21 : decode cL_ground 21 = .ok (.iconst 2, 1) := by decide +kernel
theorem dL_ground_22 : decode cL_ground 22 = .ok (.ireturn, 1) := by decide +kernel
theorem dL_ground_23 : decode cL_ground 23 = .ok (.astore 5, 2) := by decide +kernel
theorem dL_ground_25 : decode cL_ground 25 = .ok (.iconst 3, 1) := by decide +kernel
theorem dL_ground_26 : decode cL_ground 26 = .ok (.ireturn, 1) := by decide +kernel
theorem dL_ground_27 : decode cL_ground 27 = .ok (.iconst 0, 1) := by decide +kernel
theorem dL_ground_28 : decode cL_ground 28 = .ok (.ireturn, 1) := by decide +kernel
theorem dL_flow_0 : decode cL_flow 0 = .ok (.aload_n 2, 1) := by decide +kernel
theorem dL_flow_1 : decode cL_flow 1 = .ok (.iconst 0, 1) := by decide +kernel
theorem dL_flow_2 : decode cL_flow 2 = .ok (.aload_n 0, 1) := by decide +kernel
theorem dL_flow_3 : decode cL_flow 3 = .ok (.iload_n 1, 1) := by decide +kernel
theorem dL_flow_4 : decode cL_flow 4 = .ok (.invokevirtual 19, 3) := by decide +kernel
theorem dL_flow_7 : decode cL_flow 7 = .ok (.i2l, 1) := by decide +kernel
theorem dL_flow_8 : decode cL_flow 8 = .ok (.lastore, 1) := by decide +kernel
theorem dL_flow_9 : decode cL_flow 9 = .ok (.goto 6, 3) := by decide +kernel
theorem dL_flow_12 : decode cL_flow 12 = .ok (.astore_n 3, 1) := by decide +kernel
theorem dL_flow_13 : decode cL_flow 13 = .ok (.iconst 1, 1) := by decide +kernel
theorem dL_flow_14 : decode cL_flow 14 = .ok (.ireturn, 1) := by decide +kernel
theorem dL_flow_15 : decode cL_flow 15 = .ok (.iconst 0, 1) := by decide +kernel
theorem dL_flow_16 : decode cL_flow 16 = .ok (.ireturn, 1) := by decide +kernel
theorem dL_miner_0 : decode cL_miner 0 = .ok (.aload_n 3, 1) := by decide +kernel
theorem dL_miner_1 : decode cL_miner 1 = .ok (.iconst 0, 1) := by decide +kernel
theorem dL_miner_2 : decode cL_miner 2 = .ok (.aload_n 0, 1) := by decide +kernel
theorem dL_miner_3 : decode cL_miner 3 = .ok (.iload_n 1, 1) := by decide +kernel
theorem dL_miner_4 : decode cL_miner 4 = .ok (.iload_n 2, 1) := by decide +kernel
theorem dL_miner_5 : decode cL_miner 5 = .ok (.invokevirtual 23, 3) := by decide +kernel
theorem dL_miner_8 : decode cL_miner 8 = .ok (.i2l, 1) := by decide +kernel
theorem dL_miner_9 : decode cL_miner 9 = .ok (.lastore, 1) := by decide +kernel
theorem dL_miner_10 : decode cL_miner 10 = .ok (.goto 11, 3) := by decide +kernel
theorem dL_miner_13 : decode cL_miner 13 = .ok (.astore 4, 2) := by decide +kernel
theorem dL_miner_15 : decode cL_miner 15 = .ok (.iconst 1, 1) := by decide +kernel
theorem dL_miner_16 : decode cL_miner 16 = .ok (.ireturn, 1) := by decide +kernel
theorem dL_miner_17 : decode cL_miner 17 = .ok (.astore 4, 2) := by decide +kernel
theorem dL_miner_19 : decode cL_miner 19 = .ok (.iconst 2, 1) := by decide +kernel
theorem dL_miner_20 : decode cL_miner 20 = .ok (.ireturn, 1) := by decide +kernel
theorem dL_miner_21 : decode cL_miner 21 = .ok (.iconst 0, 1) := by decide +kernel
theorem dL_miner_22 : decode cL_miner 22 = .ok (.ireturn, 1) := by decide +kernel
theorem dL_pass_0 : decode cL_pass 0 = .ok (.aload_n 2, 1) := by decide +kernel
theorem dL_pass_1 : decode cL_pass 1 = .ok (.iconst 0, 1) := by decide +kernel
theorem dL_pass_2 : decode cL_pass 2 = .ok (.aload_n 0, 1) := by decide +kernel
theorem dL_pass_3 : decode cL_pass 3 = .ok (.iload_n 1, 1) := by decide +kernel
theorem dL_pass_4 : decode cL_pass 4 = .ok (.invokevirtual 27, 3) := by decide +kernel
theorem dL_pass_7 : decode cL_pass 7 = .ok (.i2l, 1) := by decide +kernel
theorem dL_pass_8 : decode cL_pass 8 = .ok (.lastore, 1) := by decide +kernel
theorem dL_pass_9 : decode cL_pass 9 = .ok (.goto 9, 3) := by decide +kernel
theorem dL_pass_12 : decode cL_pass 12 = .ok (.astore_n 3, 1) := by decide +kernel
theorem dL_pass_13 : decode cL_pass 13 = .ok (.iconst 1, 1) := by decide +kernel
theorem dL_pass_14 : decode cL_pass 14 = .ok (.ireturn, 1) := by decide +kernel
theorem dL_pass_15 : decode cL_pass 15 = .ok (.astore_n 3, 1) := by decide +kernel
theorem dL_pass_16 : decode cL_pass 16 = .ok (.iconst 2, 1) := by decide +kernel
theorem dL_pass_17 : decode cL_pass 17 = .ok (.ireturn, 1) := by decide +kernel
theorem dL_pass_18 : decode cL_pass 18 = .ok (.iconst 0, 1) := by decide +kernel
theorem dL_pass_19 : decode cL_pass 19 = .ok (.ireturn, 1) := by decide +kernel
theorem dL_meet_0 : decode cL_meet 0 = .ok (.aload 5, 2) := by decide +kernel
theorem dL_meet_2 : decode cL_meet 2 = .ok (.iconst 0, 1) := by decide +kernel
theorem dL_meet_3 : decode cL_meet 3 = .ok (.aload_n 0, 1) := by decide +kernel
theorem dL_meet_4 : decode cL_meet 4 = .ok (.iload_n 1, 1) := by decide +kernel
theorem dL_meet_5 : decode cL_meet 5 = .ok (.iload_n 2, 1) := by decide +kernel
theorem dL_meet_6 : decode cL_meet 6 = .ok (.iload_n 3, 1) := by decide +kernel
theorem dL_meet_7 : decode cL_meet 7 = .ok (.iload 4, 2) := by decide +kernel
theorem dL_meet_9 : decode cL_meet 9 = .ok (.invokevirtual 30, 3) := by decide +kernel
theorem dL_meet_12 : decode cL_meet 12 = .ok (.ifCond .eq 7, 3) := by decide +kernel
theorem dL_meet_15 : decode cL_meet 15 = .ok (.lconst 1, 1) := by decide +kernel
theorem dL_meet_16 : decode cL_meet 16 = .ok (.goto 4, 3) := by decide +kernel
theorem dL_meet_19 : decode cL_meet 19 = .ok (.lconst 0, 1) := by decide +kernel
theorem dL_meet_20 : decode cL_meet 20 = .ok (.lastore, 1) := by decide +kernel
theorem dL_meet_21 : decode cL_meet 21 = .ok (.goto 7, 3) := by decide +kernel
theorem dL_meet_24 : decode cL_meet 24 = .ok (.astore 6, 2) := by decide +kernel
theorem dL_meet_26 : decode cL_meet 26 = .ok (.iconst 1, 1) := by decide +kernel
theorem dL_meet_27 : decode cL_meet 27 = .ok (.ireturn, 1) := by decide +kernel
theorem dL_meet_28 : decode cL_meet 28 = .ok (.iconst 0, 1) := by decide +kernel
theorem dL_meet_29 : decode cL_meet 29 = .ok (.ireturn, 1) := by decide +kernel
theorem dL_peg_0 : decode cL_peg 0 = .ok (.aload 4, 2) := by decide +kernel
theorem dL_peg_2 : decode cL_peg 2 = .ok (.iconst 0, 1) := by decide +kernel
theorem dL_peg_3 : decode cL_peg 3 = .ok (.aload_n 0, 1) := by decide +kernel
theorem dL_peg_4 : decode cL_peg 4 = .ok (.iload_n 1, 1) := by decide +kernel
theorem dL_peg_5 : decode cL_peg 5 = .ok (.iload_n 2, 1) := by decide +kernel
theorem dL_peg_6 : decode cL_peg 6 = .ok (.iload_n 3, 1) := by decide +kernel
theorem dL_peg_7 : decode cL_peg 7 = .ok (.invokevirtual 34, 3) := by decide +kernel
theorem dL_peg_10 : decode cL_peg 10 = .ok (.i2l, 1) := by decide +kernel
theorem dL_peg_11 : decode cL_peg 11 = .ok (.lastore, 1) := by decide +kernel
theorem dL_peg_12 : decode cL_peg 12 = .ok (.goto 15, 3) := by decide +kernel
theorem dL_peg_15 : decode cL_peg 15 = .ok (.astore 5, 2) := by decide +kernel
theorem dL_peg_17 : decode cL_peg 17 = .ok (.iconst 1, 1) := by decide +kernel
theorem dL_peg_18 : decode cL_peg 18 = .ok (.ireturn, 1) := by decide +kernel
theorem dL_peg_19 : decode cL_peg 19 = .ok (.astore 5, 2) := by decide +kernel
theorem dL_peg_21 : decode cL_peg 21 = .ok (.iconst 2, 1) := by decide +kernel
theorem dL_peg_22 : decode cL_peg 22 = .ok (.ireturn, 1) := by decide +kernel
theorem dL_peg_23 : decode cL_peg 23 = .ok (.astore 5, 2) := by decide +kernel
theorem dL_peg_25 : decode cL_peg 25 = .ok (.iconst 3, 1) := by decide +kernel
theorem dL_peg_26 : decode cL_peg 26 = .ok (.ireturn, 1) := by decide +kernel
theorem dL_peg_27 : decode cL_peg 27 = .ok (.iconst 0, 1) := by decide +kernel
theorem dL_peg_28 : decode cL_peg 28 = .ok (.ireturn, 1) := by decide +kernel
theorem dL_right_0 : decode cL_right 0 = .ok (.aload_n 3, 1) := by decide +kernel
theorem dL_right_1 : decode cL_right 1 = .ok (.iconst 0, 1) := by decide +kernel
theorem dL_right_2 : decode cL_right 2 = .ok (.aload_n 0, 1) := by decide +kernel
theorem dL_right_3 : decode cL_right 3 = .ok (.iload_n 1, 1) := by decide +kernel
theorem dL_right_4 : decode cL_right 4 = .ok (.iload_n 2, 1) := by decide +kernel
theorem dL_right_5 : decode cL_right 5 = .ok (.invokevirtual 37, 3) := by decide +kernel
theorem dL_right_8 : decode cL_right 8 = .ok (.i2l, 1) := by decide +kernel
theorem dL_right_9 : decode cL_right 9 = .ok (.lastore, 1) := by decide +kernel
theorem dL_right_10 : decode cL_right 10 = .ok (.goto 15, 3) := by decide +kernel
theorem dL_right_13 : decode cL_right 13 = .ok (.astore 4, 2) := by decide +kernel
theorem dL_right_15 : decode cL_right 15 = .ok (.iconst 1, 1) := by decide +kernel
theorem dL_right_16 : decode cL_right 16 = .ok (.ireturn, 1) := by decide +kernel
theorem dL_right_17 : decode cL_right 17 = .ok (.astore 4, 2) := by decide +kernel
theorem dL_right_19 : decode cL_right 19 = .ok (.iconst 2, 1) := by decide +kernel
theorem dL_right_20 : decode cL_right 20 = .ok (.ireturn, 1) := by decide +kernel
theorem dL_right_21 : decode cL_right 21 = .ok (.astore 4, 2) := by decide +kernel
theorem dL_right_23 : decode cL_right 23 = .ok (.iconst 3, 1) := by decide +kernel
theorem dL_right_24 : decode cL_right 24 = .ok (.ireturn, 1) := by decide +kernel
theorem dL_right_25 : decode cL_right 25 = .ok (.iconst 0, 1) := by decide +kernel
theorem dL_right_26 : decode cL_right 26 = .ok (.ireturn, 1) := by decide +kernel
theorem dL_work_0 : decode cL_work 0 = .ok (.aload 4, 2) := by decide +kernel
theorem dL_work_2 : decode cL_work 2 = .ok (.iconst 0, 1) := by decide +kernel
theorem dL_work_3 : decode cL_work 3 = .ok (.aload_n 0, 1) := by decide +kernel
theorem dL_work_4 : decode cL_work 4 = .ok (.iload_n 1, 1) := by decide +kernel
theorem dL_work_5 : decode cL_work 5 = .ok (.iload_n 2, 1) := by decide +kernel
theorem dL_work_6 : decode cL_work 6 = .ok (.iload_n 3, 1) := by decide +kernel
theorem dL_work_7 : decode cL_work 7 = .ok (.invokevirtual 40, 3) := by decide +kernel
theorem dL_work_10 : decode cL_work 10 = .ok (.i2l, 1) := by decide +kernel
theorem dL_work_11 : decode cL_work 11 = .ok (.lastore, 1) := by decide +kernel
theorem dL_work_12 : decode cL_work 12 = .ok (.goto 15, 3) := by decide +kernel
theorem dL_work_15 : decode cL_work 15 = .ok (.astore 5, 2) := by decide +kernel
theorem dL_work_17 : decode cL_work 17 = .ok (.iconst 1, 1) := by decide +kernel
theorem dL_work_18 : decode cL_work 18 = .ok (.ireturn, 1) := by decide +kernel
theorem dL_work_19 : decode cL_work 19 = .ok (.astore 5, 2) := by decide +kernel
theorem dL_work_21 : decode cL_work 21 = .ok (.iconst 2, 1) := by decide +kernel
theorem dL_work_22 : decode cL_work 22 = .ok (.ireturn, 1) := by decide +kernel
theorem dL_work_23 : decode cL_work 23 = .ok (.astore 5, 2) := by decide +kernel
theorem dL_work_25 : decode cL_work 25 = .ok (.iconst 3, 1) := by decide +kernel
theorem dL_work_26 : decode cL_work 26 = .ok (.ireturn, 1) := by decide +kernel
theorem dL_work_27 : decode cL_work 27 = .ok (.iconst 0, 1) := by decide +kernel
theorem dL_work_28 : decode cL_work 28 = .ok (.ireturn, 1) := by decide +kernel
theorem dL_sample_0 : decode cL_sample 0 = .ok (.aload_n 2, 1) := by decide +kernel
theorem dL_sample_1 : decode cL_sample 1 = .ok (.iconst 0, 1) := by decide +kernel
theorem dL_sample_2 : decode cL_sample 2 = .ok (.aload_n 0, 1) := by decide +kernel
theorem dL_sample_3 : decode cL_sample 3 = .ok (.iload_n 1, 1) := by decide +kernel
theorem dL_sample_4 : decode cL_sample 4 = .ok (.invokevirtual 43, 3) := by decide +kernel
theorem dL_sample_7 : decode cL_sample 7 = .ok (.i2l, 1) := by decide +kernel
theorem dL_sample_8 : decode cL_sample 8 = .ok (.lastore, 1) := by decide +kernel
theorem dL_sample_9 : decode cL_sample 9 = .ok (.goto 6, 3) := by decide +kernel
theorem dL_sample_12 : decode cL_sample 12 = .ok (.astore_n 3, 1) := by decide +kernel
theorem dL_sample_13 : decode cL_sample 13 = .ok (.iconst 1, 1) := by decide +kernel
theorem dL_sample_14 : decode cL_sample 14 = .ok (.ireturn, 1) := by decide +kernel
theorem dL_sample_15 : decode cL_sample 15 = .ok (.iconst 0, 1) := by decide +kernel
theorem dL_sample_16 : decode cL_sample 16 = .ok (.ireturn, 1) := by decide +kernel
theorem dL_salt_0 : decode cL_salt 0 = .ok (.aload 4, 2) := by decide +kernel
theorem dL_salt_2 : decode cL_salt 2 = .ok (.iconst 0, 1) := by decide +kernel
theorem dL_salt_3 : decode cL_salt 3 = .ok (.aload_n 0, 1) := by decide +kernel
theorem dL_salt_4 : decode cL_salt 4 = .ok (.iload_n 1, 1) := by decide +kernel
theorem dL_salt_5 : decode cL_salt 5 = .ok (.iload_n 2, 1) := by decide +kernel
theorem dL_salt_6 : decode cL_salt 6 = .ok (.iload_n 3, 1) := by decide +kernel
theorem dL_salt_7 : decode cL_salt 7 = .ok (.invokevirtual 46, 3) := by decide +kernel
theorem dL_salt_10 : decode cL_salt 10 = .ok (.i2l, 1) := by decide +kernel
theorem dL_salt_11 : decode cL_salt 11 = .ok (.lastore, 1) := by decide +kernel
theorem dL_salt_12 : decode cL_salt 12 = .ok (.goto 15, 3) := by decide +kernel
theorem dL_salt_15 : decode cL_salt 15 = .ok (.astore 5, 2) := by decide +kernel
theorem dL_salt_17 : decode cL_salt 17 = .ok (.iconst 1, 1) := by decide +kernel
theorem dL_salt_18 : decode cL_salt 18 = .ok (.ireturn, 1) := by decide +kernel
theorem dL_salt_19 : decode cL_salt 19 = .ok (.astore 5, 2) := by decide +kernel
theorem dL_salt_21 : decode cL_salt 21 = .ok (.iconst 2, 1) := by decide +kernel
theorem dL_salt_22 : decode cL_salt 22 = .ok (.ireturn, 1) := by decide +kernel
theorem dL_salt_23 : decode cL_salt 23 = .ok (.astore 5, 2) := by decide +kernel
theorem dL_salt_25 : decode cL_salt 25 = .ok (.iconst 3, 1) := by decide +kernel
theorem dL_salt_26 : decode cL_salt 26 = .ok (.ireturn, 1) := by decide +kernel
theorem dL_salt_27 : decode cL_salt 27 = .ok (.iconst 0, 1) := by decide +kernel
theorem dL_salt_28 : decode cL_salt 28 = .ok (.ireturn, 1) := by decide +kernel
theorem dL_brass_0 : decode cL_brass 0 = .ok (.aload_n 3, 1) := by decide +kernel
theorem dL_brass_1 : decode cL_brass 1 = .ok (.iconst 0, 1) := by decide +kernel
theorem dL_brass_2 : decode cL_brass 2 = .ok (.aload_n 0, 1) := by decide +kernel
theorem dL_brass_3 : decode cL_brass 3 = .ok (.iload_n 1, 1) := by decide +kernel
theorem dL_brass_4 : decode cL_brass 4 = .ok (.iload_n 2, 1) := by decide +kernel
theorem dL_brass_5 : decode cL_brass 5 = .ok (.invokevirtual 49, 3) := by decide +kernel
theorem dL_brass_8 : decode cL_brass 8 = .ok (.i2l, 1) := by decide +kernel
theorem dL_brass_9 : decode cL_brass 9 = .ok (.lastore, 1) := by decide +kernel
theorem dL_brass_10 : decode cL_brass 10 = .ok (.goto 15, 3) := by decide +kernel
theorem dL_brass_13 : decode cL_brass 13 = .ok (.astore 4, 2) := by decide +kernel
theorem dL_brass_15 : decode cL_brass 15 = .ok (.iconst 1, 1) := by decide +kernel
theorem dL_brass_16 : decode cL_brass 16 = .ok (.ireturn, 1) := by decide +kernel
theorem dL_brass_17 : decode cL_brass 17 = .ok (.astore 4, 2) := by decide +kernel
theorem dL_brass_19 : decode cL_brass 19 = .ok (.iconst 2, 1) := by decide +kernel
theorem dL_brass_20 : decode cL_brass 20 = .ok (.ireturn, 1) := by decide +kernel
theorem dL_brass_21 : decode cL_brass 21 = .ok (.astore 4, 2) := by decide +kernel
theorem dL_brass_23 : decode cL_brass 23 = .ok (.iconst 3, 1) := by decide +kernel
theorem dL_brass_24 : decode cL_brass 24 = .ok (.ireturn, 1) := by decide +kernel
theorem dL_brass_25 : decode cL_brass 25 = .ok (.iconst 0, 1) := by decide +kernel
theorem dL_brass_26 : decode cL_brass 26 = .ok (.ireturn, 1) := by decide +kernel
theorem dL_sell_0 : decode cL_sell 0 = .ok (.aload_n 3, 1) := by decide +kernel
theorem dL_sell_1 : decode cL_sell 1 = .ok (.iconst 0, 1) := by decide +kernel
theorem dL_sell_2 : decode cL_sell 2 = .ok (.aload_n 0, 1) := by decide +kernel
theorem dL_sell_3 : decode cL_sell 3 = .ok (.iload_n 1, 1) := by decide +kernel
theorem dL_sell_4 : decode cL_sell 4 = .ok (.iload_n 2, 1) := by decide +kernel
theorem dL_sell_5 : decode cL_sell 5 = .ok (.invokevirtual 52, 3) := by decide +kernel
theorem dL_sell_8 : decode cL_sell 8 = .ok (.i2l, 1) := by decide +kernel
theorem dL_sell_9 : decode cL_sell 9 = .ok (.lastore, 1) := by decide +kernel
theorem dL_sell_10 : decode cL_sell 10 = .ok (.goto 15, 3) := by decide +kernel
theorem dL_sell_13 : decode cL_sell 13 = .ok (.astore 4, 2) := by decide +kernel
theorem dL_sell_15 : decode cL_sell 15 = .ok (.iconst 1, 1) := by decide +kernel
theorem dL_sell_16 : decode cL_sell 16 = .ok (.ireturn, 1) := by decide +kernel
theorem dL_sell_17 : decode cL_sell 17 = .ok (.astore 4, 2) := by decide +kernel
theorem dL_sell_19 : decode cL_sell 19 = .ok (.iconst 2, 1) := by decide +kernel
theorem dL_sell_20 : decode cL_sell 20 = .ok (.ireturn, 1) := by decide +kernel
theorem dL_sell_21 : decode cL_sell 21 = .ok (.astore 4, 2) := by decide +kernel
theorem dL_sell_23 : decode cL_sell 23 = .ok (.iconst 3, 1) := by decide +kernel
theorem dL_sell_24 : decode cL_sell 24 = .ok (.ireturn, 1) := by decide +kernel
theorem dL_sell_25 : decode cL_sell 25 = .ok (.iconst 0, 1) := by decide +kernel
theorem dL_sell_26 : decode cL_sell 26 = .ok (.ireturn, 1) := by decide +kernel
theorem dL_rate_0 : decode cL_rate 0 = .ok (.aload_n 2, 1) := by decide +kernel
theorem dL_rate_1 : decode cL_rate 1 = .ok (.iconst 0, 1) := by decide +kernel
theorem dL_rate_2 : decode cL_rate 2 = .ok (.aload_n 0, 1) := by decide +kernel
theorem dL_rate_3 : decode cL_rate 3 = .ok (.iload_n 1, 1) := by decide +kernel
theorem dL_rate_4 : decode cL_rate 4 = .ok (.invokevirtual 55, 3) := by decide +kernel
theorem dL_rate_7 : decode cL_rate 7 = .ok (.i2l, 1) := by decide +kernel
theorem dL_rate_8 : decode cL_rate 8 = .ok (.lastore, 1) := by decide +kernel
theorem dL_rate_9 : decode cL_rate 9 = .ok (.goto 6, 3) := by decide +kernel
theorem dL_rate_12 : decode cL_rate 12 = .ok (.astore_n 3, 1) := by decide +kernel
theorem dL_rate_13 : decode cL_rate 13 = .ok (.iconst 1, 1) := by decide +kernel
theorem dL_rate_14 : decode cL_rate 14 = .ok (.ireturn, 1) := by decide +kernel
theorem dL_rate_15 : decode cL_rate 15 = .ok (.iconst 0, 1) := by decide +kernel
theorem dL_rate_16 : decode cL_rate 16 = .ok (.ireturn, 1) := by decide +kernel
theorem dL_freight_0 : decode cL_freight 0 = .ok (.aload_n 0, 1) := by decide +kernel
theorem dL_freight_1 : decode cL_freight 1 = .ok (.iload_n 1, 1) := by decide +kernel
theorem dL_freight_2 : decode cL_freight 2 = .ok (.iload_n 2, 1) := by decide +kernel
theorem dL_freight_3 : decode cL_freight 3 = .ok (.invokevirtual 58, 3) := by decide +kernel
theorem dL_freight_6 : decode cL_freight 6 = .ok (.goto 9, 3) := by decide +kernel
theorem dL_freight_9 : decode cL_freight 9 = .ok (.astore_n 3, 1) := by decide +kernel
theorem dL_freight_10 : decode cL_freight 10 = .ok (.iconst 1, 1) := by decide +kernel
theorem dL_freight_11 : decode cL_freight 11 = .ok (.ireturn, 1) := by decide +kernel
theorem dL_freight_12 : decode cL_freight 12 = .ok (.astore_n 3, 1) := by decide +kernel
theorem dL_freight_13 : decode cL_freight 13 = .ok (.iconst 2, 1) := by decide +kernel
theorem dL_freight_14 : decode cL_freight 14 = .ok (.ireturn, 1) := by decide +kernel
theorem dL_freight_15 : decode cL_freight 15 = .ok (.iconst 0, 1) := by decide +kernel
theorem dL_freight_16 : decode cL_freight 16 = .ok (.ireturn, 1) := by decide +kernel
theorem dL_buy_0 : decode cL_buy 0 = .ok (.aload_n 3, 1) := by decide +kernel
theorem dL_buy_1 : decode cL_buy 1 = .ok (.iconst 0, 1) := by decide +kernel
theorem dL_buy_2 : decode cL_buy 2 = .ok (.aload_n 0, 1) := by decide +kernel
theorem dL_buy_3 : decode cL_buy 3 = .ok (.iload_n 1, 1) := by decide +kernel
theorem dL_buy_4 : decode cL_buy 4 = .ok (.iload_n 2, 1) := by decide +kernel
theorem dL_buy_5 : decode cL_buy 5 = .ok (.invokevirtual 62, 3) := by decide +kernel
theorem dL_buy_8 : decode cL_buy 8 = .ok (.i2l, 1) := by decide +kernel
theorem dL_buy_9 : decode cL_buy 9 = .ok (.lastore, 1) := by decide +kernel
theorem dL_buy_10 : decode cL_buy 10 = .ok (.goto 15, 3) := by decide +kernel
theorem dL_buy_13 : decode cL_buy 13 = .ok (.astore 4, 2) := by decide +kernel
theorem dL_buy_15 : decode cL_buy 15 = .ok (.iconst 1, 1) := by decide +kernel
theorem dL_buy_16 : decode cL_buy 16 = .ok (.ireturn, 1) := by decide +kernel
theorem dL_buy_17 : decode cL_buy 17 = .ok (.astore 4, 2) := by decide +kernel
theorem dL_buy_19 : decode cL_buy 19 = .ok (.iconst 2, 1) := by decide +kernel
theorem dL_buy_20 : decode cL_buy 20 = .ok (.ireturn, 1) := by decide +kernel
theorem dL_buy_21 : decode cL_buy 21 = .ok (.astore 4, 2) := by decide +kernel
theorem dL_buy_23 : decode cL_buy 23 = .ok (.iconst 3, 1) := by decide +kernel
theorem dL_buy_24 : decode cL_buy 24 = .ok (.ireturn, 1) := by decide +kernel
theorem dL_buy_25 : decode cL_buy 25 = .ok (.iconst 0, 1) := by decide +kernel
theorem dL_buy_26 : decode cL_buy 26 = .ok (.ireturn, 1) := by decide +kernel
theorem dL_back_0 : decode cL_back 0 = .ok (.aload_n 0, 1) := by decide +kernel
theorem dL_back_1 : decode cL_back 1 = .ok (.iload_n 1, 1) := by decide +kernel
theorem dL_back_2 : decode cL_back 2 = .ok (.iload_n 2, 1) := by decide +kernel
theorem dL_back_3 : decode cL_back 3 = .ok (.iload_n 3, 1) := by decide +kernel
theorem dL_back_4 : decode cL_back 4 = .ok (.iload 4, 2) := by decide +kernel
theorem dL_back_6 : decode cL_back 6 = .ok (.invokevirtual 65, 3) := by decide +kernel
theorem dL_back_9 : decode cL_back 9 = .ok (.goto 15, 3) := by decide +kernel
theorem dL_back_12 : decode cL_back 12 = .ok (.astore 5, 2) := by decide +kernel
theorem dL_back_14 : decode cL_back 14 = .ok (.iconst 1, 1) := by decide +kernel
theorem dL_back_15 : decode cL_back 15 = .ok (.ireturn, 1) := by decide +kernel
theorem dL_back_16 : decode cL_back 16 = .ok (.astore 5, 2) := by decide +kernel
theorem dL_back_18 : decode cL_back 18 = .ok (.iconst 2, 1) := by decide +kernel
theorem dL_back_19 : decode cL_back 19 = .ok (.ireturn, 1) := by decide +kernel
theorem dL_back_20 : decode cL_back 20 = .ok (.astore 5, 2) := by decide +kernel
theorem dL_back_22 : decode cL_back 22 = .ok (.iconst 3, 1) := by decide +kernel
theorem dL_back_23 : decode cL_back 23 = .ok (.ireturn, 1) := by decide +kernel
theorem dL_back_24 : decode cL_back 24 = .ok (.iconst 0, 1) := by decide +kernel
theorem dL_back_25 : decode cL_back 25 = .ok (.ireturn, 1) := by decide +kernel
theorem dL_end_0 : decode cL_end 0 = .ok (.aload_n 3, 1) := by decide +kernel
theorem dL_end_1 : decode cL_end 1 = .ok (.iconst 0, 1) := by decide +kernel
theorem dL_end_2 : decode cL_end 2 = .ok (.aload_n 0, 1) := by decide +kernel
theorem dL_end_3 : decode cL_end 3 = .ok (.iload_n 1, 1) := by decide +kernel
theorem dL_end_4 : decode cL_end 4 = .ok (.iload_n 2, 1) := by decide +kernel
theorem dL_end_5 : decode cL_end 5 = .ok (.invokevirtual 69, 3) := by decide +kernel
theorem dL_end_8 : decode cL_end 8 = .ok (.i2l, 1) := by decide +kernel
theorem dL_end_9 : decode cL_end 9 = .ok (.lastore, 1) := by decide +kernel
theorem dL_end_10 : decode cL_end 10 = .ok (.goto 11, 3) := by decide +kernel
theorem dL_end_13 : decode cL_end 13 = .ok (.astore 4, 2) := by decide +kernel
theorem dL_end_15 : decode cL_end 15 = .ok (.iconst 1, 1) := by decide +kernel
theorem dL_end_16 : decode cL_end 16 = .ok (.ireturn, 1) := by decide +kernel
theorem dL_end_17 : decode cL_end 17 = .ok (.astore 4, 2) := by decide +kernel
theorem dL_end_19 : decode cL_end 19 = .ok (.iconst 2, 1) := by decide +kernel
theorem dL_end_20 : decode cL_end 20 = .ok (.ireturn, 1) := by decide +kernel
theorem dL_end_21 : decode cL_end 21 = .ok (.iconst 0, 1) := by decide +kernel
theorem dL_end_22 : decode cL_end 22 = .ok (.ireturn, 1) := by decide +kernel
theorem dL_trade_0 : decode cL_trade 0 = .ok (.aload 4, 2) := by decide +kernel
theorem dL_trade_2 : decode cL_trade 2 = .ok (.iconst 0, 1) := by decide +kernel
theorem dL_trade_3 : decode cL_trade 3 = .ok (.aload_n 0, 1) := by decide +kernel
theorem dL_trade_4 : decode cL_trade 4 = .ok (.iload_n 1, 1) := by decide +kernel
theorem dL_trade_5 : decode cL_trade 5 = .ok (.iload_n 2, 1) := by decide +kernel
theorem dL_trade_6 : decode cL_trade 6 = .ok (.iload_n 3, 1) := by decide +kernel
theorem dL_trade_7 : decode cL_trade 7 = .ok (.invokevirtual 72, 3) := by decide +kernel
theorem dL_trade_10 : decode cL_trade 10 = .ok (.i2l, 1) := by decide +kernel
theorem dL_trade_11 : decode cL_trade 11 = .ok (.lastore, 1) := by decide +kernel
theorem dL_trade_12 : decode cL_trade 12 = .ok (.goto 15, 3) := by decide +kernel
theorem dL_trade_15 : decode cL_trade 15 = .ok (.astore 5, 2) := by decide +kernel
theorem dL_trade_17 : decode cL_trade 17 = .ok (.iconst 1, 1) := by decide +kernel
theorem dL_trade_18 : decode cL_trade 18 = .ok (.ireturn, 1) := by decide +kernel
theorem dL_trade_19 : decode cL_trade 19 = .ok (.astore 5, 2) := by decide +kernel
theorem dL_trade_21 : decode cL_trade 21 = .ok (.iconst 2, 1) := by decide +kernel
theorem dL_trade_22 : decode cL_trade 22 = .ok (.ireturn, 1) := by decide +kernel
theorem dL_trade_23 : decode cL_trade 23 = .ok (.astore 5, 2) := by decide +kernel
theorem dL_trade_25 : decode cL_trade 25 = .ok (.iconst 3, 1) := by decide +kernel
theorem dL_trade_26 : decode cL_trade 26 = .ok (.ireturn, 1) := by decide +kernel
theorem dL_trade_27 : decode cL_trade 27 = .ok (.iconst 0, 1) := by decide +kernel
theorem dL_trade_28 : decode cL_trade 28 = .ok (.ireturn, 1) := by decide +kernel
theorem dL_suit_0 : decode cL_suit 0 = .ok (.aload_n 2, 1) := by decide +kernel
theorem dL_suit_1 : decode cL_suit 1 = .ok (.iconst 0, 1) := by decide +kernel
theorem dL_suit_2 : decode cL_suit 2 = .ok (.aload_n 0, 1) := by decide +kernel
theorem dL_suit_3 : decode cL_suit 3 = .ok (.iload_n 1, 1) := by decide +kernel
theorem dL_suit_4 : decode cL_suit 4 = .ok (.invokevirtual 75, 3) := by decide +kernel
theorem dL_suit_7 : decode cL_suit 7 = .ok (.i2l, 1) := by decide +kernel
theorem dL_suit_8 : decode cL_suit 8 = .ok (.lastore, 1) := by decide +kernel
theorem dL_suit_9 : decode cL_suit 9 = .ok (.goto 9, 3) := by decide +kernel
theorem dL_suit_12 : decode cL_suit 12 = .ok (.astore_n 3, 1) := by decide +kernel
theorem dL_suit_13 : decode cL_suit 13 = .ok (.iconst 1, 1) := by decide +kernel
theorem dL_suit_14 : decode cL_suit 14 = .ok (.ireturn, 1) := by decide +kernel
theorem dL_suit_15 : decode cL_suit 15 = .ok (.astore_n 3, 1) := by decide +kernel
theorem dL_suit_16 : decode cL_suit 16 = .ok (.iconst 2, 1) := by decide +kernel
theorem dL_suit_17 : decode cL_suit 17 = .ok (.ireturn, 1) := by decide +kernel
theorem dL_suit_18 : decode cL_suit 18 = .ok (.iconst 0, 1) := by decide +kernel
theorem dL_suit_19 : decode cL_suit 19 = .ok (.ireturn, 1) := by decide +kernel
theorem dL_rumour_0 : decode cL_rumour 0 = .ok (.aload_n 3, 1) := by decide +kernel
theorem dL_rumour_1 : decode cL_rumour 1 = .ok (.iconst 0, 1) := by decide +kernel
theorem dL_rumour_2 : decode cL_rumour 2 = .ok (.aload_n 0, 1) := by decide +kernel
theorem dL_rumour_3 : decode cL_rumour 3 = .ok (.iload_n 1, 1) := by decide +kernel
theorem dL_rumour_4 : decode cL_rumour 4 = .ok (.iload_n 2, 1) := by decide +kernel
theorem dL_rumour_5 : decode cL_rumour 5 = .ok (.invokevirtual 78, 3) := by decide +kernel
theorem dL_rumour_8 : decode cL_rumour 8 = .ok (.i2l, 1) := by decide +kernel
theorem dL_rumour_9 : decode cL_rumour 9 = .ok (.lastore, 1) := by decide +kernel
theorem dL_rumour_10 : decode cL_rumour 10 = .ok (.goto 11, 3) := by decide +kernel
theorem dL_rumour_13 : decode cL_rumour 13 = .ok (.astore 4, 2) := by decide +kernel
theorem dL_rumour_15 : decode cL_rumour 15 = .ok (.iconst 1, 1) := by decide +kernel
theorem dL_rumour_16 : decode cL_rumour 16 = .ok (.ireturn, 1) := by decide +kernel
theorem dL_rumour_17 : decode cL_rumour 17 = .ok (.astore 4, 2) := by decide +kernel
theorem dL_rumour_19 : decode cL_rumour 19 = .ok (.iconst 2, 1) := by decide +kernel
theorem dL_rumour_20 : decode cL_rumour 20 = .ok (.ireturn, 1) := by decide +kernel
theorem dL_rumour_21 : decode cL_rumour 21 = .ok (.iconst 0, 1) := by decide +kernel
theorem dL_rumour_22 : decode cL_rumour 22 = .ok (.ireturn, 1) := by decide +kernel
theorem dL_holds_0 : decode cL_holds 0 = .ok (.aload_n 2, 1) := by decide +kernel
theorem dL_holds_1 : decode cL_holds 1 = .ok (.iconst 0, 1) := by decide +kernel
theorem dL_holds_2 : decode cL_holds 2 = .ok (.aload_n 0, 1) := by decide +kernel
theorem dL_holds_3 : decode cL_holds 3 = .ok (.iload_n 1, 1) := by decide +kernel
theorem dL_holds_4 : decode cL_holds 4 = .ok (.invokevirtual 81, 3) := by decide +kernel
theorem dL_holds_7 : decode cL_holds 7 = .ok (.i2l, 1) := by decide +kernel
theorem dL_holds_8 : decode cL_holds 8 = .ok (.lastore, 1) := by decide +kernel
theorem dL_holds_9 : decode cL_holds 9 = .ok (.goto 6, 3) := by decide +kernel
theorem dL_holds_12 : decode cL_holds 12 = .ok (.astore_n 3, 1) := by decide +kernel
theorem dL_holds_13 : decode cL_holds 13 = .ok (.iconst 1, 1) := by decide +kernel
theorem dL_holds_14 : decode cL_holds 14 = .ok (.ireturn, 1) := by decide +kernel
theorem dL_holds_15 : decode cL_holds 15 = .ok (.iconst 0, 1) := by decide +kernel
theorem dL_holds_16 : decode cL_holds 16 = .ok (.ireturn, 1) := by decide +kernel
theorem dL_ofClaim_0 : decode cL_ofClaim 0 = .ok (.aload_n 3, 1) := by decide +kernel
theorem dL_ofClaim_1 : decode cL_ofClaim 1 = .ok (.iconst 0, 1) := by decide +kernel
theorem dL_ofClaim_2 : decode cL_ofClaim 2 = .ok (.aload_n 0, 1) := by decide +kernel
theorem dL_ofClaim_3 : decode cL_ofClaim 3 = .ok (.iload_n 1, 1) := by decide +kernel
theorem dL_ofClaim_4 : decode cL_ofClaim 4 = .ok (.iload_n 2, 1) := by decide +kernel
theorem dL_ofClaim_5 : decode cL_ofClaim 5 = .ok (.invokevirtual 84, 3) := by decide +kernel
theorem dL_ofClaim_8 : decode cL_ofClaim 8 = .ok (.i2l, 1) := by decide +kernel
theorem dL_ofClaim_9 : decode cL_ofClaim 9 = .ok (.lastore, 1) := by decide +kernel
theorem dL_ofClaim_10 : decode cL_ofClaim 10 = .ok (.goto 11, 3) := by decide +kernel
theorem dL_ofClaim_13 : decode cL_ofClaim 13 = .ok (.astore 4, 2) := by decide +kernel
theorem dL_ofClaim_15 : decode cL_ofClaim 15 = .ok (.iconst 1, 1) := by decide +kernel
theorem dL_ofClaim_16 : decode cL_ofClaim 16 = .ok (.ireturn, 1) := by decide +kernel
theorem dL_ofClaim_17 : decode cL_ofClaim 17 = .ok (.astore 4, 2) := by decide +kernel
theorem dL_ofClaim_19 : decode cL_ofClaim 19 = .ok (.iconst 2, 1) := by decide +kernel
theorem dL_ofClaim_20 : decode cL_ofClaim 20 = .ok (.ireturn, 1) := by decide +kernel
theorem dL_ofClaim_21 : decode cL_ofClaim 21 = .ok (.iconst 0, 1) := by decide +kernel
theorem dL_ofClaim_22 : decode cL_ofClaim 22 = .ok (.ireturn, 1) := by decide +kernel
theorem dL_ofMiner_0 : decode cL_ofMiner 0 = .ok (.aload_n 3, 1) := by decide +kernel
theorem dL_ofMiner_1 : decode cL_ofMiner 1 = .ok (.iconst 0, 1) := by decide +kernel
theorem dL_ofMiner_2 : decode cL_ofMiner 2 = .ok (.aload_n 0, 1) := by decide +kernel
theorem dL_ofMiner_3 : decode cL_ofMiner 3 = .ok (.iload_n 1, 1) := by decide +kernel
theorem dL_ofMiner_4 : decode cL_ofMiner 4 = .ok (.iload_n 2, 1) := by decide +kernel
theorem dL_ofMiner_5 : decode cL_ofMiner 5 = .ok (.invokevirtual 87, 3) := by decide +kernel
theorem dL_ofMiner_8 : decode cL_ofMiner 8 = .ok (.i2l, 1) := by decide +kernel
theorem dL_ofMiner_9 : decode cL_ofMiner 9 = .ok (.lastore, 1) := by decide +kernel
theorem dL_ofMiner_10 : decode cL_ofMiner 10 = .ok (.goto 11, 3) := by decide +kernel
theorem dL_ofMiner_13 : decode cL_ofMiner 13 = .ok (.astore 4, 2) := by decide +kernel
theorem dL_ofMiner_15 : decode cL_ofMiner 15 = .ok (.iconst 1, 1) := by decide +kernel
theorem dL_ofMiner_16 : decode cL_ofMiner 16 = .ok (.ireturn, 1) := by decide +kernel
theorem dL_ofMiner_17 : decode cL_ofMiner 17 = .ok (.astore 4, 2) := by decide +kernel
theorem dL_ofMiner_19 : decode cL_ofMiner 19 = .ok (.iconst 2, 1) := by decide +kernel
theorem dL_ofMiner_20 : decode cL_ofMiner 20 = .ok (.ireturn, 1) := by decide +kernel
theorem dL_ofMiner_21 : decode cL_ofMiner 21 = .ok (.iconst 0, 1) := by decide +kernel
theorem dL_ofMiner_22 : decode cL_ofMiner 22 = .ok (.ireturn, 1) := by decide +kernel
theorem dL_gets_0 : decode cL_gets 0 = .ok (.aload_n 2, 1) := by decide +kernel
theorem dL_gets_1 : decode cL_gets 1 = .ok (.iconst 0, 1) := by decide +kernel
theorem dL_gets_2 : decode cL_gets 2 = .ok (.aload_n 0, 1) := by decide +kernel
theorem dL_gets_3 : decode cL_gets 3 = .ok (.iload_n 1, 1) := by decide +kernel
theorem dL_gets_4 : decode cL_gets 4 = .ok (.invokevirtual 90, 3) := by decide +kernel
theorem dL_gets_7 : decode cL_gets 7 = .ok (.i2l, 1) := by decide +kernel
theorem dL_gets_8 : decode cL_gets 8 = .ok (.lastore, 1) := by decide +kernel
theorem dL_gets_9 : decode cL_gets 9 = .ok (.goto 6, 3) := by decide +kernel
theorem dL_gets_12 : decode cL_gets 12 = .ok (.astore_n 3, 1) := by decide +kernel
theorem dL_gets_13 : decode cL_gets 13 = .ok (.iconst 1, 1) := by decide +kernel
theorem dL_gets_14 : decode cL_gets 14 = .ok (.ireturn, 1) := by decide +kernel
theorem dL_gets_15 : decode cL_gets 15 = .ok (.iconst 0, 1) := by decide +kernel
theorem dL_gets_16 : decode cL_gets 16 = .ok (.ireturn, 1) := by decide +kernel
theorem dL_gold_0 : decode cL_gold 0 = .ok (.aload_n 2, 1) := by decide +kernel
theorem dL_gold_1 : decode cL_gold 1 = .ok (.iconst 0, 1) := by decide +kernel
theorem dL_gold_2 : decode cL_gold 2 = .ok (.aload_n 0, 1) := by decide +kernel
theorem dL_gold_3 : decode cL_gold 3 = .ok (.iload_n 1, 1) := by decide +kernel
theorem dL_gold_4 : decode cL_gold 4 = .ok (.invokevirtual 93, 3) := by decide +kernel
theorem dL_gold_7 : decode cL_gold 7 = .ok (.i2l, 1) := by decide +kernel
theorem dL_gold_8 : decode cL_gold 8 = .ok (.lastore, 1) := by decide +kernel
theorem dL_gold_9 : decode cL_gold 9 = .ok (.goto 6, 3) := by decide +kernel
theorem dL_gold_12 : decode cL_gold 12 = .ok (.astore_n 3, 1) := by decide +kernel
theorem dL_gold_13 : decode cL_gold 13 = .ok (.iconst 1, 1) := by decide +kernel
theorem dL_gold_14 : decode cL_gold 14 = .ok (.ireturn, 1) := by decide +kernel
theorem dL_gold_15 : decode cL_gold 15 = .ok (.iconst 0, 1) := by decide +kernel
theorem dL_gold_16 : decode cL_gold 16 = .ok (.ireturn, 1) := by decide +kernel
theorem dL_camp_0 : decode cL_camp 0 = .ok (.aload_n 2, 1) := by decide +kernel
theorem dL_camp_1 : decode cL_camp 1 = .ok (.iconst 0, 1) := by decide +kernel
theorem dL_camp_2 : decode cL_camp 2 = .ok (.aload_n 0, 1) := by decide +kernel
theorem dL_camp_3 : decode cL_camp 3 = .ok (.iload_n 1, 1) := by decide +kernel
theorem dL_camp_4 : decode cL_camp 4 = .ok (.invokevirtual 96, 3) := by decide +kernel
theorem dL_camp_7 : decode cL_camp 7 = .ok (.i2l, 1) := by decide +kernel
theorem dL_camp_8 : decode cL_camp 8 = .ok (.lastore, 1) := by decide +kernel
theorem dL_camp_9 : decode cL_camp 9 = .ok (.goto 6, 3) := by decide +kernel
theorem dL_camp_12 : decode cL_camp 12 = .ok (.astore_n 3, 1) := by decide +kernel
theorem dL_camp_13 : decode cL_camp 13 = .ok (.iconst 1, 1) := by decide +kernel
theorem dL_camp_14 : decode cL_camp 14 = .ok (.ireturn, 1) := by decide +kernel
theorem dL_camp_15 : decode cL_camp 15 = .ok (.iconst 0, 1) := by decide +kernel
theorem dL_camp_16 : decode cL_camp 16 = .ok (.ireturn, 1) := by decide +kernel
theorem dL_belief_0 : decode cL_belief 0 = .ok (.aload_n 2, 1) := by decide +kernel
theorem dL_belief_1 : decode cL_belief 1 = .ok (.iconst 0, 1) := by decide +kernel
theorem dL_belief_2 : decode cL_belief 2 = .ok (.aload_n 0, 1) := by decide +kernel
theorem dL_belief_3 : decode cL_belief 3 = .ok (.iload_n 1, 1) := by decide +kernel
theorem dL_belief_4 : decode cL_belief 4 = .ok (.invokevirtual 99, 3) := by decide +kernel
theorem dL_belief_7 : decode cL_belief 7 = .ok (.i2l, 1) := by decide +kernel
theorem dL_belief_8 : decode cL_belief 8 = .ok (.lastore, 1) := by decide +kernel
theorem dL_belief_9 : decode cL_belief 9 = .ok (.goto 6, 3) := by decide +kernel
theorem dL_belief_12 : decode cL_belief 12 = .ok (.astore_n 3, 1) := by decide +kernel
theorem dL_belief_13 : decode cL_belief 13 = .ok (.iconst 1, 1) := by decide +kernel
theorem dL_belief_14 : decode cL_belief 14 = .ok (.ireturn, 1) := by decide +kernel
theorem dL_belief_15 : decode cL_belief 15 = .ok (.iconst 0, 1) := by decide +kernel
theorem dL_belief_16 : decode cL_belief 16 = .ok (.ireturn, 1) := by decide +kernel
theorem dL_plan_0 : decode cL_plan 0 = .ok (.aload_n 3, 1) := by decide +kernel
theorem dL_plan_1 : decode cL_plan 1 = .ok (.iconst 0, 1) := by decide +kernel
theorem dL_plan_2 : decode cL_plan 2 = .ok (.aload_n 0, 1) := by decide +kernel
theorem dL_plan_3 : decode cL_plan 3 = .ok (.iload_n 1, 1) := by decide +kernel
theorem dL_plan_4 : decode cL_plan 4 = .ok (.iload_n 2, 1) := by decide +kernel
theorem dL_plan_5 : decode cL_plan 5 = .ok (.invokevirtual 102, 3) := by decide +kernel
theorem dL_plan_8 : decode cL_plan 8 = .ok (.i2l, 1) := by decide +kernel
theorem dL_plan_9 : decode cL_plan 9 = .ok (.lastore, 1) := by decide +kernel
theorem dL_plan_10 : decode cL_plan 10 = .ok (.goto 15, 3) := by decide +kernel
theorem dL_plan_13 : decode cL_plan 13 = .ok (.astore 4, 2) := by decide +kernel
theorem dL_plan_15 : decode cL_plan 15 = .ok (.iconst 1, 1) := by decide +kernel
theorem dL_plan_16 : decode cL_plan 16 = .ok (.ireturn, 1) := by decide +kernel
theorem dL_plan_17 : decode cL_plan 17 = .ok (.astore 4, 2) := by decide +kernel
theorem dL_plan_19 : decode cL_plan 19 = .ok (.iconst 2, 1) := by decide +kernel
theorem dL_plan_20 : decode cL_plan 20 = .ok (.ireturn, 1) := by decide +kernel
theorem dL_plan_21 : decode cL_plan 21 = .ok (.astore 4, 2) := by decide +kernel
theorem dL_plan_23 : decode cL_plan 23 = .ok (.iconst 3, 1) := by decide +kernel
theorem dL_plan_24 : decode cL_plan 24 = .ok (.ireturn, 1) := by decide +kernel
theorem dL_plan_25 : decode cL_plan 25 = .ok (.iconst 0, 1) := by decide +kernel
theorem dL_plan_26 : decode cL_plan 26 = .ok (.ireturn, 1) := by decide +kernel
theorem dL_planCell_0 : decode cL_planCell 0 = .ok (.aload 4, 2) := by decide +kernel
theorem dL_planCell_2 : decode cL_planCell 2 = .ok (.iconst 0, 1) := by decide +kernel
theorem dL_planCell_3 : decode cL_planCell 3 = .ok (.aload_n 0, 1) := by decide +kernel
theorem dL_planCell_4 : decode cL_planCell 4 = .ok (.iload_n 1, 1) := by decide +kernel
theorem dL_planCell_5 : decode cL_planCell 5 = .ok (.iload_n 2, 1) := by decide +kernel
theorem dL_planCell_6 : decode cL_planCell 6 = .ok (.iload_n 3, 1) := by decide +kernel
theorem dL_planCell_7 : decode cL_planCell 7 = .ok (.invokevirtual 105, 3) := by decide +kernel
theorem dL_planCell_10 : decode cL_planCell 10 = .ok (.i2l, 1) := by decide +kernel
theorem dL_planCell_11 : decode cL_planCell 11 = .ok (.lastore, 1) := by decide +kernel
theorem dL_planCell_12 : decode cL_planCell 12 = .ok (.goto 15, 3) := by decide +kernel
theorem dL_planCell_15 : decode cL_planCell 15 = .ok (.astore 5, 2) := by decide +kernel
theorem dL_planCell_17 : decode cL_planCell 17 = .ok (.iconst 1, 1) := by decide +kernel
theorem dL_planCell_18 : decode cL_planCell 18 = .ok (.ireturn, 1) := by decide +kernel
theorem dL_planCell_19 : decode cL_planCell 19 = .ok (.astore 5, 2) := by decide +kernel
theorem dL_planCell_21 : decode cL_planCell 21 = .ok (.iconst 2, 1) := by decide +kernel
theorem dL_planCell_22 : decode cL_planCell 22 = .ok (.ireturn, 1) := by decide +kernel
theorem dL_planCell_23 : decode cL_planCell 23 = .ok (.astore 5, 2) := by decide +kernel
theorem dL_planCell_25 : decode cL_planCell 25 = .ok (.iconst 3, 1) := by decide +kernel
theorem dL_planCell_26 : decode cL_planCell 26 = .ok (.ireturn, 1) := by decide +kernel
theorem dL_planCell_27 : decode cL_planCell 27 = .ok (.iconst 0, 1) := by decide +kernel
theorem dL_planCell_28 : decode cL_planCell 28 = .ok (.ireturn, 1) := by decide +kernel
end
section
theorem dL_law_0 : decode cL_law 0 = .ok (.new 8, 3) := by decide +kernel
theorem dL_law_3 : decode cL_law 3 = .ok (.dup, 1) := by decide +kernel
theorem dL_law_4 : decode cL_law 4 = .ok (.invokespecial 108, 3) := by decide +kernel
theorem dL_law_7 : decode cL_law 7 = .ok (.astore_n 1, 1) := by decide +kernel
theorem dL_law_8 : decode cL_law 8 = .ok (.new 109, 3) := by decide +kernel
theorem dL_law_11 : decode cL_law 11 = .ok (.dup, 1) := by decide +kernel
theorem dL_law_12 : decode cL_law 12 = .ok (.invokespecial 111, 3) := by decide +kernel
theorem dL_law_15 : decode cL_law 15 = .ok (.astore_n 2, 1) := by decide +kernel
theorem dL_law_16 : decode cL_law 16 = .ok (.iconst 1, 1) := by decide +kernel
theorem dL_law_17 : decode cL_law 17 = .ok (.newarray .long, 2) := by decide +kernel
theorem dL_law_19 : decode cL_law 19 = .ok (.astore_n 3, 1) := by decide +kernel
theorem dL_law_20 : decode cL_law 20 = .ok (.iconst 0, 1) := by decide +kernel
theorem dL_law_21 : decode cL_law 21 = .ok (.istore 4, 2) := by decide +kernel
theorem dL_law_23 : decode cL_law 23 = .ok (.iload 4, 2) := by decide +kernel
theorem dL_law_25 : decode cL_law 25 = .ok (.aload_n 0, 1) := by decide +kernel
theorem dL_law_26 : decode cL_law 26 = .ok (.arraylength, 1) := by decide +kernel
theorem dL_law_27 : decode cL_law 27 = .ok (.iconst 5, 1) := by decide +kernel
theorem dL_law_28 : decode cL_law 28 = .ok (.isub, 1) := by decide +kernel
theorem dL_law_29 : decode cL_law 29 = .ok (.if_icmp .gt 2101, 3) := by decide +kernel
theorem dL_law_32 : decode cL_law 32 = .ok (.aload_n 0, 1) := by decide +kernel
theorem dL_law_33 : decode cL_law 33 = .ok (.iload 4, 2) := by decide +kernel
theorem dL_law_35 : decode cL_law 35 = .ok (.iaload, 1) := by decide +kernel
theorem dL_law_36 : decode cL_law 36 = .ok (.bipush 31, 2) := by decide +kernel
theorem dL_law_38 : decode cL_law 38 = .ok (.iand, 1) := by decide +kernel
theorem dL_law_39 : decode cL_law 39 = .ok (.tableswitch 2085 0 29 #[133, 213, 269, 337, 393, 492, 572, 640, 720, 776, 856, 924, 992, 1048, 1096, 1164, 1236, 1304, 1384, 1440, 1508, 1521, 1577, 1645, 1713, 1769, 1825, 1881, 1937, 2005], 133) := by decide +kernel
theorem dL_law_172 : decode cL_law 172 = .ok (.aload_n 1, 1) := by decide +kernel
theorem dL_law_173 : decode cL_law 173 = .ok (.aload_n 0, 1) := by decide +kernel
theorem dL_law_174 : decode cL_law 174 = .ok (.iload 4, 2) := by decide +kernel
theorem dL_law_176 : decode cL_law 176 = .ok (.iconst 1, 1) := by decide +kernel
theorem dL_law_177 : decode cL_law 177 = .ok (.iadd, 1) := by decide +kernel
theorem dL_law_178 : decode cL_law 178 = .ok (.iaload, 1) := by decide +kernel
theorem dL_law_179 : decode cL_law 179 = .ok (.aload_n 0, 1) := by decide +kernel
theorem dL_law_180 : decode cL_law 180 = .ok (.iload 4, 2) := by decide +kernel
theorem dL_law_182 : decode cL_law 182 = .ok (.iconst 2, 1) := by decide +kernel
theorem dL_law_183 : decode cL_law 183 = .ok (.iadd, 1) := by decide +kernel
theorem dL_law_184 : decode cL_law 184 = .ok (.iaload, 1) := by decide +kernel
theorem dL_law_185 : decode cL_law 185 = .ok (.aload_n 0, 1) := by decide +kernel
theorem dL_law_186 : decode cL_law 186 = .ok (.iload 4, 2) := by decide +kernel
theorem dL_law_188 : decode cL_law 188 = .ok (.iconst 3, 1) := by decide +kernel
theorem dL_law_189 : decode cL_law 189 = .ok (.iadd, 1) := by decide +kernel
theorem dL_law_190 : decode cL_law 190 = .ok (.iaload, 1) := by decide +kernel
theorem dL_law_191 : decode cL_law 191 = .ok (.aload_n 3, 1) := by decide +kernel
theorem dL_law_192 : decode cL_law 192 = .ok (.invokestatic 112, 3) := by decide +kernel
theorem dL_law_195 : decode cL_law 195 = .ok (.istore 5, 2) := by decide +kernel
theorem dL_law_197 : decode cL_law 197 = .ok (.aload_n 2, 1) := by decide +kernel
theorem dL_law_198 : decode cL_law 198 = .ok (.aload_n 0, 1) := by decide +kernel
theorem dL_law_199 : decode cL_law 199 = .ok (.iload 4, 2) := by decide +kernel
theorem dL_law_201 : decode cL_law 201 = .ok (.iconst 1, 1) := by decide +kernel
theorem dL_law_202 : decode cL_law 202 = .ok (.iadd, 1) := by decide +kernel
theorem dL_law_203 : decode cL_law 203 = .ok (.iaload, 1) := by decide +kernel
theorem dL_law_204 : decode cL_law 204 = .ok (.aload_n 0, 1) := by decide +kernel
theorem dL_law_205 : decode cL_law 205 = .ok (.iload 4, 2) := by decide +kernel
theorem dL_law_207 : decode cL_law 207 = .ok (.iconst 2, 1) := by decide +kernel
theorem dL_law_208 : decode cL_law 208 = .ok (.iadd, 1) := by decide +kernel
theorem dL_law_209 : decode cL_law 209 = .ok (.iaload, 1) := by decide +kernel
theorem dL_law_210 : decode cL_law 210 = .ok (.aload_n 0, 1) := by decide +kernel
theorem dL_law_211 : decode cL_law 211 = .ok (.iload 4, 2) := by decide +kernel
theorem dL_law_213 : decode cL_law 213 = .ok (.iconst 3, 1) := by decide +kernel
theorem dL_law_214 : decode cL_law 214 = .ok (.iadd, 1) := by decide +kernel
theorem dL_law_215 : decode cL_law 215 = .ok (.iaload, 1) := by decide +kernel
theorem dL_law_216 : decode cL_law 216 = .ok (.invokevirtual 117, 3) := by decide +kernel
theorem dL_law_219 : decode cL_law 219 = .ok (.istore 6, 2) := by decide +kernel
theorem dL_law_221 : decode cL_law 221 = .ok (.aload_n 2, 1) := by decide +kernel
theorem dL_law_222 : decode cL_law 222 = .ok (.invokevirtual 118, 3) := by decide +kernel
theorem dL_law_225 : decode cL_law 225 = .ok (.iload 5, 2) := by decide +kernel
theorem dL_law_227 : decode cL_law 227 = .ok (.if_icmp .eq 5, 3) := by decide +kernel
theorem dL_law_230 : decode cL_law 230 = .ok (.iconst 0, 1) := by decide +kernel
theorem dL_law_231 : decode cL_law 231 = .ok (.ireturn, 1) := by decide +kernel
theorem dL_law_232 : decode cL_law 232 = .ok (.iload 5, 2) := by decide +kernel
theorem dL_law_234 : decode cL_law 234 = .ok (.ifCond .ne 15, 3) := by decide +kernel
theorem dL_law_237 : decode cL_law 237 = .ok (.aload_n 3, 1) := by decide +kernel
theorem dL_law_238 : decode cL_law 238 = .ok (.iconst 0, 1) := by decide +kernel
theorem dL_law_239 : decode cL_law 239 = .ok (.laload, 1) := by decide +kernel
theorem dL_law_240 : decode cL_law 240 = .ok (.iload 6, 2) := by decide +kernel
theorem dL_law_242 : decode cL_law 242 = .ok (.i2l, 1) := by decide +kernel
theorem dL_law_243 : decode cL_law 243 = .ok (.lcmp, 1) := by decide +kernel
theorem dL_law_244 : decode cL_law 244 = .ok (.ifCond .eq 5, 3) := by decide +kernel
theorem dL_law_247 : decode cL_law 247 = .ok (.iconst 0, 1) := by decide +kernel
theorem dL_law_248 : decode cL_law 248 = .ok (.ireturn, 1) := by decide +kernel
theorem dL_law_249 : decode cL_law 249 = .ok (.goto 1875, 3) := by decide +kernel
theorem dL_law_252 : decode cL_law 252 = .ok (.aload_n 1, 1) := by decide +kernel
theorem dL_law_253 : decode cL_law 253 = .ok (.aload_n 0, 1) := by decide +kernel
theorem dL_law_254 : decode cL_law 254 = .ok (.iload 4, 2) := by decide +kernel
theorem dL_law_256 : decode cL_law 256 = .ok (.iconst 1, 1) := by decide +kernel
theorem dL_law_257 : decode cL_law 257 = .ok (.iadd, 1) := by decide +kernel
theorem dL_law_258 : decode cL_law 258 = .ok (.iaload, 1) := by decide +kernel
theorem dL_law_259 : decode cL_law 259 = .ok (.aload_n 3, 1) := by decide +kernel
theorem dL_law_260 : decode cL_law 260 = .ok (.invokestatic 122, 3) := by decide +kernel
theorem dL_law_263 : decode cL_law 263 = .ok (.istore 5, 2) := by decide +kernel
theorem dL_law_265 : decode cL_law 265 = .ok (.aload_n 2, 1) := by decide +kernel
theorem dL_law_266 : decode cL_law 266 = .ok (.aload_n 0, 1) := by decide +kernel
theorem dL_law_267 : decode cL_law 267 = .ok (.iload 4, 2) := by decide +kernel
theorem dL_law_269 : decode cL_law 269 = .ok (.iconst 1, 1) := by decide +kernel
theorem dL_law_270 : decode cL_law 270 = .ok (.iadd, 1) := by decide +kernel
theorem dL_law_271 : decode cL_law 271 = .ok (.iaload, 1) := by decide +kernel
theorem dL_law_272 : decode cL_law 272 = .ok (.invokevirtual 125, 3) := by decide +kernel
theorem dL_law_275 : decode cL_law 275 = .ok (.istore 6, 2) := by decide +kernel
theorem dL_law_277 : decode cL_law 277 = .ok (.aload_n 2, 1) := by decide +kernel
theorem dL_law_278 : decode cL_law 278 = .ok (.invokevirtual 118, 3) := by decide +kernel
theorem dL_law_281 : decode cL_law 281 = .ok (.iload 5, 2) := by decide +kernel
theorem dL_law_283 : decode cL_law 283 = .ok (.if_icmp .eq 5, 3) := by decide +kernel
theorem dL_law_286 : decode cL_law 286 = .ok (.iconst 0, 1) := by decide +kernel
theorem dL_law_287 : decode cL_law 287 = .ok (.ireturn, 1) := by decide +kernel
theorem dL_law_288 : decode cL_law 288 = .ok (.iload 5, 2) := by decide +kernel
theorem dL_law_290 : decode cL_law 290 = .ok (.ifCond .ne 15, 3) := by decide +kernel
theorem dL_law_293 : decode cL_law 293 = .ok (.aload_n 3, 1) := by decide +kernel
theorem dL_law_294 : decode cL_law 294 = .ok (.iconst 0, 1) := by decide +kernel
theorem dL_law_295 : decode cL_law 295 = .ok (.laload, 1) := by decide +kernel
theorem dL_law_296 : decode cL_law 296 = .ok (.iload 6, 2) := by decide +kernel
theorem dL_law_298 : decode cL_law 298 = .ok (.i2l, 1) := by decide +kernel
theorem dL_law_299 : decode cL_law 299 = .ok (.lcmp, 1) := by decide +kernel
theorem dL_law_300 : decode cL_law 300 = .ok (.ifCond .eq 5, 3) := by decide +kernel
theorem dL_law_303 : decode cL_law 303 = .ok (.iconst 0, 1) := by decide +kernel
theorem dL_law_304 : decode cL_law 304 = .ok (.ireturn, 1) := by decide +kernel
theorem dL_law_305 : decode cL_law 305 = .ok (.goto 1819, 3) := by decide +kernel
theorem dL_law_308 : decode cL_law 308 = .ok (.aload_n 1, 1) := by decide +kernel
theorem dL_law_309 : decode cL_law 309 = .ok (.aload_n 0, 1) := by decide +kernel
theorem dL_law_310 : decode cL_law 310 = .ok (.iload 4, 2) := by decide +kernel
theorem dL_law_312 : decode cL_law 312 = .ok (.iconst 1, 1) := by decide +kernel
theorem dL_law_313 : decode cL_law 313 = .ok (.iadd, 1) := by decide +kernel
theorem dL_law_314 : decode cL_law 314 = .ok (.iaload, 1) := by decide +kernel
theorem dL_law_315 : decode cL_law 315 = .ok (.aload_n 0, 1) := by decide +kernel
theorem dL_law_316 : decode cL_law 316 = .ok (.iload 4, 2) := by decide +kernel
theorem dL_law_318 : decode cL_law 318 = .ok (.iconst 2, 1) := by decide +kernel
theorem dL_law_319 : decode cL_law 319 = .ok (.iadd, 1) := by decide +kernel
theorem dL_law_320 : decode cL_law 320 = .ok (.iaload, 1) := by decide +kernel
theorem dL_law_321 : decode cL_law 321 = .ok (.aload_n 3, 1) := by decide +kernel
theorem dL_law_322 : decode cL_law 322 = .ok (.invokestatic 126, 3) := by decide +kernel
theorem dL_law_325 : decode cL_law 325 = .ok (.istore 5, 2) := by decide +kernel
theorem dL_law_327 : decode cL_law 327 = .ok (.aload_n 2, 1) := by decide +kernel
theorem dL_law_328 : decode cL_law 328 = .ok (.aload_n 0, 1) := by decide +kernel
theorem dL_law_329 : decode cL_law 329 = .ok (.iload 4, 2) := by decide +kernel
theorem dL_law_331 : decode cL_law 331 = .ok (.iconst 1, 1) := by decide +kernel
theorem dL_law_332 : decode cL_law 332 = .ok (.iadd, 1) := by decide +kernel
theorem dL_law_333 : decode cL_law 333 = .ok (.iaload, 1) := by decide +kernel
theorem dL_law_334 : decode cL_law 334 = .ok (.aload_n 0, 1) := by decide +kernel
theorem dL_law_335 : decode cL_law 335 = .ok (.iload 4, 2) := by decide +kernel
theorem dL_law_337 : decode cL_law 337 = .ok (.iconst 2, 1) := by decide +kernel
theorem dL_law_338 : decode cL_law 338 = .ok (.iadd, 1) := by decide +kernel
theorem dL_law_339 : decode cL_law 339 = .ok (.iaload, 1) := by decide +kernel
theorem dL_law_340 : decode cL_law 340 = .ok (.invokevirtual 129, 3) := by decide +kernel
theorem dL_law_343 : decode cL_law 343 = .ok (.istore 6, 2) := by decide +kernel
theorem dL_law_345 : decode cL_law 345 = .ok (.aload_n 2, 1) := by decide +kernel
theorem dL_law_346 : decode cL_law 346 = .ok (.invokevirtual 118, 3) := by decide +kernel
theorem dL_law_349 : decode cL_law 349 = .ok (.iload 5, 2) := by decide +kernel
theorem dL_law_351 : decode cL_law 351 = .ok (.if_icmp .eq 5, 3) := by decide +kernel
theorem dL_law_354 : decode cL_law 354 = .ok (.iconst 0, 1) := by decide +kernel
theorem dL_law_355 : decode cL_law 355 = .ok (.ireturn, 1) := by decide +kernel
theorem dL_law_356 : decode cL_law 356 = .ok (.iload 5, 2) := by decide +kernel
theorem dL_law_358 : decode cL_law 358 = .ok (.ifCond .ne 15, 3) := by decide +kernel
theorem dL_law_361 : decode cL_law 361 = .ok (.aload_n 3, 1) := by decide +kernel
theorem dL_law_362 : decode cL_law 362 = .ok (.iconst 0, 1) := by decide +kernel
theorem dL_law_363 : decode cL_law 363 = .ok (.laload, 1) := by decide +kernel
theorem dL_law_364 : decode cL_law 364 = .ok (.iload 6, 2) := by decide +kernel
theorem dL_law_366 : decode cL_law 366 = .ok (.i2l, 1) := by decide +kernel
theorem dL_law_367 : decode cL_law 367 = .ok (.lcmp, 1) := by decide +kernel
theorem dL_law_368 : decode cL_law 368 = .ok (.ifCond .eq 5, 3) := by decide +kernel
theorem dL_law_371 : decode cL_law 371 = .ok (.iconst 0, 1) := by decide +kernel
theorem dL_law_372 : decode cL_law 372 = .ok (.ireturn, 1) := by decide +kernel
theorem dL_law_373 : decode cL_law 373 = .ok (.goto 1751, 3) := by decide +kernel
theorem dL_law_376 : decode cL_law 376 = .ok (.aload_n 1, 1) := by decide +kernel
theorem dL_law_377 : decode cL_law 377 = .ok (.aload_n 0, 1) := by decide +kernel
theorem dL_law_378 : decode cL_law 378 = .ok (.iload 4, 2) := by decide +kernel
theorem dL_law_380 : decode cL_law 380 = .ok (.iconst 1, 1) := by decide +kernel
theorem dL_law_381 : decode cL_law 381 = .ok (.iadd, 1) := by decide +kernel
theorem dL_law_382 : decode cL_law 382 = .ok (.iaload, 1) := by decide +kernel
theorem dL_law_383 : decode cL_law 383 = .ok (.aload_n 3, 1) := by decide +kernel
theorem dL_law_384 : decode cL_law 384 = .ok (.invokestatic 130, 3) := by decide +kernel
theorem dL_law_387 : decode cL_law 387 = .ok (.istore 5, 2) := by decide +kernel
theorem dL_law_389 : decode cL_law 389 = .ok (.aload_n 2, 1) := by decide +kernel
theorem dL_law_390 : decode cL_law 390 = .ok (.aload_n 0, 1) := by decide +kernel
theorem dL_law_391 : decode cL_law 391 = .ok (.iload 4, 2) := by decide +kernel
theorem dL_law_393 : decode cL_law 393 = .ok (.iconst 1, 1) := by decide +kernel
theorem dL_law_394 : decode cL_law 394 = .ok (.iadd, 1) := by decide +kernel
theorem dL_law_395 : decode cL_law 395 = .ok (.iaload, 1) := by decide +kernel
theorem dL_law_396 : decode cL_law 396 = .ok (.invokevirtual 132, 3) := by decide +kernel
theorem dL_law_399 : decode cL_law 399 = .ok (.istore 6, 2) := by decide +kernel
theorem dL_law_401 : decode cL_law 401 = .ok (.aload_n 2, 1) := by decide +kernel
theorem dL_law_402 : decode cL_law 402 = .ok (.invokevirtual 118, 3) := by decide +kernel
theorem dL_law_405 : decode cL_law 405 = .ok (.iload 5, 2) := by decide +kernel
theorem dL_law_407 : decode cL_law 407 = .ok (.if_icmp .eq 5, 3) := by decide +kernel
theorem dL_law_410 : decode cL_law 410 = .ok (.iconst 0, 1) := by decide +kernel
theorem dL_law_411 : decode cL_law 411 = .ok (.ireturn, 1) := by decide +kernel
theorem dL_law_412 : decode cL_law 412 = .ok (.iload 5, 2) := by decide +kernel
theorem dL_law_414 : decode cL_law 414 = .ok (.ifCond .ne 15, 3) := by decide +kernel
theorem dL_law_417 : decode cL_law 417 = .ok (.aload_n 3, 1) := by decide +kernel
theorem dL_law_418 : decode cL_law 418 = .ok (.iconst 0, 1) := by decide +kernel
theorem dL_law_419 : decode cL_law 419 = .ok (.laload, 1) := by decide +kernel
theorem dL_law_420 : decode cL_law 420 = .ok (.iload 6, 2) := by decide +kernel
theorem dL_law_422 : decode cL_law 422 = .ok (.i2l, 1) := by decide +kernel
theorem dL_law_423 : decode cL_law 423 = .ok (.lcmp, 1) := by decide +kernel
theorem dL_law_424 : decode cL_law 424 = .ok (.ifCond .eq 5, 3) := by decide +kernel
theorem dL_law_427 : decode cL_law 427 = .ok (.iconst 0, 1) := by decide +kernel
theorem dL_law_428 : decode cL_law 428 = .ok (.ireturn, 1) := by decide +kernel
theorem dL_law_429 : decode cL_law 429 = .ok (.goto 1695, 3) := by decide +kernel
theorem dL_law_432 : decode cL_law 432 = .ok (.aload_n 1, 1) := by decide +kernel
theorem dL_law_433 : decode cL_law 433 = .ok (.aload_n 0, 1) := by decide +kernel
theorem dL_law_434 : decode cL_law 434 = .ok (.iload 4, 2) := by decide +kernel
theorem dL_law_436 : decode cL_law 436 = .ok (.iconst 1, 1) := by decide +kernel
theorem dL_law_437 : decode cL_law 437 = .ok (.iadd, 1) := by decide +kernel
theorem dL_law_438 : decode cL_law 438 = .ok (.iaload, 1) := by decide +kernel
theorem dL_law_439 : decode cL_law 439 = .ok (.aload_n 0, 1) := by decide +kernel
theorem dL_law_440 : decode cL_law 440 = .ok (.iload 4, 2) := by decide +kernel
theorem dL_law_442 : decode cL_law 442 = .ok (.iconst 2, 1) := by decide +kernel
theorem dL_law_443 : decode cL_law 443 = .ok (.iadd, 1) := by decide +kernel
theorem dL_law_444 : decode cL_law 444 = .ok (.iaload, 1) := by decide +kernel
theorem dL_law_445 : decode cL_law 445 = .ok (.aload_n 0, 1) := by decide +kernel
theorem dL_law_446 : decode cL_law 446 = .ok (.iload 4, 2) := by decide +kernel
theorem dL_law_448 : decode cL_law 448 = .ok (.iconst 3, 1) := by decide +kernel
theorem dL_law_449 : decode cL_law 449 = .ok (.iadd, 1) := by decide +kernel
theorem dL_law_450 : decode cL_law 450 = .ok (.iaload, 1) := by decide +kernel
theorem dL_law_451 : decode cL_law 451 = .ok (.aload_n 0, 1) := by decide +kernel
theorem dL_law_452 : decode cL_law 452 = .ok (.iload 4, 2) := by decide +kernel
theorem dL_law_454 : decode cL_law 454 = .ok (.iconst 4, 1) := by decide +kernel
theorem dL_law_455 : decode cL_law 455 = .ok (.iadd, 1) := by decide +kernel
theorem dL_law_456 : decode cL_law 456 = .ok (.iaload, 1) := by decide +kernel
theorem dL_law_457 : decode cL_law 457 = .ok (.aload_n 3, 1) := by decide +kernel
theorem dL_law_458 : decode cL_law 458 = .ok (.invokestatic 133, 3) := by decide +kernel
theorem dL_law_461 : decode cL_law 461 = .ok (.istore 5, 2) := by decide +kernel
theorem dL_law_463 : decode cL_law 463 = .ok (.aload_n 2, 1) := by decide +kernel
theorem dL_law_464 : decode cL_law 464 = .ok (.aload_n 0, 1) := by decide +kernel
theorem dL_law_465 : decode cL_law 465 = .ok (.iload 4, 2) := by decide +kernel
theorem dL_law_467 : decode cL_law 467 = .ok (.iconst 1, 1) := by decide +kernel
theorem dL_law_468 : decode cL_law 468 = .ok (.iadd, 1) := by decide +kernel
theorem dL_law_469 : decode cL_law 469 = .ok (.iaload, 1) := by decide +kernel
theorem dL_law_470 : decode cL_law 470 = .ok (.aload_n 0, 1) := by decide +kernel
theorem dL_law_471 : decode cL_law 471 = .ok (.iload 4, 2) := by decide +kernel
theorem dL_law_473 : decode cL_law 473 = .ok (.iconst 2, 1) := by decide +kernel
theorem dL_law_474 : decode cL_law 474 = .ok (.iadd, 1) := by decide +kernel
theorem dL_law_475 : decode cL_law 475 = .ok (.iaload, 1) := by decide +kernel
theorem dL_law_476 : decode cL_law 476 = .ok (.aload_n 0, 1) := by decide +kernel
theorem dL_law_477 : decode cL_law 477 = .ok (.iload 4, 2) := by decide +kernel
theorem dL_law_479 : decode cL_law 479 = .ok (.iconst 3, 1) := by decide +kernel
theorem dL_law_480 : decode cL_law 480 = .ok (.iadd, 1) := by decide +kernel
theorem dL_law_481 : decode cL_law 481 = .ok (.iaload, 1) := by decide +kernel
theorem dL_law_482 : decode cL_law 482 = .ok (.aload_n 0, 1) := by decide +kernel
theorem dL_law_483 : decode cL_law 483 = .ok (.iload 4, 2) := by decide +kernel
theorem dL_law_485 : decode cL_law 485 = .ok (.iconst 4, 1) := by decide +kernel
theorem dL_law_486 : decode cL_law 486 = .ok (.iadd, 1) := by decide +kernel
theorem dL_law_487 : decode cL_law 487 = .ok (.iaload, 1) := by decide +kernel
theorem dL_law_488 : decode cL_law 488 = .ok (.invokevirtual 136, 3) := by decide +kernel
theorem dL_law_491 : decode cL_law 491 = .ok (.istore 6, 2) := by decide +kernel
theorem dL_law_493 : decode cL_law 493 = .ok (.aload_n 2, 1) := by decide +kernel
theorem dL_law_494 : decode cL_law 494 = .ok (.invokevirtual 118, 3) := by decide +kernel
theorem dL_law_497 : decode cL_law 497 = .ok (.iload 5, 2) := by decide +kernel
theorem dL_law_499 : decode cL_law 499 = .ok (.if_icmp .eq 5, 3) := by decide +kernel
theorem dL_law_502 : decode cL_law 502 = .ok (.iconst 0, 1) := by decide +kernel
theorem dL_law_503 : decode cL_law 503 = .ok (.ireturn, 1) := by decide +kernel
theorem dL_law_504 : decode cL_law 504 = .ok (.iload 5, 2) := by decide +kernel
theorem dL_law_506 : decode cL_law 506 = .ok (.ifCond .ne 22, 3) := by decide +kernel
theorem dL_law_509 : decode cL_law 509 = .ok (.aload_n 3, 1) := by decide +kernel
theorem dL_law_510 : decode cL_law 510 = .ok (.iconst 0, 1) := by decide +kernel
theorem dL_law_511 : decode cL_law 511 = .ok (.laload, 1) := by decide +kernel
theorem dL_law_512 : decode cL_law 512 = .ok (.iload 6, 2) := by decide +kernel
theorem dL_law_514 : decode cL_law 514 = .ok (.ifCond .eq 7, 3) := by decide +kernel
theorem dL_law_517 : decode cL_law 517 = .ok (.lconst 1, 1) := by decide +kernel
theorem dL_law_518 : decode cL_law 518 = .ok (.goto 4, 3) := by decide +kernel
theorem dL_law_521 : decode cL_law 521 = .ok (.lconst 0, 1) := by decide +kernel
theorem dL_law_522 : decode cL_law 522 = .ok (.lcmp, 1) := by decide +kernel
theorem dL_law_523 : decode cL_law 523 = .ok (.ifCond .eq 5, 3) := by decide +kernel
theorem dL_law_526 : decode cL_law 526 = .ok (.iconst 0, 1) := by decide +kernel
theorem dL_law_527 : decode cL_law 527 = .ok (.ireturn, 1) := by decide +kernel
theorem dL_law_528 : decode cL_law 528 = .ok (.goto 1596, 3) := by decide +kernel
theorem dL_law_531 : decode cL_law 531 = .ok (.aload_n 1, 1) := by decide +kernel
theorem dL_law_532 : decode cL_law 532 = .ok (.aload_n 0, 1) := by decide +kernel
theorem dL_law_533 : decode cL_law 533 = .ok (.iload 4, 2) := by decide +kernel
theorem dL_law_535 : decode cL_law 535 = .ok (.iconst 1, 1) := by decide +kernel
theorem dL_law_536 : decode cL_law 536 = .ok (.iadd, 1) := by decide +kernel
theorem dL_law_537 : decode cL_law 537 = .ok (.iaload, 1) := by decide +kernel
theorem dL_law_538 : decode cL_law 538 = .ok (.aload_n 0, 1) := by decide +kernel
theorem dL_law_539 : decode cL_law 539 = .ok (.iload 4, 2) := by decide +kernel
theorem dL_law_541 : decode cL_law 541 = .ok (.iconst 2, 1) := by decide +kernel
theorem dL_law_542 : decode cL_law 542 = .ok (.iadd, 1) := by decide +kernel
theorem dL_law_543 : decode cL_law 543 = .ok (.iaload, 1) := by decide +kernel
theorem dL_law_544 : decode cL_law 544 = .ok (.aload_n 0, 1) := by decide +kernel
theorem dL_law_545 : decode cL_law 545 = .ok (.iload 4, 2) := by decide +kernel
theorem dL_law_547 : decode cL_law 547 = .ok (.iconst 3, 1) := by decide +kernel
theorem dL_law_548 : decode cL_law 548 = .ok (.iadd, 1) := by decide +kernel
theorem dL_law_549 : decode cL_law 549 = .ok (.iaload, 1) := by decide +kernel
theorem dL_law_550 : decode cL_law 550 = .ok (.aload_n 3, 1) := by decide +kernel
theorem dL_law_551 : decode cL_law 551 = .ok (.invokestatic 137, 3) := by decide +kernel
theorem dL_law_554 : decode cL_law 554 = .ok (.istore 5, 2) := by decide +kernel
theorem dL_law_556 : decode cL_law 556 = .ok (.aload_n 2, 1) := by decide +kernel
theorem dL_law_557 : decode cL_law 557 = .ok (.aload_n 0, 1) := by decide +kernel
theorem dL_law_558 : decode cL_law 558 = .ok (.iload 4, 2) := by decide +kernel
theorem dL_law_560 : decode cL_law 560 = .ok (.iconst 1, 1) := by decide +kernel
theorem dL_law_561 : decode cL_law 561 = .ok (.iadd, 1) := by decide +kernel
theorem dL_law_562 : decode cL_law 562 = .ok (.iaload, 1) := by decide +kernel
theorem dL_law_563 : decode cL_law 563 = .ok (.aload_n 0, 1) := by decide +kernel
theorem dL_law_564 : decode cL_law 564 = .ok (.iload 4, 2) := by decide +kernel
theorem dL_law_566 : decode cL_law 566 = .ok (.iconst 2, 1) := by decide +kernel
theorem dL_law_567 : decode cL_law 567 = .ok (.iadd, 1) := by decide +kernel
theorem dL_law_568 : decode cL_law 568 = .ok (.iaload, 1) := by decide +kernel
theorem dL_law_569 : decode cL_law 569 = .ok (.aload_n 0, 1) := by decide +kernel
theorem dL_law_570 : decode cL_law 570 = .ok (.iload 4, 2) := by decide +kernel
theorem dL_law_572 : decode cL_law 572 = .ok (.iconst 3, 1) := by decide +kernel
theorem dL_law_573 : decode cL_law 573 = .ok (.iadd, 1) := by decide +kernel
theorem dL_law_574 : decode cL_law 574 = .ok (.iaload, 1) := by decide +kernel
theorem dL_law_575 : decode cL_law 575 = .ok (.invokevirtual 139, 3) := by decide +kernel
theorem dL_law_578 : decode cL_law 578 = .ok (.istore 6, 2) := by decide +kernel
theorem dL_law_580 : decode cL_law 580 = .ok (.aload_n 2, 1) := by decide +kernel
theorem dL_law_581 : decode cL_law 581 = .ok (.invokevirtual 118, 3) := by decide +kernel
theorem dL_law_584 : decode cL_law 584 = .ok (.iload 5, 2) := by decide +kernel
theorem dL_law_586 : decode cL_law 586 = .ok (.if_icmp .eq 5, 3) := by decide +kernel
theorem dL_law_589 : decode cL_law 589 = .ok (.iconst 0, 1) := by decide +kernel
theorem dL_law_590 : decode cL_law 590 = .ok (.ireturn, 1) := by decide +kernel
theorem dL_law_591 : decode cL_law 591 = .ok (.iload 5, 2) := by decide +kernel
theorem dL_law_593 : decode cL_law 593 = .ok (.ifCond .ne 15, 3) := by decide +kernel
theorem dL_law_596 : decode cL_law 596 = .ok (.aload_n 3, 1) := by decide +kernel
theorem dL_law_597 : decode cL_law 597 = .ok (.iconst 0, 1) := by decide +kernel
theorem dL_law_598 : decode cL_law 598 = .ok (.laload, 1) := by decide +kernel
theorem dL_law_599 : decode cL_law 599 = .ok (.iload 6, 2) := by decide +kernel
theorem dL_law_601 : decode cL_law 601 = .ok (.i2l, 1) := by decide +kernel
theorem dL_law_602 : decode cL_law 602 = .ok (.lcmp, 1) := by decide +kernel
theorem dL_law_603 : decode cL_law 603 = .ok (.ifCond .eq 5, 3) := by decide +kernel
theorem dL_law_606 : decode cL_law 606 = .ok (.iconst 0, 1) := by decide +kernel
theorem dL_law_607 : decode cL_law 607 = .ok (.ireturn, 1) := by decide +kernel
theorem dL_law_608 : decode cL_law 608 = .ok (.goto 1516, 3) := by decide +kernel
theorem dL_law_611 : decode cL_law 611 = .ok (.aload_n 1, 1) := by decide +kernel
theorem dL_law_612 : decode cL_law 612 = .ok (.aload_n 0, 1) := by decide +kernel
theorem dL_law_613 : decode cL_law 613 = .ok (.iload 4, 2) := by decide +kernel
theorem dL_law_615 : decode cL_law 615 = .ok (.iconst 1, 1) := by decide +kernel
theorem dL_law_616 : decode cL_law 616 = .ok (.iadd, 1) := by decide +kernel
theorem dL_law_617 : decode cL_law 617 = .ok (.iaload, 1) := by decide +kernel
theorem dL_law_618 : decode cL_law 618 = .ok (.aload_n 0, 1) := by decide +kernel
theorem dL_law_619 : decode cL_law 619 = .ok (.iload 4, 2) := by decide +kernel
theorem dL_law_621 : decode cL_law 621 = .ok (.iconst 2, 1) := by decide +kernel
theorem dL_law_622 : decode cL_law 622 = .ok (.iadd, 1) := by decide +kernel
theorem dL_law_623 : decode cL_law 623 = .ok (.iaload, 1) := by decide +kernel
theorem dL_law_624 : decode cL_law 624 = .ok (.aload_n 3, 1) := by decide +kernel
theorem dL_law_625 : decode cL_law 625 = .ok (.invokestatic 140, 3) := by decide +kernel
theorem dL_law_628 : decode cL_law 628 = .ok (.istore 5, 2) := by decide +kernel
theorem dL_law_630 : decode cL_law 630 = .ok (.aload_n 2, 1) := by decide +kernel
theorem dL_law_631 : decode cL_law 631 = .ok (.aload_n 0, 1) := by decide +kernel
theorem dL_law_632 : decode cL_law 632 = .ok (.iload 4, 2) := by decide +kernel
theorem dL_law_634 : decode cL_law 634 = .ok (.iconst 1, 1) := by decide +kernel
theorem dL_law_635 : decode cL_law 635 = .ok (.iadd, 1) := by decide +kernel
theorem dL_law_636 : decode cL_law 636 = .ok (.iaload, 1) := by decide +kernel
theorem dL_law_637 : decode cL_law 637 = .ok (.aload_n 0, 1) := by decide +kernel
theorem dL_law_638 : decode cL_law 638 = .ok (.iload 4, 2) := by decide +kernel
theorem dL_law_640 : decode cL_law 640 = .ok (.iconst 2, 1) := by decide +kernel
theorem dL_law_641 : decode cL_law 641 = .ok (.iadd, 1) := by decide +kernel
theorem dL_law_642 : decode cL_law 642 = .ok (.iaload, 1) := by decide +kernel
theorem dL_law_643 : decode cL_law 643 = .ok (.invokevirtual 142, 3) := by decide +kernel
theorem dL_law_646 : decode cL_law 646 = .ok (.istore 6, 2) := by decide +kernel
theorem dL_law_648 : decode cL_law 648 = .ok (.aload_n 2, 1) := by decide +kernel
theorem dL_law_649 : decode cL_law 649 = .ok (.invokevirtual 118, 3) := by decide +kernel
theorem dL_law_652 : decode cL_law 652 = .ok (.iload 5, 2) := by decide +kernel
theorem dL_law_654 : decode cL_law 654 = .ok (.if_icmp .eq 5, 3) := by decide +kernel
theorem dL_law_657 : decode cL_law 657 = .ok (.iconst 0, 1) := by decide +kernel
theorem dL_law_658 : decode cL_law 658 = .ok (.ireturn, 1) := by decide +kernel
theorem dL_law_659 : decode cL_law 659 = .ok (.iload 5, 2) := by decide +kernel
theorem dL_law_661 : decode cL_law 661 = .ok (.ifCond .ne 15, 3) := by decide +kernel
theorem dL_law_664 : decode cL_law 664 = .ok (.aload_n 3, 1) := by decide +kernel
theorem dL_law_665 : decode cL_law 665 = .ok (.iconst 0, 1) := by decide +kernel
theorem dL_law_666 : decode cL_law 666 = .ok (.laload, 1) := by decide +kernel
theorem dL_law_667 : decode cL_law 667 = .ok (.iload 6, 2) := by decide +kernel
theorem dL_law_669 : decode cL_law 669 = .ok (.i2l, 1) := by decide +kernel
theorem dL_law_670 : decode cL_law 670 = .ok (.lcmp, 1) := by decide +kernel
theorem dL_law_671 : decode cL_law 671 = .ok (.ifCond .eq 5, 3) := by decide +kernel
theorem dL_law_674 : decode cL_law 674 = .ok (.iconst 0, 1) := by decide +kernel
theorem dL_law_675 : decode cL_law 675 = .ok (.ireturn, 1) := by decide +kernel
theorem dL_law_676 : decode cL_law 676 = .ok (.goto 1448, 3) := by decide +kernel
theorem dL_law_679 : decode cL_law 679 = .ok (.aload_n 1, 1) := by decide +kernel
theorem dL_law_680 : decode cL_law 680 = .ok (.aload_n 0, 1) := by decide +kernel
theorem dL_law_681 : decode cL_law 681 = .ok (.iload 4, 2) := by decide +kernel
theorem dL_law_683 : decode cL_law 683 = .ok (.iconst 1, 1) := by decide +kernel
theorem dL_law_684 : decode cL_law 684 = .ok (.iadd, 1) := by decide +kernel
theorem dL_law_685 : decode cL_law 685 = .ok (.iaload, 1) := by decide +kernel
theorem dL_law_686 : decode cL_law 686 = .ok (.aload_n 0, 1) := by decide +kernel
theorem dL_law_687 : decode cL_law 687 = .ok (.iload 4, 2) := by decide +kernel
theorem dL_law_689 : decode cL_law 689 = .ok (.iconst 2, 1) := by decide +kernel
theorem dL_law_690 : decode cL_law 690 = .ok (.iadd, 1) := by decide +kernel
theorem dL_law_691 : decode cL_law 691 = .ok (.iaload, 1) := by decide +kernel
theorem dL_law_692 : decode cL_law 692 = .ok (.aload_n 0, 1) := by decide +kernel
theorem dL_law_693 : decode cL_law 693 = .ok (.iload 4, 2) := by decide +kernel
theorem dL_law_695 : decode cL_law 695 = .ok (.iconst 3, 1) := by decide +kernel
theorem dL_law_696 : decode cL_law 696 = .ok (.iadd, 1) := by decide +kernel
theorem dL_law_697 : decode cL_law 697 = .ok (.iaload, 1) := by decide +kernel
theorem dL_law_698 : decode cL_law 698 = .ok (.aload_n 3, 1) := by decide +kernel
theorem dL_law_699 : decode cL_law 699 = .ok (.invokestatic 143, 3) := by decide +kernel
theorem dL_law_702 : decode cL_law 702 = .ok (.istore 5, 2) := by decide +kernel
theorem dL_law_704 : decode cL_law 704 = .ok (.aload_n 2, 1) := by decide +kernel
theorem dL_law_705 : decode cL_law 705 = .ok (.aload_n 0, 1) := by decide +kernel
theorem dL_law_706 : decode cL_law 706 = .ok (.iload 4, 2) := by decide +kernel
theorem dL_law_708 : decode cL_law 708 = .ok (.iconst 1, 1) := by decide +kernel
theorem dL_law_709 : decode cL_law 709 = .ok (.iadd, 1) := by decide +kernel
theorem dL_law_710 : decode cL_law 710 = .ok (.iaload, 1) := by decide +kernel
theorem dL_law_711 : decode cL_law 711 = .ok (.aload_n 0, 1) := by decide +kernel
theorem dL_law_712 : decode cL_law 712 = .ok (.iload 4, 2) := by decide +kernel
theorem dL_law_714 : decode cL_law 714 = .ok (.iconst 2, 1) := by decide +kernel
theorem dL_law_715 : decode cL_law 715 = .ok (.iadd, 1) := by decide +kernel
theorem dL_law_716 : decode cL_law 716 = .ok (.iaload, 1) := by decide +kernel
theorem dL_law_717 : decode cL_law 717 = .ok (.aload_n 0, 1) := by decide +kernel
theorem dL_law_718 : decode cL_law 718 = .ok (.iload 4, 2) := by decide +kernel
theorem dL_law_720 : decode cL_law 720 = .ok (.iconst 3, 1) := by decide +kernel
theorem dL_law_721 : decode cL_law 721 = .ok (.iadd, 1) := by decide +kernel
theorem dL_law_722 : decode cL_law 722 = .ok (.iaload, 1) := by decide +kernel
theorem dL_law_723 : decode cL_law 723 = .ok (.invokevirtual 145, 3) := by decide +kernel
theorem dL_law_726 : decode cL_law 726 = .ok (.istore 6, 2) := by decide +kernel
theorem dL_law_728 : decode cL_law 728 = .ok (.aload_n 2, 1) := by decide +kernel
theorem dL_law_729 : decode cL_law 729 = .ok (.invokevirtual 118, 3) := by decide +kernel
theorem dL_law_732 : decode cL_law 732 = .ok (.iload 5, 2) := by decide +kernel
theorem dL_law_734 : decode cL_law 734 = .ok (.if_icmp .eq 5, 3) := by decide +kernel
theorem dL_law_737 : decode cL_law 737 = .ok (.iconst 0, 1) := by decide +kernel
theorem dL_law_738 : decode cL_law 738 = .ok (.ireturn, 1) := by decide +kernel
theorem dL_law_739 : decode cL_law 739 = .ok (.iload 5, 2) := by decide +kernel
theorem dL_law_741 : decode cL_law 741 = .ok (.ifCond .ne 15, 3) := by decide +kernel
theorem dL_law_744 : decode cL_law 744 = .ok (.aload_n 3, 1) := by decide +kernel
theorem dL_law_745 : decode cL_law 745 = .ok (.iconst 0, 1) := by decide +kernel
theorem dL_law_746 : decode cL_law 746 = .ok (.laload, 1) := by decide +kernel
theorem dL_law_747 : decode cL_law 747 = .ok (.iload 6, 2) := by decide +kernel
theorem dL_law_749 : decode cL_law 749 = .ok (.i2l, 1) := by decide +kernel
theorem dL_law_750 : decode cL_law 750 = .ok (.lcmp, 1) := by decide +kernel
theorem dL_law_751 : decode cL_law 751 = .ok (.ifCond .eq 5, 3) := by decide +kernel
theorem dL_law_754 : decode cL_law 754 = .ok (.iconst 0, 1) := by decide +kernel
theorem dL_law_755 : decode cL_law 755 = .ok (.ireturn, 1) := by decide +kernel
theorem dL_law_756 : decode cL_law 756 = .ok (.goto 1368, 3) := by decide +kernel
theorem dL_law_759 : decode cL_law 759 = .ok (.aload_n 1, 1) := by decide +kernel
theorem dL_law_760 : decode cL_law 760 = .ok (.aload_n 0, 1) := by decide +kernel
theorem dL_law_761 : decode cL_law 761 = .ok (.iload 4, 2) := by decide +kernel
theorem dL_law_763 : decode cL_law 763 = .ok (.iconst 1, 1) := by decide +kernel
theorem dL_law_764 : decode cL_law 764 = .ok (.iadd, 1) := by decide +kernel
theorem dL_law_765 : decode cL_law 765 = .ok (.iaload, 1) := by decide +kernel
theorem dL_law_766 : decode cL_law 766 = .ok (.aload_n 3, 1) := by decide +kernel
theorem dL_law_767 : decode cL_law 767 = .ok (.invokestatic 146, 3) := by decide +kernel
theorem dL_law_770 : decode cL_law 770 = .ok (.istore 5, 2) := by decide +kernel
theorem dL_law_772 : decode cL_law 772 = .ok (.aload_n 2, 1) := by decide +kernel
theorem dL_law_773 : decode cL_law 773 = .ok (.aload_n 0, 1) := by decide +kernel
theorem dL_law_774 : decode cL_law 774 = .ok (.iload 4, 2) := by decide +kernel
theorem dL_law_776 : decode cL_law 776 = .ok (.iconst 1, 1) := by decide +kernel
theorem dL_law_777 : decode cL_law 777 = .ok (.iadd, 1) := by decide +kernel
theorem dL_law_778 : decode cL_law 778 = .ok (.iaload, 1) := by decide +kernel
theorem dL_law_779 : decode cL_law 779 = .ok (.invokevirtual 148, 3) := by decide +kernel
theorem dL_law_782 : decode cL_law 782 = .ok (.istore 6, 2) := by decide +kernel
theorem dL_law_784 : decode cL_law 784 = .ok (.aload_n 2, 1) := by decide +kernel
theorem dL_law_785 : decode cL_law 785 = .ok (.invokevirtual 118, 3) := by decide +kernel
theorem dL_law_788 : decode cL_law 788 = .ok (.iload 5, 2) := by decide +kernel
theorem dL_law_790 : decode cL_law 790 = .ok (.if_icmp .eq 5, 3) := by decide +kernel
theorem dL_law_793 : decode cL_law 793 = .ok (.iconst 0, 1) := by decide +kernel
end
section
theorem dL_law_794 : decode cL_law 794 = .ok (.ireturn, 1) := by decide +kernel
theorem dL_law_795 : decode cL_law 795 = .ok (.iload 5, 2) := by decide +kernel
theorem dL_law_797 : decode cL_law 797 = .ok (.ifCond .ne 15, 3) := by decide +kernel
theorem dL_law_800 : decode cL_law 800 = .ok (.aload_n 3, 1) := by decide +kernel
theorem dL_law_801 : decode cL_law 801 = .ok (.iconst 0, 1) := by decide +kernel
theorem dL_law_802 : decode cL_law 802 = .ok (.laload, 1) := by decide +kernel
theorem dL_law_803 : decode cL_law 803 = .ok (.iload 6, 2) := by decide +kernel
theorem dL_law_805 : decode cL_law 805 = .ok (.i2l, 1) := by decide +kernel
theorem dL_law_806 : decode cL_law 806 = .ok (.lcmp, 1) := by decide +kernel
theorem dL_law_807 : decode cL_law 807 = .ok (.ifCond .eq 5, 3) := by decide +kernel
theorem dL_law_810 : decode cL_law 810 = .ok (.iconst 0, 1) := by decide +kernel
theorem dL_law_811 : decode cL_law 811 = .ok (.ireturn, 1) := by decide +kernel
theorem dL_law_812 : decode cL_law 812 = .ok (.goto 1312, 3) := by decide +kernel
theorem dL_law_815 : decode cL_law 815 = .ok (.aload_n 1, 1) := by decide +kernel
theorem dL_law_816 : decode cL_law 816 = .ok (.aload_n 0, 1) := by decide +kernel
theorem dL_law_817 : decode cL_law 817 = .ok (.iload 4, 2) := by decide +kernel
theorem dL_law_819 : decode cL_law 819 = .ok (.iconst 1, 1) := by decide +kernel
theorem dL_law_820 : decode cL_law 820 = .ok (.iadd, 1) := by decide +kernel
theorem dL_law_821 : decode cL_law 821 = .ok (.iaload, 1) := by decide +kernel
theorem dL_law_822 : decode cL_law 822 = .ok (.aload_n 0, 1) := by decide +kernel
theorem dL_law_823 : decode cL_law 823 = .ok (.iload 4, 2) := by decide +kernel
theorem dL_law_825 : decode cL_law 825 = .ok (.iconst 2, 1) := by decide +kernel
theorem dL_law_826 : decode cL_law 826 = .ok (.iadd, 1) := by decide +kernel
theorem dL_law_827 : decode cL_law 827 = .ok (.iaload, 1) := by decide +kernel
theorem dL_law_828 : decode cL_law 828 = .ok (.aload_n 0, 1) := by decide +kernel
theorem dL_law_829 : decode cL_law 829 = .ok (.iload 4, 2) := by decide +kernel
theorem dL_law_831 : decode cL_law 831 = .ok (.iconst 3, 1) := by decide +kernel
theorem dL_law_832 : decode cL_law 832 = .ok (.iadd, 1) := by decide +kernel
theorem dL_law_833 : decode cL_law 833 = .ok (.iaload, 1) := by decide +kernel
theorem dL_law_834 : decode cL_law 834 = .ok (.aload_n 3, 1) := by decide +kernel
theorem dL_law_835 : decode cL_law 835 = .ok (.invokestatic 149, 3) := by decide +kernel
theorem dL_law_838 : decode cL_law 838 = .ok (.istore 5, 2) := by decide +kernel
theorem dL_law_840 : decode cL_law 840 = .ok (.aload_n 2, 1) := by decide +kernel
theorem dL_law_841 : decode cL_law 841 = .ok (.aload_n 0, 1) := by decide +kernel
theorem dL_law_842 : decode cL_law 842 = .ok (.iload 4, 2) := by decide +kernel
theorem dL_law_844 : decode cL_law 844 = .ok (.iconst 1, 1) := by decide +kernel
theorem dL_law_845 : decode cL_law 845 = .ok (.iadd, 1) := by decide +kernel
theorem dL_law_846 : decode cL_law 846 = .ok (.iaload, 1) := by decide +kernel
theorem dL_law_847 : decode cL_law 847 = .ok (.aload_n 0, 1) := by decide +kernel
theorem dL_law_848 : decode cL_law 848 = .ok (.iload 4, 2) := by decide +kernel
theorem dL_law_850 : decode cL_law 850 = .ok (.iconst 2, 1) := by decide +kernel
theorem dL_law_851 : decode cL_law 851 = .ok (.iadd, 1) := by decide +kernel
theorem dL_law_852 : decode cL_law 852 = .ok (.iaload, 1) := by decide +kernel
theorem dL_law_853 : decode cL_law 853 = .ok (.aload_n 0, 1) := by decide +kernel
theorem dL_law_854 : decode cL_law 854 = .ok (.iload 4, 2) := by decide +kernel
theorem dL_law_856 : decode cL_law 856 = .ok (.iconst 3, 1) := by decide +kernel
theorem dL_law_857 : decode cL_law 857 = .ok (.iadd, 1) := by decide +kernel
theorem dL_law_858 : decode cL_law 858 = .ok (.iaload, 1) := by decide +kernel
theorem dL_law_859 : decode cL_law 859 = .ok (.invokevirtual 151, 3) := by decide +kernel
theorem dL_law_862 : decode cL_law 862 = .ok (.istore 6, 2) := by decide +kernel
theorem dL_law_864 : decode cL_law 864 = .ok (.aload_n 2, 1) := by decide +kernel
theorem dL_law_865 : decode cL_law 865 = .ok (.invokevirtual 118, 3) := by decide +kernel
theorem dL_law_868 : decode cL_law 868 = .ok (.iload 5, 2) := by decide +kernel
theorem dL_law_870 : decode cL_law 870 = .ok (.if_icmp .eq 5, 3) := by decide +kernel
theorem dL_law_873 : decode cL_law 873 = .ok (.iconst 0, 1) := by decide +kernel
theorem dL_law_874 : decode cL_law 874 = .ok (.ireturn, 1) := by decide +kernel
theorem dL_law_875 : decode cL_law 875 = .ok (.iload 5, 2) := by decide +kernel
theorem dL_law_877 : decode cL_law 877 = .ok (.ifCond .ne 15, 3) := by decide +kernel
theorem dL_law_880 : decode cL_law 880 = .ok (.aload_n 3, 1) := by decide +kernel
theorem dL_law_881 : decode cL_law 881 = .ok (.iconst 0, 1) := by decide +kernel
theorem dL_law_882 : decode cL_law 882 = .ok (.laload, 1) := by decide +kernel
theorem dL_law_883 : decode cL_law 883 = .ok (.iload 6, 2) := by decide +kernel
theorem dL_law_885 : decode cL_law 885 = .ok (.i2l, 1) := by decide +kernel
theorem dL_law_886 : decode cL_law 886 = .ok (.lcmp, 1) := by decide +kernel
theorem dL_law_887 : decode cL_law 887 = .ok (.ifCond .eq 5, 3) := by decide +kernel
theorem dL_law_890 : decode cL_law 890 = .ok (.iconst 0, 1) := by decide +kernel
theorem dL_law_891 : decode cL_law 891 = .ok (.ireturn, 1) := by decide +kernel
theorem dL_law_892 : decode cL_law 892 = .ok (.goto 1232, 3) := by decide +kernel
theorem dL_law_895 : decode cL_law 895 = .ok (.aload_n 1, 1) := by decide +kernel
theorem dL_law_896 : decode cL_law 896 = .ok (.aload_n 0, 1) := by decide +kernel
theorem dL_law_897 : decode cL_law 897 = .ok (.iload 4, 2) := by decide +kernel
theorem dL_law_899 : decode cL_law 899 = .ok (.iconst 1, 1) := by decide +kernel
theorem dL_law_900 : decode cL_law 900 = .ok (.iadd, 1) := by decide +kernel
theorem dL_law_901 : decode cL_law 901 = .ok (.iaload, 1) := by decide +kernel
theorem dL_law_902 : decode cL_law 902 = .ok (.aload_n 0, 1) := by decide +kernel
theorem dL_law_903 : decode cL_law 903 = .ok (.iload 4, 2) := by decide +kernel
theorem dL_law_905 : decode cL_law 905 = .ok (.iconst 2, 1) := by decide +kernel
theorem dL_law_906 : decode cL_law 906 = .ok (.iadd, 1) := by decide +kernel
theorem dL_law_907 : decode cL_law 907 = .ok (.iaload, 1) := by decide +kernel
theorem dL_law_908 : decode cL_law 908 = .ok (.aload_n 3, 1) := by decide +kernel
theorem dL_law_909 : decode cL_law 909 = .ok (.invokestatic 152, 3) := by decide +kernel
theorem dL_law_912 : decode cL_law 912 = .ok (.istore 5, 2) := by decide +kernel
theorem dL_law_914 : decode cL_law 914 = .ok (.aload_n 2, 1) := by decide +kernel
theorem dL_law_915 : decode cL_law 915 = .ok (.aload_n 0, 1) := by decide +kernel
theorem dL_law_916 : decode cL_law 916 = .ok (.iload 4, 2) := by decide +kernel
theorem dL_law_918 : decode cL_law 918 = .ok (.iconst 1, 1) := by decide +kernel
theorem dL_law_919 : decode cL_law 919 = .ok (.iadd, 1) := by decide +kernel
theorem dL_law_920 : decode cL_law 920 = .ok (.iaload, 1) := by decide +kernel
theorem dL_law_921 : decode cL_law 921 = .ok (.aload_n 0, 1) := by decide +kernel
theorem dL_law_922 : decode cL_law 922 = .ok (.iload 4, 2) := by decide +kernel
theorem dL_law_924 : decode cL_law 924 = .ok (.iconst 2, 1) := by decide +kernel
theorem dL_law_925 : decode cL_law 925 = .ok (.iadd, 1) := by decide +kernel
theorem dL_law_926 : decode cL_law 926 = .ok (.iaload, 1) := by decide +kernel
theorem dL_law_927 : decode cL_law 927 = .ok (.invokevirtual 154, 3) := by decide +kernel
theorem dL_law_930 : decode cL_law 930 = .ok (.istore 6, 2) := by decide +kernel
theorem dL_law_932 : decode cL_law 932 = .ok (.aload_n 2, 1) := by decide +kernel
theorem dL_law_933 : decode cL_law 933 = .ok (.invokevirtual 118, 3) := by decide +kernel
theorem dL_law_936 : decode cL_law 936 = .ok (.iload 5, 2) := by decide +kernel
theorem dL_law_938 : decode cL_law 938 = .ok (.if_icmp .eq 5, 3) := by decide +kernel
theorem dL_law_941 : decode cL_law 941 = .ok (.iconst 0, 1) := by decide +kernel
theorem dL_law_942 : decode cL_law 942 = .ok (.ireturn, 1) := by decide +kernel
theorem dL_law_943 : decode cL_law 943 = .ok (.iload 5, 2) := by decide +kernel
theorem dL_law_945 : decode cL_law 945 = .ok (.ifCond .ne 15, 3) := by decide +kernel
theorem dL_law_948 : decode cL_law 948 = .ok (.aload_n 3, 1) := by decide +kernel
theorem dL_law_949 : decode cL_law 949 = .ok (.iconst 0, 1) := by decide +kernel
theorem dL_law_950 : decode cL_law 950 = .ok (.laload, 1) := by decide +kernel
theorem dL_law_951 : decode cL_law 951 = .ok (.iload 6, 2) := by decide +kernel
theorem dL_law_953 : decode cL_law 953 = .ok (.i2l, 1) := by decide +kernel
theorem dL_law_954 : decode cL_law 954 = .ok (.lcmp, 1) := by decide +kernel
theorem dL_law_955 : decode cL_law 955 = .ok (.ifCond .eq 5, 3) := by decide +kernel
theorem dL_law_958 : decode cL_law 958 = .ok (.iconst 0, 1) := by decide +kernel
theorem dL_law_959 : decode cL_law 959 = .ok (.ireturn, 1) := by decide +kernel
theorem dL_law_960 : decode cL_law 960 = .ok (.goto 1164, 3) := by decide +kernel
theorem dL_law_963 : decode cL_law 963 = .ok (.aload_n 1, 1) := by decide +kernel
theorem dL_law_964 : decode cL_law 964 = .ok (.aload_n 0, 1) := by decide +kernel
theorem dL_law_965 : decode cL_law 965 = .ok (.iload 4, 2) := by decide +kernel
theorem dL_law_967 : decode cL_law 967 = .ok (.iconst 1, 1) := by decide +kernel
theorem dL_law_968 : decode cL_law 968 = .ok (.iadd, 1) := by decide +kernel
theorem dL_law_969 : decode cL_law 969 = .ok (.iaload, 1) := by decide +kernel
theorem dL_law_970 : decode cL_law 970 = .ok (.aload_n 0, 1) := by decide +kernel
theorem dL_law_971 : decode cL_law 971 = .ok (.iload 4, 2) := by decide +kernel
theorem dL_law_973 : decode cL_law 973 = .ok (.iconst 2, 1) := by decide +kernel
theorem dL_law_974 : decode cL_law 974 = .ok (.iadd, 1) := by decide +kernel
theorem dL_law_975 : decode cL_law 975 = .ok (.iaload, 1) := by decide +kernel
theorem dL_law_976 : decode cL_law 976 = .ok (.aload_n 3, 1) := by decide +kernel
theorem dL_law_977 : decode cL_law 977 = .ok (.invokestatic 155, 3) := by decide +kernel
theorem dL_law_980 : decode cL_law 980 = .ok (.istore 5, 2) := by decide +kernel
theorem dL_law_982 : decode cL_law 982 = .ok (.aload_n 2, 1) := by decide +kernel
theorem dL_law_983 : decode cL_law 983 = .ok (.aload_n 0, 1) := by decide +kernel
theorem dL_law_984 : decode cL_law 984 = .ok (.iload 4, 2) := by decide +kernel
theorem dL_law_986 : decode cL_law 986 = .ok (.iconst 1, 1) := by decide +kernel
theorem dL_law_987 : decode cL_law 987 = .ok (.iadd, 1) := by decide +kernel
theorem dL_law_988 : decode cL_law 988 = .ok (.iaload, 1) := by decide +kernel
theorem dL_law_989 : decode cL_law 989 = .ok (.aload_n 0, 1) := by decide +kernel
theorem dL_law_990 : decode cL_law 990 = .ok (.iload 4, 2) := by decide +kernel
theorem dL_law_992 : decode cL_law 992 = .ok (.iconst 2, 1) := by decide +kernel
theorem dL_law_993 : decode cL_law 993 = .ok (.iadd, 1) := by decide +kernel
theorem dL_law_994 : decode cL_law 994 = .ok (.iaload, 1) := by decide +kernel
theorem dL_law_995 : decode cL_law 995 = .ok (.invokevirtual 157, 3) := by decide +kernel
theorem dL_law_998 : decode cL_law 998 = .ok (.istore 6, 2) := by decide +kernel
theorem dL_law_1000 : decode cL_law 1000 = .ok (.aload_n 2, 1) := by decide +kernel
theorem dL_law_1001 : decode cL_law 1001 = .ok (.invokevirtual 118, 3) := by decide +kernel
theorem dL_law_1004 : decode cL_law 1004 = .ok (.iload 5, 2) := by decide +kernel
theorem dL_law_1006 : decode cL_law 1006 = .ok (.if_icmp .eq 5, 3) := by decide +kernel
theorem dL_law_1009 : decode cL_law 1009 = .ok (.iconst 0, 1) := by decide +kernel
theorem dL_law_1010 : decode cL_law 1010 = .ok (.ireturn, 1) := by decide +kernel
theorem dL_law_1011 : decode cL_law 1011 = .ok (.iload 5, 2) := by decide +kernel
theorem dL_law_1013 : decode cL_law 1013 = .ok (.ifCond .ne 15, 3) := by decide +kernel
theorem dL_law_1016 : decode cL_law 1016 = .ok (.aload_n 3, 1) := by decide +kernel
theorem dL_law_1017 : decode cL_law 1017 = .ok (.iconst 0, 1) := by decide +kernel
theorem dL_law_1018 : decode cL_law 1018 = .ok (.laload, 1) := by decide +kernel
theorem dL_law_1019 : decode cL_law 1019 = .ok (.iload 6, 2) := by decide +kernel
theorem dL_law_1021 : decode cL_law 1021 = .ok (.i2l, 1) := by decide +kernel
theorem dL_law_1022 : decode cL_law 1022 = .ok (.lcmp, 1) := by decide +kernel
theorem dL_law_1023 : decode cL_law 1023 = .ok (.ifCond .eq 5, 3) := by decide +kernel
theorem dL_law_1026 : decode cL_law 1026 = .ok (.iconst 0, 1) := by decide +kernel
theorem dL_law_1027 : decode cL_law 1027 = .ok (.ireturn, 1) := by decide +kernel
theorem dL_law_1028 : decode cL_law 1028 = .ok (.goto 1096, 3) := by decide +kernel
theorem dL_law_1031 : decode cL_law 1031 = .ok (.aload_n 1, 1) := by decide +kernel
theorem dL_law_1032 : decode cL_law 1032 = .ok (.aload_n 0, 1) := by decide +kernel
theorem dL_law_1033 : decode cL_law 1033 = .ok (.iload 4, 2) := by decide +kernel
theorem dL_law_1035 : decode cL_law 1035 = .ok (.iconst 1, 1) := by decide +kernel
theorem dL_law_1036 : decode cL_law 1036 = .ok (.iadd, 1) := by decide +kernel
theorem dL_law_1037 : decode cL_law 1037 = .ok (.iaload, 1) := by decide +kernel
theorem dL_law_1038 : decode cL_law 1038 = .ok (.aload_n 3, 1) := by decide +kernel
theorem dL_law_1039 : decode cL_law 1039 = .ok (.invokestatic 158, 3) := by decide +kernel
theorem dL_law_1042 : decode cL_law 1042 = .ok (.istore 5, 2) := by decide +kernel
theorem dL_law_1044 : decode cL_law 1044 = .ok (.aload_n 2, 1) := by decide +kernel
theorem dL_law_1045 : decode cL_law 1045 = .ok (.aload_n 0, 1) := by decide +kernel
theorem dL_law_1046 : decode cL_law 1046 = .ok (.iload 4, 2) := by decide +kernel
theorem dL_law_1048 : decode cL_law 1048 = .ok (.iconst 1, 1) := by decide +kernel
theorem dL_law_1049 : decode cL_law 1049 = .ok (.iadd, 1) := by decide +kernel
theorem dL_law_1050 : decode cL_law 1050 = .ok (.iaload, 1) := by decide +kernel
theorem dL_law_1051 : decode cL_law 1051 = .ok (.invokevirtual 160, 3) := by decide +kernel
theorem dL_law_1054 : decode cL_law 1054 = .ok (.istore 6, 2) := by decide +kernel
theorem dL_law_1056 : decode cL_law 1056 = .ok (.aload_n 2, 1) := by decide +kernel
theorem dL_law_1057 : decode cL_law 1057 = .ok (.invokevirtual 118, 3) := by decide +kernel
theorem dL_law_1060 : decode cL_law 1060 = .ok (.iload 5, 2) := by decide +kernel
theorem dL_law_1062 : decode cL_law 1062 = .ok (.if_icmp .eq 5, 3) := by decide +kernel
theorem dL_law_1065 : decode cL_law 1065 = .ok (.iconst 0, 1) := by decide +kernel
theorem dL_law_1066 : decode cL_law 1066 = .ok (.ireturn, 1) := by decide +kernel
theorem dL_law_1067 : decode cL_law 1067 = .ok (.iload 5, 2) := by decide +kernel
theorem dL_law_1069 : decode cL_law 1069 = .ok (.ifCond .ne 15, 3) := by decide +kernel
theorem dL_law_1072 : decode cL_law 1072 = .ok (.aload_n 3, 1) := by decide +kernel
theorem dL_law_1073 : decode cL_law 1073 = .ok (.iconst 0, 1) := by decide +kernel
theorem dL_law_1074 : decode cL_law 1074 = .ok (.laload, 1) := by decide +kernel
theorem dL_law_1075 : decode cL_law 1075 = .ok (.iload 6, 2) := by decide +kernel
theorem dL_law_1077 : decode cL_law 1077 = .ok (.i2l, 1) := by decide +kernel
theorem dL_law_1078 : decode cL_law 1078 = .ok (.lcmp, 1) := by decide +kernel
theorem dL_law_1079 : decode cL_law 1079 = .ok (.ifCond .eq 5, 3) := by decide +kernel
theorem dL_law_1082 : decode cL_law 1082 = .ok (.iconst 0, 1) := by decide +kernel
theorem dL_law_1083 : decode cL_law 1083 = .ok (.ireturn, 1) := by decide +kernel
theorem dL_law_1084 : decode cL_law 1084 = .ok (.goto 1040, 3) := by decide +kernel
theorem dL_law_1087 : decode cL_law 1087 = .ok (.aload_n 1, 1) := by decide +kernel
theorem dL_law_1088 : decode cL_law 1088 = .ok (.aload_n 0, 1) := by decide +kernel
theorem dL_law_1089 : decode cL_law 1089 = .ok (.iload 4, 2) := by decide +kernel
theorem dL_law_1091 : decode cL_law 1091 = .ok (.iconst 1, 1) := by decide +kernel
theorem dL_law_1092 : decode cL_law 1092 = .ok (.iadd, 1) := by decide +kernel
theorem dL_law_1093 : decode cL_law 1093 = .ok (.iaload, 1) := by decide +kernel
theorem dL_law_1094 : decode cL_law 1094 = .ok (.aload_n 0, 1) := by decide +kernel
theorem dL_law_1095 : decode cL_law 1095 = .ok (.iload 4, 2) := by decide +kernel
theorem dL_law_1097 : decode cL_law 1097 = .ok (.iconst 2, 1) := by decide +kernel
theorem dL_law_1098 : decode cL_law 1098 = .ok (.iadd, 1) := by decide +kernel
theorem dL_law_1099 : decode cL_law 1099 = .ok (.iaload, 1) := by decide +kernel
theorem dL_law_1100 : decode cL_law 1100 = .ok (.invokestatic 161, 3) := by decide +kernel
theorem dL_law_1103 : decode cL_law 1103 = .ok (.istore 5, 2) := by decide +kernel
theorem dL_law_1105 : decode cL_law 1105 = .ok (.aload_n 2, 1) := by decide +kernel
theorem dL_law_1106 : decode cL_law 1106 = .ok (.aload_n 0, 1) := by decide +kernel
theorem dL_law_1107 : decode cL_law 1107 = .ok (.iload 4, 2) := by decide +kernel
theorem dL_law_1109 : decode cL_law 1109 = .ok (.iconst 1, 1) := by decide +kernel
theorem dL_law_1110 : decode cL_law 1110 = .ok (.iadd, 1) := by decide +kernel
theorem dL_law_1111 : decode cL_law 1111 = .ok (.iaload, 1) := by decide +kernel
theorem dL_law_1112 : decode cL_law 1112 = .ok (.aload_n 0, 1) := by decide +kernel
theorem dL_law_1113 : decode cL_law 1113 = .ok (.iload 4, 2) := by decide +kernel
theorem dL_law_1115 : decode cL_law 1115 = .ok (.iconst 2, 1) := by decide +kernel
theorem dL_law_1116 : decode cL_law 1116 = .ok (.iadd, 1) := by decide +kernel
theorem dL_law_1117 : decode cL_law 1117 = .ok (.iaload, 1) := by decide +kernel
theorem dL_law_1118 : decode cL_law 1118 = .ok (.invokevirtual 164, 3) := by decide +kernel
theorem dL_law_1121 : decode cL_law 1121 = .ok (.aload_n 2, 1) := by decide +kernel
theorem dL_law_1122 : decode cL_law 1122 = .ok (.invokevirtual 118, 3) := by decide +kernel
theorem dL_law_1125 : decode cL_law 1125 = .ok (.iload 5, 2) := by decide +kernel
theorem dL_law_1127 : decode cL_law 1127 = .ok (.if_icmp .eq 5, 3) := by decide +kernel
theorem dL_law_1130 : decode cL_law 1130 = .ok (.iconst 0, 1) := by decide +kernel
theorem dL_law_1131 : decode cL_law 1131 = .ok (.ireturn, 1) := by decide +kernel
theorem dL_law_1132 : decode cL_law 1132 = .ok (.goto 992, 3) := by decide +kernel
theorem dL_law_1135 : decode cL_law 1135 = .ok (.aload_n 1, 1) := by decide +kernel
theorem dL_law_1136 : decode cL_law 1136 = .ok (.aload_n 0, 1) := by decide +kernel
theorem dL_law_1137 : decode cL_law 1137 = .ok (.iload 4, 2) := by decide +kernel
theorem dL_law_1139 : decode cL_law 1139 = .ok (.iconst 1, 1) := by decide +kernel
theorem dL_law_1140 : decode cL_law 1140 = .ok (.iadd, 1) := by decide +kernel
theorem dL_law_1141 : decode cL_law 1141 = .ok (.iaload, 1) := by decide +kernel
theorem dL_law_1142 : decode cL_law 1142 = .ok (.aload_n 0, 1) := by decide +kernel
theorem dL_law_1143 : decode cL_law 1143 = .ok (.iload 4, 2) := by decide +kernel
theorem dL_law_1145 : decode cL_law 1145 = .ok (.iconst 2, 1) := by decide +kernel
theorem dL_law_1146 : decode cL_law 1146 = .ok (.iadd, 1) := by decide +kernel
theorem dL_law_1147 : decode cL_law 1147 = .ok (.iaload, 1) := by decide +kernel
theorem dL_law_1148 : decode cL_law 1148 = .ok (.aload_n 3, 1) := by decide +kernel
theorem dL_law_1149 : decode cL_law 1149 = .ok (.invokestatic 165, 3) := by decide +kernel
theorem dL_law_1152 : decode cL_law 1152 = .ok (.istore 5, 2) := by decide +kernel
theorem dL_law_1154 : decode cL_law 1154 = .ok (.aload_n 2, 1) := by decide +kernel
theorem dL_law_1155 : decode cL_law 1155 = .ok (.aload_n 0, 1) := by decide +kernel
theorem dL_law_1156 : decode cL_law 1156 = .ok (.iload 4, 2) := by decide +kernel
theorem dL_law_1158 : decode cL_law 1158 = .ok (.iconst 1, 1) := by decide +kernel
theorem dL_law_1159 : decode cL_law 1159 = .ok (.iadd, 1) := by decide +kernel
theorem dL_law_1160 : decode cL_law 1160 = .ok (.iaload, 1) := by decide +kernel
theorem dL_law_1161 : decode cL_law 1161 = .ok (.aload_n 0, 1) := by decide +kernel
theorem dL_law_1162 : decode cL_law 1162 = .ok (.iload 4, 2) := by decide +kernel
theorem dL_law_1164 : decode cL_law 1164 = .ok (.iconst 2, 1) := by decide +kernel
theorem dL_law_1165 : decode cL_law 1165 = .ok (.iadd, 1) := by decide +kernel
theorem dL_law_1166 : decode cL_law 1166 = .ok (.iaload, 1) := by decide +kernel
theorem dL_law_1167 : decode cL_law 1167 = .ok (.invokevirtual 167, 3) := by decide +kernel
theorem dL_law_1170 : decode cL_law 1170 = .ok (.istore 6, 2) := by decide +kernel
theorem dL_law_1172 : decode cL_law 1172 = .ok (.aload_n 2, 1) := by decide +kernel
theorem dL_law_1173 : decode cL_law 1173 = .ok (.invokevirtual 118, 3) := by decide +kernel
theorem dL_law_1176 : decode cL_law 1176 = .ok (.iload 5, 2) := by decide +kernel
theorem dL_law_1178 : decode cL_law 1178 = .ok (.if_icmp .eq 5, 3) := by decide +kernel
theorem dL_law_1181 : decode cL_law 1181 = .ok (.iconst 0, 1) := by decide +kernel
theorem dL_law_1182 : decode cL_law 1182 = .ok (.ireturn, 1) := by decide +kernel
theorem dL_law_1183 : decode cL_law 1183 = .ok (.iload 5, 2) := by decide +kernel
theorem dL_law_1185 : decode cL_law 1185 = .ok (.ifCond .ne 15, 3) := by decide +kernel
theorem dL_law_1188 : decode cL_law 1188 = .ok (.aload_n 3, 1) := by decide +kernel
theorem dL_law_1189 : decode cL_law 1189 = .ok (.iconst 0, 1) := by decide +kernel
theorem dL_law_1190 : decode cL_law 1190 = .ok (.laload, 1) := by decide +kernel
theorem dL_law_1191 : decode cL_law 1191 = .ok (.iload 6, 2) := by decide +kernel
theorem dL_law_1193 : decode cL_law 1193 = .ok (.i2l, 1) := by decide +kernel
theorem dL_law_1194 : decode cL_law 1194 = .ok (.lcmp, 1) := by decide +kernel
theorem dL_law_1195 : decode cL_law 1195 = .ok (.ifCond .eq 5, 3) := by decide +kernel
theorem dL_law_1198 : decode cL_law 1198 = .ok (.iconst 0, 1) := by decide +kernel
theorem dL_law_1199 : decode cL_law 1199 = .ok (.ireturn, 1) := by decide +kernel
theorem dL_law_1200 : decode cL_law 1200 = .ok (.goto 924, 3) := by decide +kernel
theorem dL_law_1203 : decode cL_law 1203 = .ok (.aload_n 1, 1) := by decide +kernel
theorem dL_law_1204 : decode cL_law 1204 = .ok (.aload_n 0, 1) := by decide +kernel
theorem dL_law_1205 : decode cL_law 1205 = .ok (.iload 4, 2) := by decide +kernel
theorem dL_law_1207 : decode cL_law 1207 = .ok (.iconst 1, 1) := by decide +kernel
theorem dL_law_1208 : decode cL_law 1208 = .ok (.iadd, 1) := by decide +kernel
theorem dL_law_1209 : decode cL_law 1209 = .ok (.iaload, 1) := by decide +kernel
theorem dL_law_1210 : decode cL_law 1210 = .ok (.aload_n 0, 1) := by decide +kernel
theorem dL_law_1211 : decode cL_law 1211 = .ok (.iload 4, 2) := by decide +kernel
theorem dL_law_1213 : decode cL_law 1213 = .ok (.iconst 2, 1) := by decide +kernel
theorem dL_law_1214 : decode cL_law 1214 = .ok (.iadd, 1) := by decide +kernel
theorem dL_law_1215 : decode cL_law 1215 = .ok (.iaload, 1) := by decide +kernel
theorem dL_law_1216 : decode cL_law 1216 = .ok (.aload_n 0, 1) := by decide +kernel
theorem dL_law_1217 : decode cL_law 1217 = .ok (.iload 4, 2) := by decide +kernel
theorem dL_law_1219 : decode cL_law 1219 = .ok (.iconst 3, 1) := by decide +kernel
theorem dL_law_1220 : decode cL_law 1220 = .ok (.iadd, 1) := by decide +kernel
theorem dL_law_1221 : decode cL_law 1221 = .ok (.iaload, 1) := by decide +kernel
theorem dL_law_1222 : decode cL_law 1222 = .ok (.aload_n 0, 1) := by decide +kernel
theorem dL_law_1223 : decode cL_law 1223 = .ok (.iload 4, 2) := by decide +kernel
theorem dL_law_1225 : decode cL_law 1225 = .ok (.iconst 4, 1) := by decide +kernel
theorem dL_law_1226 : decode cL_law 1226 = .ok (.iadd, 1) := by decide +kernel
theorem dL_law_1227 : decode cL_law 1227 = .ok (.iaload, 1) := by decide +kernel
theorem dL_law_1228 : decode cL_law 1228 = .ok (.invokestatic 168, 3) := by decide +kernel
theorem dL_law_1231 : decode cL_law 1231 = .ok (.istore 5, 2) := by decide +kernel
theorem dL_law_1233 : decode cL_law 1233 = .ok (.aload_n 2, 1) := by decide +kernel
theorem dL_law_1234 : decode cL_law 1234 = .ok (.aload_n 0, 1) := by decide +kernel
theorem dL_law_1235 : decode cL_law 1235 = .ok (.iload 4, 2) := by decide +kernel
theorem dL_law_1237 : decode cL_law 1237 = .ok (.iconst 1, 1) := by decide +kernel
theorem dL_law_1238 : decode cL_law 1238 = .ok (.iadd, 1) := by decide +kernel
theorem dL_law_1239 : decode cL_law 1239 = .ok (.iaload, 1) := by decide +kernel
theorem dL_law_1240 : decode cL_law 1240 = .ok (.aload_n 0, 1) := by decide +kernel
theorem dL_law_1241 : decode cL_law 1241 = .ok (.iload 4, 2) := by decide +kernel
theorem dL_law_1243 : decode cL_law 1243 = .ok (.iconst 2, 1) := by decide +kernel
theorem dL_law_1244 : decode cL_law 1244 = .ok (.iadd, 1) := by decide +kernel
theorem dL_law_1245 : decode cL_law 1245 = .ok (.iaload, 1) := by decide +kernel
theorem dL_law_1246 : decode cL_law 1246 = .ok (.aload_n 0, 1) := by decide +kernel
theorem dL_law_1247 : decode cL_law 1247 = .ok (.iload 4, 2) := by decide +kernel
theorem dL_law_1249 : decode cL_law 1249 = .ok (.iconst 3, 1) := by decide +kernel
theorem dL_law_1250 : decode cL_law 1250 = .ok (.iadd, 1) := by decide +kernel
theorem dL_law_1251 : decode cL_law 1251 = .ok (.iaload, 1) := by decide +kernel
theorem dL_law_1252 : decode cL_law 1252 = .ok (.aload_n 0, 1) := by decide +kernel
theorem dL_law_1253 : decode cL_law 1253 = .ok (.iload 4, 2) := by decide +kernel
theorem dL_law_1255 : decode cL_law 1255 = .ok (.iconst 4, 1) := by decide +kernel
theorem dL_law_1256 : decode cL_law 1256 = .ok (.iadd, 1) := by decide +kernel
theorem dL_law_1257 : decode cL_law 1257 = .ok (.iaload, 1) := by decide +kernel
theorem dL_law_1258 : decode cL_law 1258 = .ok (.invokevirtual 171, 3) := by decide +kernel
theorem dL_law_1261 : decode cL_law 1261 = .ok (.aload_n 2, 1) := by decide +kernel
theorem dL_law_1262 : decode cL_law 1262 = .ok (.invokevirtual 118, 3) := by decide +kernel
theorem dL_law_1265 : decode cL_law 1265 = .ok (.iload 5, 2) := by decide +kernel
theorem dL_law_1267 : decode cL_law 1267 = .ok (.if_icmp .eq 5, 3) := by decide +kernel
theorem dL_law_1270 : decode cL_law 1270 = .ok (.iconst 0, 1) := by decide +kernel
theorem dL_law_1271 : decode cL_law 1271 = .ok (.ireturn, 1) := by decide +kernel
theorem dL_law_1272 : decode cL_law 1272 = .ok (.goto 852, 3) := by decide +kernel
theorem dL_law_1275 : decode cL_law 1275 = .ok (.aload_n 1, 1) := by decide +kernel
theorem dL_law_1276 : decode cL_law 1276 = .ok (.aload_n 0, 1) := by decide +kernel
theorem dL_law_1277 : decode cL_law 1277 = .ok (.iload 4, 2) := by decide +kernel
theorem dL_law_1279 : decode cL_law 1279 = .ok (.iconst 1, 1) := by decide +kernel
theorem dL_law_1280 : decode cL_law 1280 = .ok (.iadd, 1) := by decide +kernel
theorem dL_law_1281 : decode cL_law 1281 = .ok (.iaload, 1) := by decide +kernel
theorem dL_law_1282 : decode cL_law 1282 = .ok (.aload_n 0, 1) := by decide +kernel
theorem dL_law_1283 : decode cL_law 1283 = .ok (.iload 4, 2) := by decide +kernel
theorem dL_law_1285 : decode cL_law 1285 = .ok (.iconst 2, 1) := by decide +kernel
theorem dL_law_1286 : decode cL_law 1286 = .ok (.iadd, 1) := by decide +kernel
theorem dL_law_1287 : decode cL_law 1287 = .ok (.iaload, 1) := by decide +kernel
theorem dL_law_1288 : decode cL_law 1288 = .ok (.aload_n 3, 1) := by decide +kernel
theorem dL_law_1289 : decode cL_law 1289 = .ok (.invokestatic 172, 3) := by decide +kernel
theorem dL_law_1292 : decode cL_law 1292 = .ok (.istore 5, 2) := by decide +kernel
theorem dL_law_1294 : decode cL_law 1294 = .ok (.aload_n 2, 1) := by decide +kernel
theorem dL_law_1295 : decode cL_law 1295 = .ok (.aload_n 0, 1) := by decide +kernel
theorem dL_law_1296 : decode cL_law 1296 = .ok (.iload 4, 2) := by decide +kernel
theorem dL_law_1298 : decode cL_law 1298 = .ok (.iconst 1, 1) := by decide +kernel
theorem dL_law_1299 : decode cL_law 1299 = .ok (.iadd, 1) := by decide +kernel
theorem dL_law_1300 : decode cL_law 1300 = .ok (.iaload, 1) := by decide +kernel
theorem dL_law_1301 : decode cL_law 1301 = .ok (.aload_n 0, 1) := by decide +kernel
theorem dL_law_1302 : decode cL_law 1302 = .ok (.iload 4, 2) := by decide +kernel
theorem dL_law_1304 : decode cL_law 1304 = .ok (.iconst 2, 1) := by decide +kernel
theorem dL_law_1305 : decode cL_law 1305 = .ok (.iadd, 1) := by decide +kernel
theorem dL_law_1306 : decode cL_law 1306 = .ok (.iaload, 1) := by decide +kernel
theorem dL_law_1307 : decode cL_law 1307 = .ok (.invokevirtual 174, 3) := by decide +kernel
theorem dL_law_1310 : decode cL_law 1310 = .ok (.istore 6, 2) := by decide +kernel
theorem dL_law_1312 : decode cL_law 1312 = .ok (.aload_n 2, 1) := by decide +kernel
theorem dL_law_1313 : decode cL_law 1313 = .ok (.invokevirtual 118, 3) := by decide +kernel
theorem dL_law_1316 : decode cL_law 1316 = .ok (.iload 5, 2) := by decide +kernel
theorem dL_law_1318 : decode cL_law 1318 = .ok (.if_icmp .eq 5, 3) := by decide +kernel
theorem dL_law_1321 : decode cL_law 1321 = .ok (.iconst 0, 1) := by decide +kernel
theorem dL_law_1322 : decode cL_law 1322 = .ok (.ireturn, 1) := by decide +kernel
theorem dL_law_1323 : decode cL_law 1323 = .ok (.iload 5, 2) := by decide +kernel
theorem dL_law_1325 : decode cL_law 1325 = .ok (.ifCond .ne 15, 3) := by decide +kernel
theorem dL_law_1328 : decode cL_law 1328 = .ok (.aload_n 3, 1) := by decide +kernel
theorem dL_law_1329 : decode cL_law 1329 = .ok (.iconst 0, 1) := by decide +kernel
theorem dL_law_1330 : decode cL_law 1330 = .ok (.laload, 1) := by decide +kernel
theorem dL_law_1331 : decode cL_law 1331 = .ok (.iload 6, 2) := by decide +kernel
theorem dL_law_1333 : decode cL_law 1333 = .ok (.i2l, 1) := by decide +kernel
theorem dL_law_1334 : decode cL_law 1334 = .ok (.lcmp, 1) := by decide +kernel
theorem dL_law_1335 : decode cL_law 1335 = .ok (.ifCond .eq 5, 3) := by decide +kernel
theorem dL_law_1338 : decode cL_law 1338 = .ok (.iconst 0, 1) := by decide +kernel
theorem dL_law_1339 : decode cL_law 1339 = .ok (.ireturn, 1) := by decide +kernel
theorem dL_law_1340 : decode cL_law 1340 = .ok (.goto 784, 3) := by decide +kernel
theorem dL_law_1343 : decode cL_law 1343 = .ok (.aload_n 1, 1) := by decide +kernel
theorem dL_law_1344 : decode cL_law 1344 = .ok (.aload_n 0, 1) := by decide +kernel
theorem dL_law_1345 : decode cL_law 1345 = .ok (.iload 4, 2) := by decide +kernel
theorem dL_law_1347 : decode cL_law 1347 = .ok (.iconst 1, 1) := by decide +kernel
theorem dL_law_1348 : decode cL_law 1348 = .ok (.iadd, 1) := by decide +kernel
theorem dL_law_1349 : decode cL_law 1349 = .ok (.iaload, 1) := by decide +kernel
theorem dL_law_1350 : decode cL_law 1350 = .ok (.aload_n 0, 1) := by decide +kernel
theorem dL_law_1351 : decode cL_law 1351 = .ok (.iload 4, 2) := by decide +kernel
theorem dL_law_1353 : decode cL_law 1353 = .ok (.iconst 2, 1) := by decide +kernel
theorem dL_law_1354 : decode cL_law 1354 = .ok (.iadd, 1) := by decide +kernel
theorem dL_law_1355 : decode cL_law 1355 = .ok (.iaload, 1) := by decide +kernel
theorem dL_law_1356 : decode cL_law 1356 = .ok (.aload_n 0, 1) := by decide +kernel
theorem dL_law_1357 : decode cL_law 1357 = .ok (.iload 4, 2) := by decide +kernel
theorem dL_law_1359 : decode cL_law 1359 = .ok (.iconst 3, 1) := by decide +kernel
theorem dL_law_1360 : decode cL_law 1360 = .ok (.iadd, 1) := by decide +kernel
theorem dL_law_1361 : decode cL_law 1361 = .ok (.iaload, 1) := by decide +kernel
theorem dL_law_1362 : decode cL_law 1362 = .ok (.aload_n 3, 1) := by decide +kernel
theorem dL_law_1363 : decode cL_law 1363 = .ok (.invokestatic 175, 3) := by decide +kernel
theorem dL_law_1366 : decode cL_law 1366 = .ok (.istore 5, 2) := by decide +kernel
theorem dL_law_1368 : decode cL_law 1368 = .ok (.aload_n 2, 1) := by decide +kernel
theorem dL_law_1369 : decode cL_law 1369 = .ok (.aload_n 0, 1) := by decide +kernel
theorem dL_law_1370 : decode cL_law 1370 = .ok (.iload 4, 2) := by decide +kernel
theorem dL_law_1372 : decode cL_law 1372 = .ok (.iconst 1, 1) := by decide +kernel
theorem dL_law_1373 : decode cL_law 1373 = .ok (.iadd, 1) := by decide +kernel
theorem dL_law_1374 : decode cL_law 1374 = .ok (.iaload, 1) := by decide +kernel
theorem dL_law_1375 : decode cL_law 1375 = .ok (.aload_n 0, 1) := by decide +kernel
theorem dL_law_1376 : decode cL_law 1376 = .ok (.iload 4, 2) := by decide +kernel
theorem dL_law_1378 : decode cL_law 1378 = .ok (.iconst 2, 1) := by decide +kernel
theorem dL_law_1379 : decode cL_law 1379 = .ok (.iadd, 1) := by decide +kernel
theorem dL_law_1380 : decode cL_law 1380 = .ok (.iaload, 1) := by decide +kernel
theorem dL_law_1381 : decode cL_law 1381 = .ok (.aload_n 0, 1) := by decide +kernel
theorem dL_law_1382 : decode cL_law 1382 = .ok (.iload 4, 2) := by decide +kernel
theorem dL_law_1384 : decode cL_law 1384 = .ok (.iconst 3, 1) := by decide +kernel
theorem dL_law_1385 : decode cL_law 1385 = .ok (.iadd, 1) := by decide +kernel
theorem dL_law_1386 : decode cL_law 1386 = .ok (.iaload, 1) := by decide +kernel
theorem dL_law_1387 : decode cL_law 1387 = .ok (.invokevirtual 177, 3) := by decide +kernel
theorem dL_law_1390 : decode cL_law 1390 = .ok (.istore 6, 2) := by decide +kernel
theorem dL_law_1392 : decode cL_law 1392 = .ok (.aload_n 2, 1) := by decide +kernel
theorem dL_law_1393 : decode cL_law 1393 = .ok (.invokevirtual 118, 3) := by decide +kernel
theorem dL_law_1396 : decode cL_law 1396 = .ok (.iload 5, 2) := by decide +kernel
theorem dL_law_1398 : decode cL_law 1398 = .ok (.if_icmp .eq 5, 3) := by decide +kernel
theorem dL_law_1401 : decode cL_law 1401 = .ok (.iconst 0, 1) := by decide +kernel
theorem dL_law_1402 : decode cL_law 1402 = .ok (.ireturn, 1) := by decide +kernel
theorem dL_law_1403 : decode cL_law 1403 = .ok (.iload 5, 2) := by decide +kernel
theorem dL_law_1405 : decode cL_law 1405 = .ok (.ifCond .ne 15, 3) := by decide +kernel
theorem dL_law_1408 : decode cL_law 1408 = .ok (.aload_n 3, 1) := by decide +kernel
theorem dL_law_1409 : decode cL_law 1409 = .ok (.iconst 0, 1) := by decide +kernel
theorem dL_law_1410 : decode cL_law 1410 = .ok (.laload, 1) := by decide +kernel
theorem dL_law_1411 : decode cL_law 1411 = .ok (.iload 6, 2) := by decide +kernel
theorem dL_law_1413 : decode cL_law 1413 = .ok (.i2l, 1) := by decide +kernel
theorem dL_law_1414 : decode cL_law 1414 = .ok (.lcmp, 1) := by decide +kernel
theorem dL_law_1415 : decode cL_law 1415 = .ok (.ifCond .eq 5, 3) := by decide +kernel
theorem dL_law_1418 : decode cL_law 1418 = .ok (.iconst 0, 1) := by decide +kernel
theorem dL_law_1419 : decode cL_law 1419 = .ok (.ireturn, 1) := by decide +kernel
theorem dL_law_1420 : decode cL_law 1420 = .ok (.goto 704, 3) := by decide +kernel
theorem dL_law_1423 : decode cL_law 1423 = .ok (.aload_n 1, 1) := by decide +kernel
theorem dL_law_1424 : decode cL_law 1424 = .ok (.aload_n 0, 1) := by decide +kernel
theorem dL_law_1425 : decode cL_law 1425 = .ok (.iload 4, 2) := by decide +kernel
theorem dL_law_1427 : decode cL_law 1427 = .ok (.iconst 1, 1) := by decide +kernel
theorem dL_law_1428 : decode cL_law 1428 = .ok (.iadd, 1) := by decide +kernel
theorem dL_law_1429 : decode cL_law 1429 = .ok (.iaload, 1) := by decide +kernel
theorem dL_law_1430 : decode cL_law 1430 = .ok (.aload_n 3, 1) := by decide +kernel
theorem dL_law_1431 : decode cL_law 1431 = .ok (.invokestatic 178, 3) := by decide +kernel
theorem dL_law_1434 : decode cL_law 1434 = .ok (.istore 5, 2) := by decide +kernel
theorem dL_law_1436 : decode cL_law 1436 = .ok (.aload_n 2, 1) := by decide +kernel
theorem dL_law_1437 : decode cL_law 1437 = .ok (.aload_n 0, 1) := by decide +kernel
theorem dL_law_1438 : decode cL_law 1438 = .ok (.iload 4, 2) := by decide +kernel
theorem dL_law_1440 : decode cL_law 1440 = .ok (.iconst 1, 1) := by decide +kernel
theorem dL_law_1441 : decode cL_law 1441 = .ok (.iadd, 1) := by decide +kernel
theorem dL_law_1442 : decode cL_law 1442 = .ok (.iaload, 1) := by decide +kernel
theorem dL_law_1443 : decode cL_law 1443 = .ok (.invokevirtual 180, 3) := by decide +kernel
theorem dL_law_1446 : decode cL_law 1446 = .ok (.istore 6, 2) := by decide +kernel
theorem dL_law_1448 : decode cL_law 1448 = .ok (.aload_n 2, 1) := by decide +kernel
end
section
theorem dL_law_1449 : decode cL_law 1449 = .ok (.invokevirtual 118, 3) := by decide +kernel
theorem dL_law_1452 : decode cL_law 1452 = .ok (.iload 5, 2) := by decide +kernel
theorem dL_law_1454 : decode cL_law 1454 = .ok (.if_icmp .eq 5, 3) := by decide +kernel
theorem dL_law_1457 : decode cL_law 1457 = .ok (.iconst 0, 1) := by decide +kernel
theorem dL_law_1458 : decode cL_law 1458 = .ok (.ireturn, 1) := by decide +kernel
theorem dL_law_1459 : decode cL_law 1459 = .ok (.iload 5, 2) := by decide +kernel
theorem dL_law_1461 : decode cL_law 1461 = .ok (.ifCond .ne 15, 3) := by decide +kernel
theorem dL_law_1464 : decode cL_law 1464 = .ok (.aload_n 3, 1) := by decide +kernel
theorem dL_law_1465 : decode cL_law 1465 = .ok (.iconst 0, 1) := by decide +kernel
theorem dL_law_1466 : decode cL_law 1466 = .ok (.laload, 1) := by decide +kernel
theorem dL_law_1467 : decode cL_law 1467 = .ok (.iload 6, 2) := by decide +kernel
theorem dL_law_1469 : decode cL_law 1469 = .ok (.i2l, 1) := by decide +kernel
theorem dL_law_1470 : decode cL_law 1470 = .ok (.lcmp, 1) := by decide +kernel
theorem dL_law_1471 : decode cL_law 1471 = .ok (.ifCond .eq 5, 3) := by decide +kernel
theorem dL_law_1474 : decode cL_law 1474 = .ok (.iconst 0, 1) := by decide +kernel
theorem dL_law_1475 : decode cL_law 1475 = .ok (.ireturn, 1) := by decide +kernel
theorem dL_law_1476 : decode cL_law 1476 = .ok (.goto 648, 3) := by decide +kernel
theorem dL_law_1479 : decode cL_law 1479 = .ok (.aload_n 1, 1) := by decide +kernel
theorem dL_law_1480 : decode cL_law 1480 = .ok (.aload_n 0, 1) := by decide +kernel
theorem dL_law_1481 : decode cL_law 1481 = .ok (.iload 4, 2) := by decide +kernel
theorem dL_law_1483 : decode cL_law 1483 = .ok (.iconst 1, 1) := by decide +kernel
theorem dL_law_1484 : decode cL_law 1484 = .ok (.iadd, 1) := by decide +kernel
theorem dL_law_1485 : decode cL_law 1485 = .ok (.iaload, 1) := by decide +kernel
theorem dL_law_1486 : decode cL_law 1486 = .ok (.aload_n 0, 1) := by decide +kernel
theorem dL_law_1487 : decode cL_law 1487 = .ok (.iload 4, 2) := by decide +kernel
theorem dL_law_1489 : decode cL_law 1489 = .ok (.iconst 2, 1) := by decide +kernel
theorem dL_law_1490 : decode cL_law 1490 = .ok (.iadd, 1) := by decide +kernel
theorem dL_law_1491 : decode cL_law 1491 = .ok (.iaload, 1) := by decide +kernel
theorem dL_law_1492 : decode cL_law 1492 = .ok (.aload_n 3, 1) := by decide +kernel
theorem dL_law_1493 : decode cL_law 1493 = .ok (.invokestatic 181, 3) := by decide +kernel
theorem dL_law_1496 : decode cL_law 1496 = .ok (.istore 5, 2) := by decide +kernel
theorem dL_law_1498 : decode cL_law 1498 = .ok (.aload_n 2, 1) := by decide +kernel
theorem dL_law_1499 : decode cL_law 1499 = .ok (.aload_n 0, 1) := by decide +kernel
theorem dL_law_1500 : decode cL_law 1500 = .ok (.iload 4, 2) := by decide +kernel
theorem dL_law_1502 : decode cL_law 1502 = .ok (.iconst 1, 1) := by decide +kernel
theorem dL_law_1503 : decode cL_law 1503 = .ok (.iadd, 1) := by decide +kernel
theorem dL_law_1504 : decode cL_law 1504 = .ok (.iaload, 1) := by decide +kernel
theorem dL_law_1505 : decode cL_law 1505 = .ok (.aload_n 0, 1) := by decide +kernel
theorem dL_law_1506 : decode cL_law 1506 = .ok (.iload 4, 2) := by decide +kernel
theorem dL_law_1508 : decode cL_law 1508 = .ok (.iconst 2, 1) := by decide +kernel
theorem dL_law_1509 : decode cL_law 1509 = .ok (.iadd, 1) := by decide +kernel
theorem dL_law_1510 : decode cL_law 1510 = .ok (.iaload, 1) := by decide +kernel
theorem dL_law_1511 : decode cL_law 1511 = .ok (.invokevirtual 183, 3) := by decide +kernel
theorem dL_law_1514 : decode cL_law 1514 = .ok (.istore 6, 2) := by decide +kernel
theorem dL_law_1516 : decode cL_law 1516 = .ok (.aload_n 2, 1) := by decide +kernel
theorem dL_law_1517 : decode cL_law 1517 = .ok (.invokevirtual 118, 3) := by decide +kernel
theorem dL_law_1520 : decode cL_law 1520 = .ok (.iload 5, 2) := by decide +kernel
theorem dL_law_1522 : decode cL_law 1522 = .ok (.if_icmp .eq 5, 3) := by decide +kernel
theorem dL_law_1525 : decode cL_law 1525 = .ok (.iconst 0, 1) := by decide +kernel
theorem dL_law_1526 : decode cL_law 1526 = .ok (.ireturn, 1) := by decide +kernel
theorem dL_law_1527 : decode cL_law 1527 = .ok (.iload 5, 2) := by decide +kernel
theorem dL_law_1529 : decode cL_law 1529 = .ok (.ifCond .ne 15, 3) := by decide +kernel
theorem dL_law_1532 : decode cL_law 1532 = .ok (.aload_n 3, 1) := by decide +kernel
theorem dL_law_1533 : decode cL_law 1533 = .ok (.iconst 0, 1) := by decide +kernel
theorem dL_law_1534 : decode cL_law 1534 = .ok (.laload, 1) := by decide +kernel
theorem dL_law_1535 : decode cL_law 1535 = .ok (.iload 6, 2) := by decide +kernel
theorem dL_law_1537 : decode cL_law 1537 = .ok (.i2l, 1) := by decide +kernel
theorem dL_law_1538 : decode cL_law 1538 = .ok (.lcmp, 1) := by decide +kernel
theorem dL_law_1539 : decode cL_law 1539 = .ok (.ifCond .eq 5, 3) := by decide +kernel
theorem dL_law_1542 : decode cL_law 1542 = .ok (.iconst 0, 1) := by decide +kernel
theorem dL_law_1543 : decode cL_law 1543 = .ok (.ireturn, 1) := by decide +kernel
theorem dL_law_1544 : decode cL_law 1544 = .ok (.goto 580, 3) := by decide +kernel
theorem dL_law_1547 : decode cL_law 1547 = .ok (.aload_n 1, 1) := by decide +kernel
theorem dL_law_1548 : decode cL_law 1548 = .ok (.invokevirtual 184, 3) := by decide +kernel
theorem dL_law_1551 : decode cL_law 1551 = .ok (.aload_n 2, 1) := by decide +kernel
theorem dL_law_1552 : decode cL_law 1552 = .ok (.invokevirtual 187, 3) := by decide +kernel
theorem dL_law_1555 : decode cL_law 1555 = .ok (.if_icmp .eq 569, 3) := by decide +kernel
theorem dL_law_1558 : decode cL_law 1558 = .ok (.iconst 0, 1) := by decide +kernel
theorem dL_law_1559 : decode cL_law 1559 = .ok (.ireturn, 1) := by decide +kernel
theorem dL_law_1560 : decode cL_law 1560 = .ok (.aload_n 1, 1) := by decide +kernel
theorem dL_law_1561 : decode cL_law 1561 = .ok (.aload_n 0, 1) := by decide +kernel
theorem dL_law_1562 : decode cL_law 1562 = .ok (.iload 4, 2) := by decide +kernel
theorem dL_law_1564 : decode cL_law 1564 = .ok (.iconst 1, 1) := by decide +kernel
theorem dL_law_1565 : decode cL_law 1565 = .ok (.iadd, 1) := by decide +kernel
theorem dL_law_1566 : decode cL_law 1566 = .ok (.iaload, 1) := by decide +kernel
theorem dL_law_1567 : decode cL_law 1567 = .ok (.aload_n 3, 1) := by decide +kernel
theorem dL_law_1568 : decode cL_law 1568 = .ok (.invokestatic 188, 3) := by decide +kernel
theorem dL_law_1571 : decode cL_law 1571 = .ok (.istore 5, 2) := by decide +kernel
theorem dL_law_1573 : decode cL_law 1573 = .ok (.aload_n 2, 1) := by decide +kernel
theorem dL_law_1574 : decode cL_law 1574 = .ok (.aload_n 0, 1) := by decide +kernel
theorem dL_law_1575 : decode cL_law 1575 = .ok (.iload 4, 2) := by decide +kernel
theorem dL_law_1577 : decode cL_law 1577 = .ok (.iconst 1, 1) := by decide +kernel
theorem dL_law_1578 : decode cL_law 1578 = .ok (.iadd, 1) := by decide +kernel
theorem dL_law_1579 : decode cL_law 1579 = .ok (.iaload, 1) := by decide +kernel
theorem dL_law_1580 : decode cL_law 1580 = .ok (.invokevirtual 190, 3) := by decide +kernel
theorem dL_law_1583 : decode cL_law 1583 = .ok (.istore 6, 2) := by decide +kernel
theorem dL_law_1585 : decode cL_law 1585 = .ok (.aload_n 2, 1) := by decide +kernel
theorem dL_law_1586 : decode cL_law 1586 = .ok (.invokevirtual 118, 3) := by decide +kernel
theorem dL_law_1589 : decode cL_law 1589 = .ok (.iload 5, 2) := by decide +kernel
theorem dL_law_1591 : decode cL_law 1591 = .ok (.if_icmp .eq 5, 3) := by decide +kernel
theorem dL_law_1594 : decode cL_law 1594 = .ok (.iconst 0, 1) := by decide +kernel
theorem dL_law_1595 : decode cL_law 1595 = .ok (.ireturn, 1) := by decide +kernel
theorem dL_law_1596 : decode cL_law 1596 = .ok (.iload 5, 2) := by decide +kernel
theorem dL_law_1598 : decode cL_law 1598 = .ok (.ifCond .ne 15, 3) := by decide +kernel
theorem dL_law_1601 : decode cL_law 1601 = .ok (.aload_n 3, 1) := by decide +kernel
theorem dL_law_1602 : decode cL_law 1602 = .ok (.iconst 0, 1) := by decide +kernel
theorem dL_law_1603 : decode cL_law 1603 = .ok (.laload, 1) := by decide +kernel
theorem dL_law_1604 : decode cL_law 1604 = .ok (.iload 6, 2) := by decide +kernel
theorem dL_law_1606 : decode cL_law 1606 = .ok (.i2l, 1) := by decide +kernel
theorem dL_law_1607 : decode cL_law 1607 = .ok (.lcmp, 1) := by decide +kernel
theorem dL_law_1608 : decode cL_law 1608 = .ok (.ifCond .eq 5, 3) := by decide +kernel
theorem dL_law_1611 : decode cL_law 1611 = .ok (.iconst 0, 1) := by decide +kernel
theorem dL_law_1612 : decode cL_law 1612 = .ok (.ireturn, 1) := by decide +kernel
theorem dL_law_1613 : decode cL_law 1613 = .ok (.goto 511, 3) := by decide +kernel
theorem dL_law_1616 : decode cL_law 1616 = .ok (.aload_n 1, 1) := by decide +kernel
theorem dL_law_1617 : decode cL_law 1617 = .ok (.aload_n 0, 1) := by decide +kernel
theorem dL_law_1618 : decode cL_law 1618 = .ok (.iload 4, 2) := by decide +kernel
theorem dL_law_1620 : decode cL_law 1620 = .ok (.iconst 1, 1) := by decide +kernel
theorem dL_law_1621 : decode cL_law 1621 = .ok (.iadd, 1) := by decide +kernel
theorem dL_law_1622 : decode cL_law 1622 = .ok (.iaload, 1) := by decide +kernel
theorem dL_law_1623 : decode cL_law 1623 = .ok (.aload_n 0, 1) := by decide +kernel
theorem dL_law_1624 : decode cL_law 1624 = .ok (.iload 4, 2) := by decide +kernel
theorem dL_law_1626 : decode cL_law 1626 = .ok (.iconst 2, 1) := by decide +kernel
theorem dL_law_1627 : decode cL_law 1627 = .ok (.iadd, 1) := by decide +kernel
theorem dL_law_1628 : decode cL_law 1628 = .ok (.iaload, 1) := by decide +kernel
theorem dL_law_1629 : decode cL_law 1629 = .ok (.aload_n 3, 1) := by decide +kernel
theorem dL_law_1630 : decode cL_law 1630 = .ok (.invokestatic 191, 3) := by decide +kernel
theorem dL_law_1633 : decode cL_law 1633 = .ok (.istore 5, 2) := by decide +kernel
theorem dL_law_1635 : decode cL_law 1635 = .ok (.aload_n 2, 1) := by decide +kernel
theorem dL_law_1636 : decode cL_law 1636 = .ok (.aload_n 0, 1) := by decide +kernel
theorem dL_law_1637 : decode cL_law 1637 = .ok (.iload 4, 2) := by decide +kernel
theorem dL_law_1639 : decode cL_law 1639 = .ok (.iconst 1, 1) := by decide +kernel
theorem dL_law_1640 : decode cL_law 1640 = .ok (.iadd, 1) := by decide +kernel
theorem dL_law_1641 : decode cL_law 1641 = .ok (.iaload, 1) := by decide +kernel
theorem dL_law_1642 : decode cL_law 1642 = .ok (.aload_n 0, 1) := by decide +kernel
theorem dL_law_1643 : decode cL_law 1643 = .ok (.iload 4, 2) := by decide +kernel
theorem dL_law_1645 : decode cL_law 1645 = .ok (.iconst 2, 1) := by decide +kernel
theorem dL_law_1646 : decode cL_law 1646 = .ok (.iadd, 1) := by decide +kernel
theorem dL_law_1647 : decode cL_law 1647 = .ok (.iaload, 1) := by decide +kernel
theorem dL_law_1648 : decode cL_law 1648 = .ok (.invokevirtual 193, 3) := by decide +kernel
theorem dL_law_1651 : decode cL_law 1651 = .ok (.istore 6, 2) := by decide +kernel
theorem dL_law_1653 : decode cL_law 1653 = .ok (.aload_n 2, 1) := by decide +kernel
theorem dL_law_1654 : decode cL_law 1654 = .ok (.invokevirtual 118, 3) := by decide +kernel
theorem dL_law_1657 : decode cL_law 1657 = .ok (.iload 5, 2) := by decide +kernel
theorem dL_law_1659 : decode cL_law 1659 = .ok (.if_icmp .eq 5, 3) := by decide +kernel
theorem dL_law_1662 : decode cL_law 1662 = .ok (.iconst 0, 1) := by decide +kernel
theorem dL_law_1663 : decode cL_law 1663 = .ok (.ireturn, 1) := by decide +kernel
theorem dL_law_1664 : decode cL_law 1664 = .ok (.iload 5, 2) := by decide +kernel
theorem dL_law_1666 : decode cL_law 1666 = .ok (.ifCond .ne 15, 3) := by decide +kernel
theorem dL_law_1669 : decode cL_law 1669 = .ok (.aload_n 3, 1) := by decide +kernel
theorem dL_law_1670 : decode cL_law 1670 = .ok (.iconst 0, 1) := by decide +kernel
theorem dL_law_1671 : decode cL_law 1671 = .ok (.laload, 1) := by decide +kernel
theorem dL_law_1672 : decode cL_law 1672 = .ok (.iload 6, 2) := by decide +kernel
theorem dL_law_1674 : decode cL_law 1674 = .ok (.i2l, 1) := by decide +kernel
theorem dL_law_1675 : decode cL_law 1675 = .ok (.lcmp, 1) := by decide +kernel
theorem dL_law_1676 : decode cL_law 1676 = .ok (.ifCond .eq 5, 3) := by decide +kernel
theorem dL_law_1679 : decode cL_law 1679 = .ok (.iconst 0, 1) := by decide +kernel
theorem dL_law_1680 : decode cL_law 1680 = .ok (.ireturn, 1) := by decide +kernel
theorem dL_law_1681 : decode cL_law 1681 = .ok (.goto 443, 3) := by decide +kernel
theorem dL_law_1684 : decode cL_law 1684 = .ok (.aload_n 1, 1) := by decide +kernel
theorem dL_law_1685 : decode cL_law 1685 = .ok (.aload_n 0, 1) := by decide +kernel
theorem dL_law_1686 : decode cL_law 1686 = .ok (.iload 4, 2) := by decide +kernel
theorem dL_law_1688 : decode cL_law 1688 = .ok (.iconst 1, 1) := by decide +kernel
theorem dL_law_1689 : decode cL_law 1689 = .ok (.iadd, 1) := by decide +kernel
theorem dL_law_1690 : decode cL_law 1690 = .ok (.iaload, 1) := by decide +kernel
theorem dL_law_1691 : decode cL_law 1691 = .ok (.aload_n 0, 1) := by decide +kernel
theorem dL_law_1692 : decode cL_law 1692 = .ok (.iload 4, 2) := by decide +kernel
theorem dL_law_1694 : decode cL_law 1694 = .ok (.iconst 2, 1) := by decide +kernel
theorem dL_law_1695 : decode cL_law 1695 = .ok (.iadd, 1) := by decide +kernel
theorem dL_law_1696 : decode cL_law 1696 = .ok (.iaload, 1) := by decide +kernel
theorem dL_law_1697 : decode cL_law 1697 = .ok (.aload_n 3, 1) := by decide +kernel
theorem dL_law_1698 : decode cL_law 1698 = .ok (.invokestatic 194, 3) := by decide +kernel
theorem dL_law_1701 : decode cL_law 1701 = .ok (.istore 5, 2) := by decide +kernel
theorem dL_law_1703 : decode cL_law 1703 = .ok (.aload_n 2, 1) := by decide +kernel
theorem dL_law_1704 : decode cL_law 1704 = .ok (.aload_n 0, 1) := by decide +kernel
theorem dL_law_1705 : decode cL_law 1705 = .ok (.iload 4, 2) := by decide +kernel
theorem dL_law_1707 : decode cL_law 1707 = .ok (.iconst 1, 1) := by decide +kernel
theorem dL_law_1708 : decode cL_law 1708 = .ok (.iadd, 1) := by decide +kernel
theorem dL_law_1709 : decode cL_law 1709 = .ok (.iaload, 1) := by decide +kernel
theorem dL_law_1710 : decode cL_law 1710 = .ok (.aload_n 0, 1) := by decide +kernel
theorem dL_law_1711 : decode cL_law 1711 = .ok (.iload 4, 2) := by decide +kernel
theorem dL_law_1713 : decode cL_law 1713 = .ok (.iconst 2, 1) := by decide +kernel
theorem dL_law_1714 : decode cL_law 1714 = .ok (.iadd, 1) := by decide +kernel
theorem dL_law_1715 : decode cL_law 1715 = .ok (.iaload, 1) := by decide +kernel
theorem dL_law_1716 : decode cL_law 1716 = .ok (.invokevirtual 196, 3) := by decide +kernel
theorem dL_law_1719 : decode cL_law 1719 = .ok (.istore 6, 2) := by decide +kernel
theorem dL_law_1721 : decode cL_law 1721 = .ok (.aload_n 2, 1) := by decide +kernel
theorem dL_law_1722 : decode cL_law 1722 = .ok (.invokevirtual 118, 3) := by decide +kernel
theorem dL_law_1725 : decode cL_law 1725 = .ok (.iload 5, 2) := by decide +kernel
theorem dL_law_1727 : decode cL_law 1727 = .ok (.if_icmp .eq 5, 3) := by decide +kernel
theorem dL_law_1730 : decode cL_law 1730 = .ok (.iconst 0, 1) := by decide +kernel
theorem dL_law_1731 : decode cL_law 1731 = .ok (.ireturn, 1) := by decide +kernel
theorem dL_law_1732 : decode cL_law 1732 = .ok (.iload 5, 2) := by decide +kernel
theorem dL_law_1734 : decode cL_law 1734 = .ok (.ifCond .ne 15, 3) := by decide +kernel
theorem dL_law_1737 : decode cL_law 1737 = .ok (.aload_n 3, 1) := by decide +kernel
theorem dL_law_1738 : decode cL_law 1738 = .ok (.iconst 0, 1) := by decide +kernel
theorem dL_law_1739 : decode cL_law 1739 = .ok (.laload, 1) := by decide +kernel
theorem dL_law_1740 : decode cL_law 1740 = .ok (.iload 6, 2) := by decide +kernel
theorem dL_law_1742 : decode cL_law 1742 = .ok (.i2l, 1) := by decide +kernel
theorem dL_law_1743 : decode cL_law 1743 = .ok (.lcmp, 1) := by decide +kernel
theorem dL_law_1744 : decode cL_law 1744 = .ok (.ifCond .eq 5, 3) := by decide +kernel
theorem dL_law_1747 : decode cL_law 1747 = .ok (.iconst 0, 1) := by decide +kernel
theorem dL_law_1748 : decode cL_law 1748 = .ok (.ireturn, 1) := by decide +kernel
theorem dL_law_1749 : decode cL_law 1749 = .ok (.goto 375, 3) := by decide +kernel
theorem dL_law_1752 : decode cL_law 1752 = .ok (.aload_n 1, 1) := by decide +kernel
theorem dL_law_1753 : decode cL_law 1753 = .ok (.aload_n 0, 1) := by decide +kernel
theorem dL_law_1754 : decode cL_law 1754 = .ok (.iload 4, 2) := by decide +kernel
theorem dL_law_1756 : decode cL_law 1756 = .ok (.iconst 1, 1) := by decide +kernel
theorem dL_law_1757 : decode cL_law 1757 = .ok (.iadd, 1) := by decide +kernel
theorem dL_law_1758 : decode cL_law 1758 = .ok (.iaload, 1) := by decide +kernel
theorem dL_law_1759 : decode cL_law 1759 = .ok (.aload_n 3, 1) := by decide +kernel
theorem dL_law_1760 : decode cL_law 1760 = .ok (.invokestatic 197, 3) := by decide +kernel
theorem dL_law_1763 : decode cL_law 1763 = .ok (.istore 5, 2) := by decide +kernel
theorem dL_law_1765 : decode cL_law 1765 = .ok (.aload_n 2, 1) := by decide +kernel
theorem dL_law_1766 : decode cL_law 1766 = .ok (.aload_n 0, 1) := by decide +kernel
theorem dL_law_1767 : decode cL_law 1767 = .ok (.iload 4, 2) := by decide +kernel
theorem dL_law_1769 : decode cL_law 1769 = .ok (.iconst 1, 1) := by decide +kernel
theorem dL_law_1770 : decode cL_law 1770 = .ok (.iadd, 1) := by decide +kernel
theorem dL_law_1771 : decode cL_law 1771 = .ok (.iaload, 1) := by decide +kernel
theorem dL_law_1772 : decode cL_law 1772 = .ok (.invokevirtual 199, 3) := by decide +kernel
theorem dL_law_1775 : decode cL_law 1775 = .ok (.istore 6, 2) := by decide +kernel
theorem dL_law_1777 : decode cL_law 1777 = .ok (.aload_n 2, 1) := by decide +kernel
theorem dL_law_1778 : decode cL_law 1778 = .ok (.invokevirtual 118, 3) := by decide +kernel
theorem dL_law_1781 : decode cL_law 1781 = .ok (.iload 5, 2) := by decide +kernel
theorem dL_law_1783 : decode cL_law 1783 = .ok (.if_icmp .eq 5, 3) := by decide +kernel
theorem dL_law_1786 : decode cL_law 1786 = .ok (.iconst 0, 1) := by decide +kernel
theorem dL_law_1787 : decode cL_law 1787 = .ok (.ireturn, 1) := by decide +kernel
theorem dL_law_1788 : decode cL_law 1788 = .ok (.iload 5, 2) := by decide +kernel
theorem dL_law_1790 : decode cL_law 1790 = .ok (.ifCond .ne 15, 3) := by decide +kernel
theorem dL_law_1793 : decode cL_law 1793 = .ok (.aload_n 3, 1) := by decide +kernel
theorem dL_law_1794 : decode cL_law 1794 = .ok (.iconst 0, 1) := by decide +kernel
theorem dL_law_1795 : decode cL_law 1795 = .ok (.laload, 1) := by decide +kernel
theorem dL_law_1796 : decode cL_law 1796 = .ok (.iload 6, 2) := by decide +kernel
theorem dL_law_1798 : decode cL_law 1798 = .ok (.i2l, 1) := by decide +kernel
theorem dL_law_1799 : decode cL_law 1799 = .ok (.lcmp, 1) := by decide +kernel
theorem dL_law_1800 : decode cL_law 1800 = .ok (.ifCond .eq 5, 3) := by decide +kernel
theorem dL_law_1803 : decode cL_law 1803 = .ok (.iconst 0, 1) := by decide +kernel
theorem dL_law_1804 : decode cL_law 1804 = .ok (.ireturn, 1) := by decide +kernel
theorem dL_law_1805 : decode cL_law 1805 = .ok (.goto 319, 3) := by decide +kernel
theorem dL_law_1808 : decode cL_law 1808 = .ok (.aload_n 1, 1) := by decide +kernel
theorem dL_law_1809 : decode cL_law 1809 = .ok (.aload_n 0, 1) := by decide +kernel
theorem dL_law_1810 : decode cL_law 1810 = .ok (.iload 4, 2) := by decide +kernel
theorem dL_law_1812 : decode cL_law 1812 = .ok (.iconst 1, 1) := by decide +kernel
theorem dL_law_1813 : decode cL_law 1813 = .ok (.iadd, 1) := by decide +kernel
theorem dL_law_1814 : decode cL_law 1814 = .ok (.iaload, 1) := by decide +kernel
theorem dL_law_1815 : decode cL_law 1815 = .ok (.aload_n 3, 1) := by decide +kernel
theorem dL_law_1816 : decode cL_law 1816 = .ok (.invokestatic 200, 3) := by decide +kernel
theorem dL_law_1819 : decode cL_law 1819 = .ok (.istore 5, 2) := by decide +kernel
theorem dL_law_1821 : decode cL_law 1821 = .ok (.aload_n 2, 1) := by decide +kernel
theorem dL_law_1822 : decode cL_law 1822 = .ok (.aload_n 0, 1) := by decide +kernel
theorem dL_law_1823 : decode cL_law 1823 = .ok (.iload 4, 2) := by decide +kernel
theorem dL_law_1825 : decode cL_law 1825 = .ok (.iconst 1, 1) := by decide +kernel
theorem dL_law_1826 : decode cL_law 1826 = .ok (.iadd, 1) := by decide +kernel
theorem dL_law_1827 : decode cL_law 1827 = .ok (.iaload, 1) := by decide +kernel
theorem dL_law_1828 : decode cL_law 1828 = .ok (.invokevirtual 202, 3) := by decide +kernel
theorem dL_law_1831 : decode cL_law 1831 = .ok (.istore 6, 2) := by decide +kernel
theorem dL_law_1833 : decode cL_law 1833 = .ok (.aload_n 2, 1) := by decide +kernel
theorem dL_law_1834 : decode cL_law 1834 = .ok (.invokevirtual 118, 3) := by decide +kernel
theorem dL_law_1837 : decode cL_law 1837 = .ok (.iload 5, 2) := by decide +kernel
theorem dL_law_1839 : decode cL_law 1839 = .ok (.if_icmp .eq 5, 3) := by decide +kernel
theorem dL_law_1842 : decode cL_law 1842 = .ok (.iconst 0, 1) := by decide +kernel
theorem dL_law_1843 : decode cL_law 1843 = .ok (.ireturn, 1) := by decide +kernel
theorem dL_law_1844 : decode cL_law 1844 = .ok (.iload 5, 2) := by decide +kernel
theorem dL_law_1846 : decode cL_law 1846 = .ok (.ifCond .ne 15, 3) := by decide +kernel
theorem dL_law_1849 : decode cL_law 1849 = .ok (.aload_n 3, 1) := by decide +kernel
theorem dL_law_1850 : decode cL_law 1850 = .ok (.iconst 0, 1) := by decide +kernel
theorem dL_law_1851 : decode cL_law 1851 = .ok (.laload, 1) := by decide +kernel
theorem dL_law_1852 : decode cL_law 1852 = .ok (.iload 6, 2) := by decide +kernel
theorem dL_law_1854 : decode cL_law 1854 = .ok (.i2l, 1) := by decide +kernel
theorem dL_law_1855 : decode cL_law 1855 = .ok (.lcmp, 1) := by decide +kernel
theorem dL_law_1856 : decode cL_law 1856 = .ok (.ifCond .eq 5, 3) := by decide +kernel
theorem dL_law_1859 : decode cL_law 1859 = .ok (.iconst 0, 1) := by decide +kernel
theorem dL_law_1860 : decode cL_law 1860 = .ok (.ireturn, 1) := by decide +kernel
theorem dL_law_1861 : decode cL_law 1861 = .ok (.goto 263, 3) := by decide +kernel
theorem dL_law_1864 : decode cL_law 1864 = .ok (.aload_n 1, 1) := by decide +kernel
theorem dL_law_1865 : decode cL_law 1865 = .ok (.aload_n 0, 1) := by decide +kernel
theorem dL_law_1866 : decode cL_law 1866 = .ok (.iload 4, 2) := by decide +kernel
theorem dL_law_1868 : decode cL_law 1868 = .ok (.iconst 1, 1) := by decide +kernel
theorem dL_law_1869 : decode cL_law 1869 = .ok (.iadd, 1) := by decide +kernel
theorem dL_law_1870 : decode cL_law 1870 = .ok (.iaload, 1) := by decide +kernel
theorem dL_law_1871 : decode cL_law 1871 = .ok (.aload_n 3, 1) := by decide +kernel
theorem dL_law_1872 : decode cL_law 1872 = .ok (.invokestatic 203, 3) := by decide +kernel
theorem dL_law_1875 : decode cL_law 1875 = .ok (.istore 5, 2) := by decide +kernel
theorem dL_law_1877 : decode cL_law 1877 = .ok (.aload_n 2, 1) := by decide +kernel
theorem dL_law_1878 : decode cL_law 1878 = .ok (.aload_n 0, 1) := by decide +kernel
theorem dL_law_1879 : decode cL_law 1879 = .ok (.iload 4, 2) := by decide +kernel
theorem dL_law_1881 : decode cL_law 1881 = .ok (.iconst 1, 1) := by decide +kernel
theorem dL_law_1882 : decode cL_law 1882 = .ok (.iadd, 1) := by decide +kernel
theorem dL_law_1883 : decode cL_law 1883 = .ok (.iaload, 1) := by decide +kernel
theorem dL_law_1884 : decode cL_law 1884 = .ok (.invokevirtual 205, 3) := by decide +kernel
theorem dL_law_1887 : decode cL_law 1887 = .ok (.istore 6, 2) := by decide +kernel
theorem dL_law_1889 : decode cL_law 1889 = .ok (.aload_n 2, 1) := by decide +kernel
theorem dL_law_1890 : decode cL_law 1890 = .ok (.invokevirtual 118, 3) := by decide +kernel
theorem dL_law_1893 : decode cL_law 1893 = .ok (.iload 5, 2) := by decide +kernel
theorem dL_law_1895 : decode cL_law 1895 = .ok (.if_icmp .eq 5, 3) := by decide +kernel
theorem dL_law_1898 : decode cL_law 1898 = .ok (.iconst 0, 1) := by decide +kernel
theorem dL_law_1899 : decode cL_law 1899 = .ok (.ireturn, 1) := by decide +kernel
theorem dL_law_1900 : decode cL_law 1900 = .ok (.iload 5, 2) := by decide +kernel
theorem dL_law_1902 : decode cL_law 1902 = .ok (.ifCond .ne 15, 3) := by decide +kernel
theorem dL_law_1905 : decode cL_law 1905 = .ok (.aload_n 3, 1) := by decide +kernel
theorem dL_law_1906 : decode cL_law 1906 = .ok (.iconst 0, 1) := by decide +kernel
theorem dL_law_1907 : decode cL_law 1907 = .ok (.laload, 1) := by decide +kernel
theorem dL_law_1908 : decode cL_law 1908 = .ok (.iload 6, 2) := by decide +kernel
theorem dL_law_1910 : decode cL_law 1910 = .ok (.i2l, 1) := by decide +kernel
theorem dL_law_1911 : decode cL_law 1911 = .ok (.lcmp, 1) := by decide +kernel
theorem dL_law_1912 : decode cL_law 1912 = .ok (.ifCond .eq 5, 3) := by decide +kernel
theorem dL_law_1915 : decode cL_law 1915 = .ok (.iconst 0, 1) := by decide +kernel
theorem dL_law_1916 : decode cL_law 1916 = .ok (.ireturn, 1) := by decide +kernel
theorem dL_law_1917 : decode cL_law 1917 = .ok (.goto 207, 3) := by decide +kernel
theorem dL_law_1920 : decode cL_law 1920 = .ok (.aload_n 1, 1) := by decide +kernel
theorem dL_law_1921 : decode cL_law 1921 = .ok (.aload_n 0, 1) := by decide +kernel
theorem dL_law_1922 : decode cL_law 1922 = .ok (.iload 4, 2) := by decide +kernel
theorem dL_law_1924 : decode cL_law 1924 = .ok (.iconst 1, 1) := by decide +kernel
theorem dL_law_1925 : decode cL_law 1925 = .ok (.iadd, 1) := by decide +kernel
theorem dL_law_1926 : decode cL_law 1926 = .ok (.iaload, 1) := by decide +kernel
theorem dL_law_1927 : decode cL_law 1927 = .ok (.aload_n 3, 1) := by decide +kernel
theorem dL_law_1928 : decode cL_law 1928 = .ok (.invokestatic 206, 3) := by decide +kernel
theorem dL_law_1931 : decode cL_law 1931 = .ok (.istore 5, 2) := by decide +kernel
theorem dL_law_1933 : decode cL_law 1933 = .ok (.aload_n 2, 1) := by decide +kernel
theorem dL_law_1934 : decode cL_law 1934 = .ok (.aload_n 0, 1) := by decide +kernel
theorem dL_law_1935 : decode cL_law 1935 = .ok (.iload 4, 2) := by decide +kernel
theorem dL_law_1937 : decode cL_law 1937 = .ok (.iconst 1, 1) := by decide +kernel
theorem dL_law_1938 : decode cL_law 1938 = .ok (.iadd, 1) := by decide +kernel
theorem dL_law_1939 : decode cL_law 1939 = .ok (.iaload, 1) := by decide +kernel
theorem dL_law_1940 : decode cL_law 1940 = .ok (.invokevirtual 208, 3) := by decide +kernel
theorem dL_law_1943 : decode cL_law 1943 = .ok (.istore 6, 2) := by decide +kernel
theorem dL_law_1945 : decode cL_law 1945 = .ok (.aload_n 2, 1) := by decide +kernel
theorem dL_law_1946 : decode cL_law 1946 = .ok (.invokevirtual 118, 3) := by decide +kernel
theorem dL_law_1949 : decode cL_law 1949 = .ok (.iload 5, 2) := by decide +kernel
theorem dL_law_1951 : decode cL_law 1951 = .ok (.if_icmp .eq 5, 3) := by decide +kernel
theorem dL_law_1954 : decode cL_law 1954 = .ok (.iconst 0, 1) := by decide +kernel
theorem dL_law_1955 : decode cL_law 1955 = .ok (.ireturn, 1) := by decide +kernel
theorem dL_law_1956 : decode cL_law 1956 = .ok (.iload 5, 2) := by decide +kernel
theorem dL_law_1958 : decode cL_law 1958 = .ok (.ifCond .ne 15, 3) := by decide +kernel
theorem dL_law_1961 : decode cL_law 1961 = .ok (.aload_n 3, 1) := by decide +kernel
theorem dL_law_1962 : decode cL_law 1962 = .ok (.iconst 0, 1) := by decide +kernel
theorem dL_law_1963 : decode cL_law 1963 = .ok (.laload, 1) := by decide +kernel
theorem dL_law_1964 : decode cL_law 1964 = .ok (.iload 6, 2) := by decide +kernel
theorem dL_law_1966 : decode cL_law 1966 = .ok (.i2l, 1) := by decide +kernel
theorem dL_law_1967 : decode cL_law 1967 = .ok (.lcmp, 1) := by decide +kernel
theorem dL_law_1968 : decode cL_law 1968 = .ok (.ifCond .eq 5, 3) := by decide +kernel
theorem dL_law_1971 : decode cL_law 1971 = .ok (.iconst 0, 1) := by decide +kernel
theorem dL_law_1972 : decode cL_law 1972 = .ok (.ireturn, 1) := by decide +kernel
theorem dL_law_1973 : decode cL_law 1973 = .ok (.goto 151, 3) := by decide +kernel
theorem dL_law_1976 : decode cL_law 1976 = .ok (.aload_n 1, 1) := by decide +kernel
theorem dL_law_1977 : decode cL_law 1977 = .ok (.aload_n 0, 1) := by decide +kernel
theorem dL_law_1978 : decode cL_law 1978 = .ok (.iload 4, 2) := by decide +kernel
theorem dL_law_1980 : decode cL_law 1980 = .ok (.iconst 1, 1) := by decide +kernel
theorem dL_law_1981 : decode cL_law 1981 = .ok (.iadd, 1) := by decide +kernel
theorem dL_law_1982 : decode cL_law 1982 = .ok (.iaload, 1) := by decide +kernel
theorem dL_law_1983 : decode cL_law 1983 = .ok (.aload_n 0, 1) := by decide +kernel
theorem dL_law_1984 : decode cL_law 1984 = .ok (.iload 4, 2) := by decide +kernel
theorem dL_law_1986 : decode cL_law 1986 = .ok (.iconst 2, 1) := by decide +kernel
theorem dL_law_1987 : decode cL_law 1987 = .ok (.iadd, 1) := by decide +kernel
theorem dL_law_1988 : decode cL_law 1988 = .ok (.iaload, 1) := by decide +kernel
theorem dL_law_1989 : decode cL_law 1989 = .ok (.aload_n 3, 1) := by decide +kernel
theorem dL_law_1990 : decode cL_law 1990 = .ok (.invokestatic 209, 3) := by decide +kernel
theorem dL_law_1993 : decode cL_law 1993 = .ok (.istore 5, 2) := by decide +kernel
theorem dL_law_1995 : decode cL_law 1995 = .ok (.aload_n 2, 1) := by decide +kernel
theorem dL_law_1996 : decode cL_law 1996 = .ok (.aload_n 0, 1) := by decide +kernel
theorem dL_law_1997 : decode cL_law 1997 = .ok (.iload 4, 2) := by decide +kernel
theorem dL_law_1999 : decode cL_law 1999 = .ok (.iconst 1, 1) := by decide +kernel
theorem dL_law_2000 : decode cL_law 2000 = .ok (.iadd, 1) := by decide +kernel
theorem dL_law_2001 : decode cL_law 2001 = .ok (.iaload, 1) := by decide +kernel
theorem dL_law_2002 : decode cL_law 2002 = .ok (.aload_n 0, 1) := by decide +kernel
theorem dL_law_2003 : decode cL_law 2003 = .ok (.iload 4, 2) := by decide +kernel
theorem dL_law_2005 : decode cL_law 2005 = .ok (.iconst 2, 1) := by decide +kernel
theorem dL_law_2006 : decode cL_law 2006 = .ok (.iadd, 1) := by decide +kernel
theorem dL_law_2007 : decode cL_law 2007 = .ok (.iaload, 1) := by decide +kernel
theorem dL_law_2008 : decode cL_law 2008 = .ok (.invokevirtual 211, 3) := by decide +kernel
theorem dL_law_2011 : decode cL_law 2011 = .ok (.istore 6, 2) := by decide +kernel
theorem dL_law_2013 : decode cL_law 2013 = .ok (.aload_n 2, 1) := by decide +kernel
theorem dL_law_2014 : decode cL_law 2014 = .ok (.invokevirtual 118, 3) := by decide +kernel
theorem dL_law_2017 : decode cL_law 2017 = .ok (.iload 5, 2) := by decide +kernel
theorem dL_law_2019 : decode cL_law 2019 = .ok (.if_icmp .eq 5, 3) := by decide +kernel
theorem dL_law_2022 : decode cL_law 2022 = .ok (.iconst 0, 1) := by decide +kernel
theorem dL_law_2023 : decode cL_law 2023 = .ok (.ireturn, 1) := by decide +kernel
theorem dL_law_2024 : decode cL_law 2024 = .ok (.iload 5, 2) := by decide +kernel
theorem dL_law_2026 : decode cL_law 2026 = .ok (.ifCond .ne 15, 3) := by decide +kernel
theorem dL_law_2029 : decode cL_law 2029 = .ok (.aload_n 3, 1) := by decide +kernel
theorem dL_law_2030 : decode cL_law 2030 = .ok (.iconst 0, 1) := by decide +kernel
theorem dL_law_2031 : decode cL_law 2031 = .ok (.laload, 1) := by decide +kernel
theorem dL_law_2032 : decode cL_law 2032 = .ok (.iload 6, 2) := by decide +kernel
theorem dL_law_2034 : decode cL_law 2034 = .ok (.i2l, 1) := by decide +kernel
theorem dL_law_2035 : decode cL_law 2035 = .ok (.lcmp, 1) := by decide +kernel
theorem dL_law_2036 : decode cL_law 2036 = .ok (.ifCond .eq 5, 3) := by decide +kernel
theorem dL_law_2039 : decode cL_law 2039 = .ok (.iconst 0, 1) := by decide +kernel
theorem dL_law_2040 : decode cL_law 2040 = .ok (.ireturn, 1) := by decide +kernel
theorem dL_law_2041 : decode cL_law 2041 = .ok (.goto 83, 3) := by decide +kernel
theorem dL_law_2044 : decode cL_law 2044 = .ok (.aload_n 1, 1) := by decide +kernel
theorem dL_law_2045 : decode cL_law 2045 = .ok (.aload_n 0, 1) := by decide +kernel
theorem dL_law_2046 : decode cL_law 2046 = .ok (.iload 4, 2) := by decide +kernel
theorem dL_law_2048 : decode cL_law 2048 = .ok (.iconst 1, 1) := by decide +kernel
theorem dL_law_2049 : decode cL_law 2049 = .ok (.iadd, 1) := by decide +kernel
theorem dL_law_2050 : decode cL_law 2050 = .ok (.iaload, 1) := by decide +kernel
theorem dL_law_2051 : decode cL_law 2051 = .ok (.aload_n 0, 1) := by decide +kernel
theorem dL_law_2052 : decode cL_law 2052 = .ok (.iload 4, 2) := by decide +kernel
theorem dL_law_2054 : decode cL_law 2054 = .ok (.iconst 2, 1) := by decide +kernel
theorem dL_law_2055 : decode cL_law 2055 = .ok (.iadd, 1) := by decide +kernel
theorem dL_law_2056 : decode cL_law 2056 = .ok (.iaload, 1) := by decide +kernel
theorem dL_law_2057 : decode cL_law 2057 = .ok (.aload_n 0, 1) := by decide +kernel
theorem dL_law_2058 : decode cL_law 2058 = .ok (.iload 4, 2) := by decide +kernel
theorem dL_law_2060 : decode cL_law 2060 = .ok (.iconst 3, 1) := by decide +kernel
theorem dL_law_2061 : decode cL_law 2061 = .ok (.iadd, 1) := by decide +kernel
theorem dL_law_2062 : decode cL_law 2062 = .ok (.iaload, 1) := by decide +kernel
theorem dL_law_2063 : decode cL_law 2063 = .ok (.aload_n 3, 1) := by decide +kernel
theorem dL_law_2064 : decode cL_law 2064 = .ok (.invokestatic 212, 3) := by decide +kernel
theorem dL_law_2067 : decode cL_law 2067 = .ok (.istore 5, 2) := by decide +kernel
theorem dL_law_2069 : decode cL_law 2069 = .ok (.aload_n 2, 1) := by decide +kernel
theorem dL_law_2070 : decode cL_law 2070 = .ok (.aload_n 0, 1) := by decide +kernel
theorem dL_law_2071 : decode cL_law 2071 = .ok (.iload 4, 2) := by decide +kernel
theorem dL_law_2073 : decode cL_law 2073 = .ok (.iconst 1, 1) := by decide +kernel
theorem dL_law_2074 : decode cL_law 2074 = .ok (.iadd, 1) := by decide +kernel
theorem dL_law_2075 : decode cL_law 2075 = .ok (.iaload, 1) := by decide +kernel
theorem dL_law_2076 : decode cL_law 2076 = .ok (.aload_n 0, 1) := by decide +kernel
theorem dL_law_2077 : decode cL_law 2077 = .ok (.iload 4, 2) := by decide +kernel
theorem dL_law_2079 : decode cL_law 2079 = .ok (.iconst 2, 1) := by decide +kernel
theorem dL_law_2080 : decode cL_law 2080 = .ok (.iadd, 1) := by decide +kernel
theorem dL_law_2081 : decode cL_law 2081 = .ok (.iaload, 1) := by decide +kernel
theorem dL_law_2082 : decode cL_law 2082 = .ok (.aload_n 0, 1) := by decide +kernel
theorem dL_law_2083 : decode cL_law 2083 = .ok (.iload 4, 2) := by decide +kernel
theorem dL_law_2085 : decode cL_law 2085 = .ok (.iconst 3, 1) := by decide +kernel
theorem dL_law_2086 : decode cL_law 2086 = .ok (.iadd, 1) := by decide +kernel
theorem dL_law_2087 : decode cL_law 2087 = .ok (.iaload, 1) := by decide +kernel
theorem dL_law_2088 : decode cL_law 2088 = .ok (.invokevirtual 214, 3) := by decide +kernel
theorem dL_law_2091 : decode cL_law 2091 = .ok (.istore 6, 2) := by decide +kernel
theorem dL_law_2093 : decode cL_law 2093 = .ok (.aload_n 2, 1) := by decide +kernel
theorem dL_law_2094 : decode cL_law 2094 = .ok (.invokevirtual 118, 3) := by decide +kernel
theorem dL_law_2097 : decode cL_law 2097 = .ok (.iload 5, 2) := by decide +kernel
theorem dL_law_2099 : decode cL_law 2099 = .ok (.if_icmp .eq 5, 3) := by decide +kernel
theorem dL_law_2102 : decode cL_law 2102 = .ok (.iconst 0, 1) := by decide +kernel
theorem dL_law_2103 : decode cL_law 2103 = .ok (.ireturn, 1) := by decide +kernel
theorem dL_law_2104 : decode cL_law 2104 = .ok (.iload 5, 2) := by decide +kernel
theorem dL_law_2106 : decode cL_law 2106 = .ok (.ifCond .ne 15, 3) := by decide +kernel
theorem dL_law_2109 : decode cL_law 2109 = .ok (.aload_n 3, 1) := by decide +kernel
theorem dL_law_2110 : decode cL_law 2110 = .ok (.iconst 0, 1) := by decide +kernel
theorem dL_law_2111 : decode cL_law 2111 = .ok (.laload, 1) := by decide +kernel
theorem dL_law_2112 : decode cL_law 2112 = .ok (.iload 6, 2) := by decide +kernel
theorem dL_law_2114 : decode cL_law 2114 = .ok (.i2l, 1) := by decide +kernel
theorem dL_law_2115 : decode cL_law 2115 = .ok (.lcmp, 1) := by decide +kernel
theorem dL_law_2116 : decode cL_law 2116 = .ok (.ifCond .eq 5, 3) := by decide +kernel
theorem dL_law_2119 : decode cL_law 2119 = .ok (.iconst 0, 1) := by decide +kernel
theorem dL_law_2120 : decode cL_law 2120 = .ok (.ireturn, 1) := by decide +kernel
theorem dL_law_2121 : decode cL_law 2121 = .ok (.goto 3, 3) := by decide +kernel
theorem dL_law_2124 : decode cL_law 2124 = .ok (.iinc 4 5, 3) := by decide +kernel
theorem dL_law_2127 : decode cL_law 2127 = .ok (.goto (-2104), 3) := by decide +kernel
theorem dL_law_2130 : decode cL_law 2130 = .ok (.iconst 1, 1) := by decide +kernel
theorem dL_law_2131 : decode cL_law 2131 = .ok (.ireturn, 1) := by decide +kernel
end
section
/-- a body's surroundings, as one tuple -/
abbrev XS : Type := Program × Launch × Env × Room × State × MethodId × Array Value × List Frame × Method × Code
/-- what is fixed for the whole run: the first address that the law's own cells have; classes; class numbers of arrays and addresses of constants; what is known of constants and statics -/
abbrev GG : Type := Nat × va_G × (Nat → Nat) × (State → Heap → Prop)
def gA (G : GG) : Nat → Prop := fun q => G.1 ≤ q
def gT (G : GG) : List (ClassId × FieldType) := [(G.2.2.1 0, .int), (G.2.2.1 1, .boolean), (G.2.2.1 2, .object "java/lang/Object"), (G.2.2.1 3, .long)]
/-- a word that isn't kept by itself: a nest mate's, a cast's -/
def isN : Cond → Bool
  | .fieldLinkNest .. => true
  | .methodLinkNest .. => true
  | .castable .. => true
  | _ => false
def wN : List Cond := tables_1.filter isN
def exN : List String := ["java/lang/RuntimeException", "java/lang/Exception"]
/-- the words of the three throws -/
def wT : List Cond := vx_atS RX7 296 "java/lang/IndexOutOfBoundsException" exN ++ (vx_atS RX7 303 "java/lang/IllegalArgumentException" exN ++ vx_atS RX7 308 "java/lang/IllegalStateException" exN)
def gF : List (String × String × String × List Int32) := [("NuggetCamp$Gear", "inches", "I", [0, 2, 10, 40]), ("NuggetCamp$Gear", "mostTaken", "I", [20, 100, 400, 2000]), ("NuggetCamp$Gear", "hundredths", "I", [90, 70, 80, 50])]
/-- what is known of constants and statics: G.2.2.1 10 ArrayList's empty array, 11 the array GEARS, 20 .. 23 the gears -/
def SFx (G : GG) (s : State) (H : Heap) : Prop :=
  (∀ x ∈ wN, va_Nw x s) ∧ (∀ x ∈ wT, ∀ args : Array Value, x.before args s = true) ∧ vx_Zq Bundle.tN "UNASSIGNED_STACK" Bundle.steD (gA G) s H ∧ vx_Zq Bundle.tN "SUPPRESSED_SENTINEL" Bundle.listD (gA G) s H ∧
  (∀ q ∈ ([(294, "there is no such cell, miner, claim or right"), (301, "an argument is out of its range"), (306, "this can not be done now"), (312, "there is no such miner"), (324, "there is no such method"), (318, "there is no such claim")] : List (Nat × String)), ∃ sa : Nat, vk_R RX7 q.1 q.2 sa s) ∧
  va_Z "java/util/ArrayList" "DEFAULTCAPACITY_EMPTY_ELEMENTDATA" "[Ljava/lang/Object;" (.ref (G.2.2.1 10)) (gA G) s H ∧ va_T (.object "java/lang/Object") (G.2.2.1 10) 0 (fun _ => .null) (gA G) s H ∧
  va_Z "NuggetCamp" "GEARS" "[LNuggetCamp$Gear;" (.ref (G.2.2.1 11)) (gA G) s H ∧ va_T (.object "NuggetCamp$Gear") (G.2.2.1 11) 4 (fun j => .ref (G.2.2.1 (20 + j))) (gA G) s H ∧
  va_En "NuggetCamp$Gear" "LNuggetCamp$Gear;" ["PAN", "ROCKER", "SLUICE", "MONITOR"] gF (fun j => G.2.2.1 (20 + j)) (gA G) s H ∧
  (va_Nc "java/lang/IllegalArgumentException" "java/lang/IndexOutOfBoundsException" s ∧ va_Nc "java/lang/IllegalStateException" "java/lang/IndexOutOfBoundsException" s ∧ va_Nc "java/lang/IllegalStateException" "java/lang/IllegalArgumentException" s) ∧
  va_AO "java/lang/Object" s
/-- what is owed of G once: its facts go with the tables, stay where nothing old is written, and say SFx -/
def GOK (G : GG) : Prop := (∀ (s U : State) (H : Heap), s.WarmedH U.vm → G.2.2.2 s H → G.2.2.2 U H) ∧ (∀ (s : State) (H H1 : Heap), G.2.2.2 s H → (∀ a : Nat, a < H.size → ¬ gA G a → H1[a]? = H[a]?) → G.2.2.2 s H1) ∧ ∀ (s : State) (H : Heap), G.2.2.2 s H → SFx G s H
/-- the words that every method is given -/
def wA : List Cond := lw_tbl.filter goodWord
def wC (y : MethodName) (cc : ByteArray) (nL : Nat) (ret : Option FieldType) : List Cond := Cond.code y cc nL ret :: wA
/-- start, end by return, end by throw: over whole worlds -/
def cP (G : GG) (w : va_W) (av : List Value) : Array Value → State → Prop := va_Pc av (fun U => G.1 ≤ U.heap.size ∧ va_P G.2.1 vwCl w U.heap ∧ va_D (gA G) w ∧ va_K G.2.1 vwCl (gT G) U ∧ G.2.2.2 U U.heap)
def cQ (G : GG) (R : Option Value → va_W → Prop) : Array Value → State → Outcome → State → Prop := fun _ st o t => (∃ (v : Option Value) (w' : va_W), o = .returned v ∧ R v w' ∧ va_P G.2.1 vwCl w' t.heap ∧ va_D (gA G) w') ∧ va_F (gA G) st t
def cX (G : GG) (XP : String → va_W → Prop) : String → State → State → Prop := fun E st t => (∃ w' : va_W, XP E w' ∧ va_P G.2.1 vwCl w' t.heap ∧ va_D (gA G) w') ∧ va_F (gA G) st t
/-- a method's contract: from the world w with the arguments av it returns (R: the answer, the world behind it) or throws (XP: the class's name, the world) -/
def Mth (l : Launch) (y : MethodName) (cc : ByteArray) (nL : Nat) (ret : Option FieldType) (rm : Room) (G : GG) (w : va_W) (av : List Value) (R : Option Value → va_W → Prop) (XP : String → va_W → Prop) : Prop :=
  vx_Met l y (wC y cc nL ret) rm (cP G w av) (cQ G R) (cX G XP) rm.cells rm.slots (gA G)
/-- nothing is thrown -/
def nX : String → va_W → Prop := fun _ _ => False
def Cx (X : XS) (G : GG) (cc : ByteArray) (nL : Nat) (own : String) (ret : Option FieldType) (rm : Room) (nm : String) (tb : List ExceptionTableEntry) : Prop :=
  X.1.tables.exec = Jvm.exec ∧ X.2.2.2.2.2.2.2.2.2.code = cc ∧ X.2.2.2.2.2.2.2.2.2.maxLocals = nL ∧ X.2.2.2.2.1.vm.findClass own = some X.2.2.2.2.2.1.cls ∧ (∀ w ∈ wA, w.before X.2.2.2.2.2.2.1 X.2.2.2.2.1 = true) ∧ X.2.1.stackTraces = false ∧
  X.2.2.2.2.2.2.2.2.1.locks = false ∧ X.2.2.2.2.2.2.2.2.1.sig.returnType = ret ∧ X.2.2.2.1 = rm ∧ GOK G ∧ G.2.2.2 X.2.2.2.2.1 X.2.2.2.2.1.heap ∧ G.1 ≤ X.2.2.2.2.1.heap.size ∧ va_K G.2.1 vwCl (gT G) X.2.2.2.2.1 ∧ X.2.2.2.2.2.2.2.2.1.name = nm ∧ X.2.2.2.2.2.2.2.2.2.exceptionTable.toList = tb
/-- from any heap that holds the world w, with these locals and this stack at pc, the machine comes to Q -/
def V (X : XS) (G : GG) (nL : Nat) (w : va_W) (k n : Nat) (Q : State → Prop) (pc : Nat) (lv : List (Nat × Value)) (st : List Value) : Prop :=
  ∀ (H : Heap) (locs : List Loc) (ls : Array Slot), va_P G.2.1 vwCl w H → va_D (gA G) w → va_S (gA G) X.2.2.2.2.1.heap H locs → lv_has ls nL lv →
    W X.1 X.2.1 X.2.2.1 X.2.2.2.1 X.2.2.2.2.1 X.2.2.2.2.2.1 X.2.2.2.2.2.2.1 X.2.2.2.2.2.2.2.1 X.2.2.2.2.2.2.2.2.1 X.2.2.2.2.2.2.2.2.2 H locs k n Q (F0 X.2.2.2.2.2.1 pc ls st)
/-- .. with an exception of the class E thrown there -/
def VX (X : XS) (G : GG) (nL : Nat) (w : va_W) (k n : Nat) (Q : State → Prop) (pc : Nat) (lv : List (Nat × Value)) (E : String) : Prop :=
  ∀ (H : Heap) (locs : List Loc) (ls : Array Slot) (q : Addr) (ce : Cell) (rest : List Value), va_P G.2.1 vwCl w H → va_D (gA G) w → va_S (gA G) X.2.2.2.2.1.heap H locs → lv_has ls nL lv → H[q]? = some ce → ce.vm = .none → X.2.2.2.2.1.vm.findClass E = some ce.cls →
    vx_W X.1 X.2.1 X.2.2.1 X.2.2.2.1 X.2.2.2.2.1 X.2.2.2.2.2.1 X.2.2.2.2.2.2.1 X.2.2.2.2.2.2.2.1 X.2.2.2.2.2.2.2.2.1 X.2.2.2.2.2.2.2.2.2 H locs k n Q (F0 X.2.2.2.2.2.1 pc ls rest) q
/-- the end that a body owes -/
def Tg (X : XS) (G : GG) (rm : Room) (R : Option Value → va_W → Prop) (XP : String → va_W → Prop) : State → Prop := vx_MQ X.2.2.2.2.2.2.2.1 (cQ G R) (cX G XP) X.2.2.2.2.2.2.1 X.2.2.2.2.1 rm.cells rm.slots (gA G)
theorem v_iconst {X : XS} {G : GG} {cc : ByteArray} {nL : Nat} {own : String} {ret : Option FieldType} {rm : Room} {nm : String} {tb : List ExceptionTableEntry} {w : va_W} {k n : Nat} {Q : State → Prop} {pc q : Nat} {lv : List (Nat × Value)} {st : List Value} (C : Cx X G cc nL own ret rm nm tb) {z : Int} {v : Int32} (d : decode cc pc = .ok (.iconst z, 1)) (hq : pc + 1 = q) (hv : Int32.ofInt z = v) (kk : V X G nL w k n Q q lv (.int v :: st)) : V X G nL w k n Q pc lv (st) := by
  subst hq
  obtain ⟨p, l, e, R, s, m, args, below, meth, c⟩ := X
  obtain ⟨hx, hb, hml, hown, hts, hst, hlk, hr, hR, hG, hF, hz, hK, hnm, htb⟩ := C
  intro H locs ls hP hD hS hl
  exact lv_iconst hx hb d hv (kk H locs ls hP hD hS hl)

theorem v_bipush {X : XS} {G : GG} {cc : ByteArray} {nL : Nat} {own : String} {ret : Option FieldType} {rm : Room} {nm : String} {tb : List ExceptionTableEntry} {w : va_W} {k n : Nat} {Q : State → Prop} {pc q : Nat} {lv : List (Nat × Value)} {st : List Value} (C : Cx X G cc nL own ret rm nm tb) {z : Int} {v : Int32} (d : decode cc pc = .ok (.bipush z, 2)) (hq : pc + 2 = q) (hv : (Int8.ofInt z).toInt32 = v) (kk : V X G nL w k n Q q lv (.int v :: st)) : V X G nL w k n Q pc lv (st) := by
  subst hq
  obtain ⟨p, l, e, R, s, m, args, below, meth, c⟩ := X
  obtain ⟨hx, hb, hml, hown, hts, hst, hlk, hr, hR, hG, hF, hz, hK, hnm, htb⟩ := C
  intro H locs ls hP hD hS hl
  exact lv_bipush hx hb d hv (kk H locs ls hP hD hS hl)

theorem v_sipush {X : XS} {G : GG} {cc : ByteArray} {nL : Nat} {own : String} {ret : Option FieldType} {rm : Room} {nm : String} {tb : List ExceptionTableEntry} {w : va_W} {k n : Nat} {Q : State → Prop} {pc q : Nat} {lv : List (Nat × Value)} {st : List Value} (C : Cx X G cc nL own ret rm nm tb) {z : Int} {v : Int32} (d : decode cc pc = .ok (.sipush z, 3)) (hq : pc + 3 = q) (hv : (Int16.ofInt z).toInt32 = v) (kk : V X G nL w k n Q q lv (.int v :: st)) : V X G nL w k n Q pc lv (st) := by
  subst hq
  obtain ⟨p, l, e, R, s, m, args, below, meth, c⟩ := X
  obtain ⟨hx, hb, hml, hown, hts, hst, hlk, hr, hR, hG, hF, hz, hK, hnm, htb⟩ := C
  intro H locs ls hP hD hS hl
  exact lv_sipush hx hb d hv (kk H locs ls hP hD hS hl)

theorem v_lconst {X : XS} {G : GG} {cc : ByteArray} {nL : Nat} {own : String} {ret : Option FieldType} {rm : Room} {nm : String} {tb : List ExceptionTableEntry} {w : va_W} {k n : Nat} {Q : State → Prop} {pc q : Nat} {lv : List (Nat × Value)} {st : List Value} (C : Cx X G cc nL own ret rm nm tb) {z : Fin 2} {v : Int64} (d : decode cc pc = .ok (.lconst z, 1)) (hq : pc + 1 = q) (hv : Int64.ofNat (z : Nat) = v) (kk : V X G nL w k n Q q lv (.long v :: st)) : V X G nL w k n Q pc lv (st) := by
  subst hq
  obtain ⟨p, l, e, R, s, m, args, below, meth, c⟩ := X
  obtain ⟨hx, hb, hml, hown, hts, hst, hlk, hr, hR, hG, hF, hz, hK, hnm, htb⟩ := C
  intro H locs ls hP hD hS hl
  exact lv_lconst hx hb d hv (kk H locs ls hP hD hS hl)

theorem v_ldc {X : XS} {G : GG} {cc : ByteArray} {nL : Nat} {own : String} {ret : Option FieldType} {rm : Room} {nm : String} {tb : List ExceptionTableEntry} {w : va_W} {k n : Nat} {Q : State → Prop} {pc q : Nat} {lv : List (Nat × Value)} {st : List Value} (C : Cx X G cc nL own ret rm nm tb) {i : Nat} {v : Int32} (d : decode cc pc = .ok (.ldc i, 2)) (hq : pc + 2 = q) (hc : Cond.constant own i v ∈ wA) (kk : V X G nL w k n Q q lv (.int v :: st)) : V X G nL w k n Q pc lv (st) := by
  subst hq
  obtain ⟨p, l, e, R, s, m, args, below, meth, c⟩ := X
  obtain ⟨hx, hb, hml, hown, hts, hst, hlk, hr, hR, hG, hF, hz, hK, hnm, htb⟩ := C
  intro H locs ls hP hD hS hl
  exact lv_ldc hx hb hown (hts _ hc) d (kk H locs ls hP hD hS hl)

theorem v_ldc2 {X : XS} {G : GG} {cc : ByteArray} {nL : Nat} {own : String} {ret : Option FieldType} {rm : Room} {nm : String} {tb : List ExceptionTableEntry} {w : va_W} {k n : Nat} {Q : State → Prop} {pc q : Nat} {lv : List (Nat × Value)} {st : List Value} (C : Cx X G cc nL own ret rm nm tb) {i : Nat} {v : Int64} (d : decode cc pc = .ok (.ldc2_w i, 3)) (hq : pc + 3 = q) (hc : Cond.constantLong own i v ∈ wA) (kk : V X G nL w k n Q q lv (.long v :: st)) : V X G nL w k n Q pc lv (st) := by
  subst hq
  obtain ⟨p, l, e, R, s, m, args, below, meth, c⟩ := X
  obtain ⟨hx, hb, hml, hown, hts, hst, hlk, hr, hR, hG, hF, hz, hK, hnm, htb⟩ := C
  intro H locs ls hP hD hS hl
  exact lv_ldc2 hx hb hown (hts _ hc) d (kk H locs ls hP hD hS hl)

theorem v_iload_n {X : XS} {G : GG} {cc : ByteArray} {nL : Nat} {own : String} {ret : Option FieldType} {rm : Room} {nm : String} {tb : List ExceptionTableEntry} {w : va_W} {k n : Nat} {Q : State → Prop} {pc q : Nat} {lv : List (Nat × Value)} {st : List Value} (C : Cx X G cc nL own ret rm nm tb) {i : Fin 4} {x : Int32} (d : decode cc pc = .ok (.iload_n i, 1)) (hq : pc + 1 = q) (j : Nat) (h : lv[j]? = some ((i : Nat), .int x)) (kk : V X G nL w k n Q q lv (.int x :: st)) : V X G nL w k n Q pc lv (st) := by
  subst hq
  obtain ⟨p, l, e, R, s, m, args, below, meth, c⟩ := X
  obtain ⟨hx, hb, hml, hown, hts, hst, hlk, hr, hR, hG, hF, hz, hK, hnm, htb⟩ := C
  intro H locs ls hP hD hS hl
  exact lv_iload_n hx hb d rfl (lv_at hl j h) (kk H locs ls hP hD hS hl)

theorem v_iload {X : XS} {G : GG} {cc : ByteArray} {nL : Nat} {own : String} {ret : Option FieldType} {rm : Room} {nm : String} {tb : List ExceptionTableEntry} {w : va_W} {k n : Nat} {Q : State → Prop} {pc q : Nat} {lv : List (Nat × Value)} {st : List Value} (C : Cx X G cc nL own ret rm nm tb) {i : Nat} {x : Int32} (d : decode cc pc = .ok (.iload i, 2)) (hq : pc + 2 = q) (j : Nat) (h : lv[j]? = some (i, .int x)) (kk : V X G nL w k n Q q lv (.int x :: st)) : V X G nL w k n Q pc lv (st) := by
  subst hq
  obtain ⟨p, l, e, R, s, m, args, below, meth, c⟩ := X
  obtain ⟨hx, hb, hml, hown, hts, hst, hlk, hr, hR, hG, hF, hz, hK, hnm, htb⟩ := C
  intro H locs ls hP hD hS hl
  exact lv_iload hx hb d (lv_at hl j h) (kk H locs ls hP hD hS hl)

theorem v_aload_n {X : XS} {G : GG} {cc : ByteArray} {nL : Nat} {own : String} {ret : Option FieldType} {rm : Room} {nm : String} {tb : List ExceptionTableEntry} {w : va_W} {k n : Nat} {Q : State → Prop} {pc q : Nat} {lv : List (Nat × Value)} {st : List Value} (C : Cx X G cc nL own ret rm nm tb) {i : Fin 4} {x : Nat} (d : decode cc pc = .ok (.aload_n i, 1)) (hq : pc + 1 = q) (j : Nat) (h : lv[j]? = some ((i : Nat), .ref x)) (kk : V X G nL w k n Q q lv (.ref x :: st)) : V X G nL w k n Q pc lv (st) := by
  subst hq
  obtain ⟨p, l, e, R, s, m, args, below, meth, c⟩ := X
  obtain ⟨hx, hb, hml, hown, hts, hst, hlk, hr, hR, hG, hF, hz, hK, hnm, htb⟩ := C
  intro H locs ls hP hD hS hl
  exact lv_aload_n hx hb d rfl (lv_at hl j h) (kk H locs ls hP hD hS hl)

theorem v_aload {X : XS} {G : GG} {cc : ByteArray} {nL : Nat} {own : String} {ret : Option FieldType} {rm : Room} {nm : String} {tb : List ExceptionTableEntry} {w : va_W} {k n : Nat} {Q : State → Prop} {pc q : Nat} {lv : List (Nat × Value)} {st : List Value} (C : Cx X G cc nL own ret rm nm tb) {i : Nat} {x : Nat} (d : decode cc pc = .ok (.aload i, 2)) (hq : pc + 2 = q) (j : Nat) (h : lv[j]? = some (i, .ref x)) (kk : V X G nL w k n Q q lv (.ref x :: st)) : V X G nL w k n Q pc lv (st) := by
  subst hq
  obtain ⟨p, l, e, R, s, m, args, below, meth, c⟩ := X
  obtain ⟨hx, hb, hml, hown, hts, hst, hlk, hr, hR, hG, hF, hz, hK, hnm, htb⟩ := C
  intro H locs ls hP hD hS hl
  exact lv_aload hx hb d (lv_at hl j h) (kk H locs ls hP hD hS hl)

theorem v_istore_n {X : XS} {G : GG} {cc : ByteArray} {nL : Nat} {own : String} {ret : Option FieldType} {rm : Room} {nm : String} {tb : List ExceptionTableEntry} {w : va_W} {k n : Nat} {Q : State → Prop} {pc q : Nat} {lv : List (Nat × Value)} {st : List Value} (C : Cx X G cc nL own ret rm nm tb) {i : Fin 4} {x : Int32} {lv1 : List (Nat × Value)} (d : decode cc pc = .ok (.istore_n i, 1)) (hq : pc + 1 = q) (hn : (i : Nat) < nL) (hl1 : ((i : Nat), Value.int x) :: lv.filter (fun q => !(q.1 == (i : Nat)) && !(q.1 + 1 == (i : Nat) && q.2.category == 2)) = lv1) (kk : V X G nL w k n Q q lv1 (st)) : V X G nL w k n Q pc lv (.int x :: st) := by
  subst hq
  obtain ⟨p, l, e, R, s, m, args, below, meth, c⟩ := X
  obtain ⟨hx, hb, hml, hown, hts, hst, hlk, hr, hR, hG, hF, hz, hK, hnm, htb⟩ := C
  intro H locs ls hP hD hS hl
  exact lv_istore_n hx hb d rfl hl hn hl1 (fun ls1 hl2 => kk H locs ls1 hP hD hS hl2)

theorem v_istore {X : XS} {G : GG} {cc : ByteArray} {nL : Nat} {own : String} {ret : Option FieldType} {rm : Room} {nm : String} {tb : List ExceptionTableEntry} {w : va_W} {k n : Nat} {Q : State → Prop} {pc q : Nat} {lv : List (Nat × Value)} {st : List Value} (C : Cx X G cc nL own ret rm nm tb) {i : Nat} {x : Int32} {lv1 : List (Nat × Value)} (d : decode cc pc = .ok (.istore i, 2)) (hq : pc + 2 = q) (hn : i < nL) (hl1 : (i, Value.int x) :: lv.filter (fun q => !(q.1 == i) && !(q.1 + 1 == i && q.2.category == 2)) = lv1) (kk : V X G nL w k n Q q lv1 (st)) : V X G nL w k n Q pc lv (.int x :: st) := by
  subst hq
  obtain ⟨p, l, e, R, s, m, args, below, meth, c⟩ := X
  obtain ⟨hx, hb, hml, hown, hts, hst, hlk, hr, hR, hG, hF, hz, hK, hnm, htb⟩ := C
  intro H locs ls hP hD hS hl
  exact lv_istore hx hb d hl hn hl1 (fun ls1 hl2 => kk H locs ls1 hP hD hS hl2)

theorem v_astore_n {X : XS} {G : GG} {cc : ByteArray} {nL : Nat} {own : String} {ret : Option FieldType} {rm : Room} {nm : String} {tb : List ExceptionTableEntry} {w : va_W} {k n : Nat} {Q : State → Prop} {pc q : Nat} {lv : List (Nat × Value)} {st : List Value} (C : Cx X G cc nL own ret rm nm tb) {i : Fin 4} {x : Nat} {lv1 : List (Nat × Value)} (d : decode cc pc = .ok (.astore_n i, 1)) (hq : pc + 1 = q) (hn : (i : Nat) < nL) (hl1 : ((i : Nat), Value.ref x) :: lv.filter (fun q => !(q.1 == (i : Nat)) && !(q.1 + 1 == (i : Nat) && q.2.category == 2)) = lv1) (kk : V X G nL w k n Q q lv1 (st)) : V X G nL w k n Q pc lv (.ref x :: st) := by
  subst hq
  obtain ⟨p, l, e, R, s, m, args, below, meth, c⟩ := X
  obtain ⟨hx, hb, hml, hown, hts, hst, hlk, hr, hR, hG, hF, hz, hK, hnm, htb⟩ := C
  intro H locs ls hP hD hS hl
  exact lv_astore_n hx hb d rfl hl hn hl1 (fun ls1 hl2 => kk H locs ls1 hP hD hS hl2)

theorem v_astore {X : XS} {G : GG} {cc : ByteArray} {nL : Nat} {own : String} {ret : Option FieldType} {rm : Room} {nm : String} {tb : List ExceptionTableEntry} {w : va_W} {k n : Nat} {Q : State → Prop} {pc q : Nat} {lv : List (Nat × Value)} {st : List Value} (C : Cx X G cc nL own ret rm nm tb) {i : Nat} {x : Nat} {lv1 : List (Nat × Value)} (d : decode cc pc = .ok (.astore i, 2)) (hq : pc + 2 = q) (hn : i < nL) (hl1 : (i, Value.ref x) :: lv.filter (fun q => !(q.1 == i) && !(q.1 + 1 == i && q.2.category == 2)) = lv1) (kk : V X G nL w k n Q q lv1 (st)) : V X G nL w k n Q pc lv (.ref x :: st) := by
  subst hq
  obtain ⟨p, l, e, R, s, m, args, below, meth, c⟩ := X
  obtain ⟨hx, hb, hml, hown, hts, hst, hlk, hr, hR, hG, hF, hz, hK, hnm, htb⟩ := C
  intro H locs ls hP hD hS hl
  exact lv_astore hx hb d hl hn hl1 (fun ls1 hl2 => kk H locs ls1 hP hD hS hl2)

theorem v_iinc {X : XS} {G : GG} {cc : ByteArray} {nL : Nat} {own : String} {ret : Option FieldType} {rm : Room} {nm : String} {tb : List ExceptionTableEntry} {w : va_W} {k n : Nat} {Q : State → Prop} {pc q : Nat} {lv : List (Nat × Value)} {st : List Value} (C : Cx X G cc nL own ret rm nm tb) {i : Nat} {z : Int} {x v : Int32} {lv1 : List (Nat × Value)} (d : decode cc pc = .ok (.iinc i z, 3)) (hq : pc + 3 = q) (j : Nat) (h : lv[j]? = some (i, .int x)) (hv : x + Int32.ofInt z = v) (hn : i < nL) (hl1 : (i, Value.int v) :: lv.filter (fun q => !(q.1 == i) && !(q.1 + 1 == i && q.2.category == 2)) = lv1) (kk : V X G nL w k n Q q lv1 (st)) : V X G nL w k n Q pc lv (st) := by
  subst hq
  obtain ⟨p, l, e, R, s, m, args, below, meth, c⟩ := X
  obtain ⟨hx, hb, hml, hown, hts, hst, hlk, hr, hR, hG, hF, hz, hK, hnm, htb⟩ := C
  intro H locs ls hP hD hS hl
  exact lv_iinc hx hb d hl h hv hn hl1 (fun ls1 hl2 => kk H locs ls1 hP hD hS hl2)

theorem v_iadd {X : XS} {G : GG} {cc : ByteArray} {nL : Nat} {own : String} {ret : Option FieldType} {rm : Room} {nm : String} {tb : List ExceptionTableEntry} {w : va_W} {k n : Nat} {Q : State → Prop} {pc q : Nat} {lv : List (Nat × Value)} {st : List Value} (C : Cx X G cc nL own ret rm nm tb) {x y : Int32} (d : decode cc pc = .ok (.iadd, 1)) (hq : pc + 1 = q) (kk : V X G nL w k n Q q lv (.int (x + y) :: st)) : V X G nL w k n Q pc lv (.int y :: .int x :: st) := by
  subst hq
  obtain ⟨p, l, e, R, s, m, args, below, meth, c⟩ := X
  obtain ⟨hx, hb, hml, hown, hts, hst, hlk, hr, hR, hG, hF, hz, hK, hnm, htb⟩ := C
  intro H locs ls hP hD hS hl
  exact lv_iadd hx hb d (kk H locs ls hP hD hS hl)

theorem v_isub {X : XS} {G : GG} {cc : ByteArray} {nL : Nat} {own : String} {ret : Option FieldType} {rm : Room} {nm : String} {tb : List ExceptionTableEntry} {w : va_W} {k n : Nat} {Q : State → Prop} {pc q : Nat} {lv : List (Nat × Value)} {st : List Value} (C : Cx X G cc nL own ret rm nm tb) {x y : Int32} (d : decode cc pc = .ok (.isub, 1)) (hq : pc + 1 = q) (kk : V X G nL w k n Q q lv (.int (x - y) :: st)) : V X G nL w k n Q pc lv (.int y :: .int x :: st) := by
  subst hq
  obtain ⟨p, l, e, R, s, m, args, below, meth, c⟩ := X
  obtain ⟨hx, hb, hml, hown, hts, hst, hlk, hr, hR, hG, hF, hz, hK, hnm, htb⟩ := C
  intro H locs ls hP hD hS hl
  exact lv_isub hx hb d (kk H locs ls hP hD hS hl)

theorem v_imul {X : XS} {G : GG} {cc : ByteArray} {nL : Nat} {own : String} {ret : Option FieldType} {rm : Room} {nm : String} {tb : List ExceptionTableEntry} {w : va_W} {k n : Nat} {Q : State → Prop} {pc q : Nat} {lv : List (Nat × Value)} {st : List Value} (C : Cx X G cc nL own ret rm nm tb) {x y : Int32} (d : decode cc pc = .ok (.imul, 1)) (hq : pc + 1 = q) (kk : V X G nL w k n Q q lv (.int (x * y) :: st)) : V X G nL w k n Q pc lv (.int y :: .int x :: st) := by
  subst hq
  obtain ⟨p, l, e, R, s, m, args, below, meth, c⟩ := X
  obtain ⟨hx, hb, hml, hown, hts, hst, hlk, hr, hR, hG, hF, hz, hK, hnm, htb⟩ := C
  intro H locs ls hP hD hS hl
  exact lv_imul hx hb d (kk H locs ls hP hD hS hl)

theorem v_iand {X : XS} {G : GG} {cc : ByteArray} {nL : Nat} {own : String} {ret : Option FieldType} {rm : Room} {nm : String} {tb : List ExceptionTableEntry} {w : va_W} {k n : Nat} {Q : State → Prop} {pc q : Nat} {lv : List (Nat × Value)} {st : List Value} (C : Cx X G cc nL own ret rm nm tb) {x y : Int32} (d : decode cc pc = .ok (.iand, 1)) (hq : pc + 1 = q) (kk : V X G nL w k n Q q lv (.int (x &&& y) :: st)) : V X G nL w k n Q pc lv (.int y :: .int x :: st) := by
  subst hq
  obtain ⟨p, l, e, R, s, m, args, below, meth, c⟩ := X
  obtain ⟨hx, hb, hml, hown, hts, hst, hlk, hr, hR, hG, hF, hz, hK, hnm, htb⟩ := C
  intro H locs ls hP hD hS hl
  exact lv_iand hx hb d (kk H locs ls hP hD hS hl)

theorem v_ior {X : XS} {G : GG} {cc : ByteArray} {nL : Nat} {own : String} {ret : Option FieldType} {rm : Room} {nm : String} {tb : List ExceptionTableEntry} {w : va_W} {k n : Nat} {Q : State → Prop} {pc q : Nat} {lv : List (Nat × Value)} {st : List Value} (C : Cx X G cc nL own ret rm nm tb) {x y : Int32} (d : decode cc pc = .ok (.ior, 1)) (hq : pc + 1 = q) (kk : V X G nL w k n Q q lv (.int (x ||| y) :: st)) : V X G nL w k n Q pc lv (.int y :: .int x :: st) := by
  subst hq
  obtain ⟨p, l, e, R, s, m, args, below, meth, c⟩ := X
  obtain ⟨hx, hb, hml, hown, hts, hst, hlk, hr, hR, hG, hF, hz, hK, hnm, htb⟩ := C
  intro H locs ls hP hD hS hl
  exact lv_ior hx hb d (kk H locs ls hP hD hS hl)

theorem v_lmul {X : XS} {G : GG} {cc : ByteArray} {nL : Nat} {own : String} {ret : Option FieldType} {rm : Room} {nm : String} {tb : List ExceptionTableEntry} {w : va_W} {k n : Nat} {Q : State → Prop} {pc q : Nat} {lv : List (Nat × Value)} {st : List Value} (C : Cx X G cc nL own ret rm nm tb) {x y : Int64} (d : decode cc pc = .ok (.lmul, 1)) (hq : pc + 1 = q) (kk : V X G nL w k n Q q lv (.long (x * y) :: st)) : V X G nL w k n Q pc lv (.long y :: .long x :: st) := by
  subst hq
  obtain ⟨p, l, e, R, s, m, args, below, meth, c⟩ := X
  obtain ⟨hx, hb, hml, hown, hts, hst, hlk, hr, hR, hG, hF, hz, hK, hnm, htb⟩ := C
  intro H locs ls hP hD hS hl
  exact lv_lmul hx hb d (kk H locs ls hP hD hS hl)

theorem v_ineg {X : XS} {G : GG} {cc : ByteArray} {nL : Nat} {own : String} {ret : Option FieldType} {rm : Room} {nm : String} {tb : List ExceptionTableEntry} {w : va_W} {k n : Nat} {Q : State → Prop} {pc q : Nat} {lv : List (Nat × Value)} {st : List Value} (C : Cx X G cc nL own ret rm nm tb) {x : Int32} (d : decode cc pc = .ok (.ineg, 1)) (hq : pc + 1 = q) (kk : V X G nL w k n Q q lv (.int (-x) :: st)) : V X G nL w k n Q pc lv (.int x :: st) := by
  subst hq
  obtain ⟨p, l, e, R, s, m, args, below, meth, c⟩ := X
  obtain ⟨hx, hb, hml, hown, hts, hst, hlk, hr, hR, hG, hF, hz, hK, hnm, htb⟩ := C
  intro H locs ls hP hD hS hl
  exact lv_ineg hx hb d (kk H locs ls hP hD hS hl)

theorem v_idiv {X : XS} {G : GG} {cc : ByteArray} {nL : Nat} {own : String} {ret : Option FieldType} {rm : Room} {nm : String} {tb : List ExceptionTableEntry} {w : va_W} {k n : Nat} {Q : State → Prop} {pc q : Nat} {lv : List (Nat × Value)} {st : List Value} (C : Cx X G cc nL own ret rm nm tb) {x y : Int32} (d : decode cc pc = .ok (.idiv, 1)) (hq : pc + 1 = q) (hne : ¬ y = 0) (kk : V X G nL w k n Q q lv (.int (x / y) :: st)) : V X G nL w k n Q pc lv (.int y :: .int x :: st) := by
  subst hq
  obtain ⟨p, l, e, R, s, m, args, below, meth, c⟩ := X
  obtain ⟨hx, hb, hml, hown, hts, hst, hlk, hr, hR, hG, hF, hz, hK, hnm, htb⟩ := C
  intro H locs ls hP hD hS hl
  exact lv_idiv hx hb d hne (kk H locs ls hP hD hS hl)

theorem v_ldiv {X : XS} {G : GG} {cc : ByteArray} {nL : Nat} {own : String} {ret : Option FieldType} {rm : Room} {nm : String} {tb : List ExceptionTableEntry} {w : va_W} {k n : Nat} {Q : State → Prop} {pc q : Nat} {lv : List (Nat × Value)} {st : List Value} (C : Cx X G cc nL own ret rm nm tb) {x y : Int64} (d : decode cc pc = .ok (.ldiv, 1)) (hq : pc + 1 = q) (hne : ¬ y = 0) (kk : V X G nL w k n Q q lv (.long (x / y) :: st)) : V X G nL w k n Q pc lv (.long y :: .long x :: st) := by
  subst hq
  obtain ⟨p, l, e, R, s, m, args, below, meth, c⟩ := X
  obtain ⟨hx, hb, hml, hown, hts, hst, hlk, hr, hR, hG, hF, hz, hK, hnm, htb⟩ := C
  intro H locs ls hP hD hS hl
  exact lv_ldiv hx hb d hne (kk H locs ls hP hD hS hl)

theorem v_i2l {X : XS} {G : GG} {cc : ByteArray} {nL : Nat} {own : String} {ret : Option FieldType} {rm : Room} {nm : String} {tb : List ExceptionTableEntry} {w : va_W} {k n : Nat} {Q : State → Prop} {pc q : Nat} {lv : List (Nat × Value)} {st : List Value} (C : Cx X G cc nL own ret rm nm tb) {x : Int32} (d : decode cc pc = .ok (.i2l, 1)) (hq : pc + 1 = q) (kk : V X G nL w k n Q q lv (.long x.toInt64 :: st)) : V X G nL w k n Q pc lv (.int x :: st) := by
  subst hq
  obtain ⟨p, l, e, R, s, m, args, below, meth, c⟩ := X
  obtain ⟨hx, hb, hml, hown, hts, hst, hlk, hr, hR, hG, hF, hz, hK, hnm, htb⟩ := C
  intro H locs ls hP hD hS hl
  exact lv_i2l hx hb d rfl (kk H locs ls hP hD hS hl)

theorem v_l2i {X : XS} {G : GG} {cc : ByteArray} {nL : Nat} {own : String} {ret : Option FieldType} {rm : Room} {nm : String} {tb : List ExceptionTableEntry} {w : va_W} {k n : Nat} {Q : State → Prop} {pc q : Nat} {lv : List (Nat × Value)} {st : List Value} (C : Cx X G cc nL own ret rm nm tb) {x : Int64} (d : decode cc pc = .ok (.l2i, 1)) (hq : pc + 1 = q) (kk : V X G nL w k n Q q lv (.int x.toInt32 :: st)) : V X G nL w k n Q pc lv (.long x :: st) := by
  subst hq
  obtain ⟨p, l, e, R, s, m, args, below, meth, c⟩ := X
  obtain ⟨hx, hb, hml, hown, hts, hst, hlk, hr, hR, hG, hF, hz, hK, hnm, htb⟩ := C
  intro H locs ls hP hD hS hl
  exact lv_l2i hx hb d rfl (kk H locs ls hP hD hS hl)

theorem v_dup {X : XS} {G : GG} {cc : ByteArray} {nL : Nat} {own : String} {ret : Option FieldType} {rm : Room} {nm : String} {tb : List ExceptionTableEntry} {w : va_W} {k n : Nat} {Q : State → Prop} {pc q : Nat} {lv : List (Nat × Value)} {st : List Value} (C : Cx X G cc nL own ret rm nm tb) {x : Value} (d : decode cc pc = .ok (.dup, 1)) (hq : pc + 1 = q) (hc : x.category = 1) (kk : V X G nL w k n Q q lv (x :: x :: st)) : V X G nL w k n Q pc lv (x :: st) := by
  subst hq
  obtain ⟨p, l, e, R, s, m, args, below, meth, c⟩ := X
  obtain ⟨hx, hb, hml, hown, hts, hst, hlk, hr, hR, hG, hF, hz, hK, hnm, htb⟩ := C
  intro H locs ls hP hD hS hl
  exact lv_dup hx hb d hc (kk H locs ls hP hD hS hl)

theorem v_pop {X : XS} {G : GG} {cc : ByteArray} {nL : Nat} {own : String} {ret : Option FieldType} {rm : Room} {nm : String} {tb : List ExceptionTableEntry} {w : va_W} {k n : Nat} {Q : State → Prop} {pc q : Nat} {lv : List (Nat × Value)} {st : List Value} (C : Cx X G cc nL own ret rm nm tb) {x : Value} (d : decode cc pc = .ok (.pop, 1)) (hq : pc + 1 = q) (hc : x.category = 1) (kk : V X G nL w k n Q q lv (st)) : V X G nL w k n Q pc lv (x :: st) := by
  subst hq
  obtain ⟨p, l, e, R, s, m, args, below, meth, c⟩ := X
  obtain ⟨hx, hb, hml, hown, hts, hst, hlk, hr, hR, hG, hF, hz, hK, hnm, htb⟩ := C
  intro H locs ls hP hD hS hl
  exact lv_pop hx hb d hc (kk H locs ls hP hD hS hl)

theorem v_dup2 {X : XS} {G : GG} {cc : ByteArray} {nL : Nat} {own : String} {ret : Option FieldType} {rm : Room} {nm : String} {tb : List ExceptionTableEntry} {w : va_W} {k n : Nat} {Q : State → Prop} {pc q : Nat} {lv : List (Nat × Value)} {st : List Value} (C : Cx X G cc nL own ret rm nm tb) {x y : Value} (d : decode cc pc = .ok (.dup2, 1)) (hq : pc + 1 = q) (hc : x.category = 1) (hc2 : y.category = 1) (kk : V X G nL w k n Q q lv (x :: y :: x :: y :: st)) : V X G nL w k n Q pc lv (x :: y :: st) := by
  subst hq
  obtain ⟨p, l, e, R, s, m, args, below, meth, c⟩ := X
  obtain ⟨hx, hb, hml, hown, hts, hst, hlk, hr, hR, hG, hF, hz, hK, hnm, htb⟩ := C
  intro H locs ls hP hD hS hl
  exact lv_dup2_11 hx hb d hc hc2 (kk H locs ls hP hD hS hl)

theorem v_dup_x1 {X : XS} {G : GG} {cc : ByteArray} {nL : Nat} {own : String} {ret : Option FieldType} {rm : Room} {nm : String} {tb : List ExceptionTableEntry} {w : va_W} {k n : Nat} {Q : State → Prop} {pc q : Nat} {lv : List (Nat × Value)} {st : List Value} (C : Cx X G cc nL own ret rm nm tb) {x y : Value} (d : decode cc pc = .ok (.dup_x1, 1)) (hq : pc + 1 = q) (hc : x.category = 1) (hc2 : y.category = 1) (kk : V X G nL w k n Q q lv (x :: y :: x :: st)) : V X G nL w k n Q pc lv (x :: y :: st) := by
  subst hq
  obtain ⟨p, l, e, R, s, m, args, below, meth, c⟩ := X
  obtain ⟨hx, hb, hml, hown, hts, hst, hlk, hr, hR, hG, hF, hz, hK, hnm, htb⟩ := C
  intro H locs ls hP hD hS hl
  exact lv_dup_x1 hx hb d hc hc2 (kk H locs ls hP hD hS hl)

theorem v_goto {X : XS} {G : GG} {cc : ByteArray} {nL : Nat} {own : String} {ret : Option FieldType} {rm : Room} {nm : String} {tb : List ExceptionTableEntry} {w : va_W} {k n : Nat} {Q : State → Prop} {pc q : Nat} {lv : List (Nat × Value)} {st : List Value} (C : Cx X G cc nL own ret rm nm tb) {z : Int} (d : decode cc pc = .ok (.goto z, 3)) (ht : (pc : Int) + z = (q : Int)) (kk : V X G nL w k n Q q lv (st)) : V X G nL w k n Q pc lv (st) := by
  obtain ⟨p, l, e, R, s, m, args, below, meth, c⟩ := X
  obtain ⟨hx, hb, hml, hown, hts, hst, hlk, hr, hR, hG, hF, hz, hK, hnm, htb⟩ := C
  intro H locs ls hP hD hS hl
  exact lv_goto hx hb d ht (kk H locs ls hP hD hS hl)

theorem v_if_eq {X : XS} {G : GG} {cc : ByteArray} {nL : Nat} {own : String} {ret : Option FieldType} {rm : Room} {nm : String} {tb : List ExceptionTableEntry} {w : va_W} {k n : Nat} {Q : State → Prop} {pc q : Nat} {lv : List (Nat × Value)} {st : List Value} (C : Cx X G cc nL own ret rm nm tb) {x : Int32} {z : Int} {t : Nat} (d : decode cc pc = .ok (.ifCond .eq z, 3)) (ht : (pc : Int) + z = (t : Int)) (hq : pc + 3 = q) (kt : x = 0 → V X G nL w k n Q t lv (st)) (kf : ¬ x = 0 → V X G nL w k n Q q lv (st)) : V X G nL w k n Q pc lv (.int x :: st) := by
  subst hq
  obtain ⟨p, l, e, R, s, m, args, below, meth, c⟩ := X
  obtain ⟨hx, hb, hml, hown, hts, hst, hlk, hr, hR, hG, hF, hz, hK, hnm, htb⟩ := C
  intro H locs ls hP hD hS hl
  exact lv_if_eq hx hb d ht (fun c => kt c H locs ls hP hD hS hl) (fun c => kf c H locs ls hP hD hS hl)

theorem v_icmp_eq {X : XS} {G : GG} {cc : ByteArray} {nL : Nat} {own : String} {ret : Option FieldType} {rm : Room} {nm : String} {tb : List ExceptionTableEntry} {w : va_W} {k n : Nat} {Q : State → Prop} {pc q : Nat} {lv : List (Nat × Value)} {st : List Value} (C : Cx X G cc nL own ret rm nm tb) {x y : Int32} {z : Int} {t : Nat} (d : decode cc pc = .ok (.if_icmp .eq z, 3)) (ht : (pc : Int) + z = (t : Int)) (hq : pc + 3 = q) (kt : x = y → V X G nL w k n Q t lv (st)) (kf : ¬ x = y → V X G nL w k n Q q lv (st)) : V X G nL w k n Q pc lv (.int y :: .int x :: st) := by
  subst hq
  obtain ⟨p, l, e, R, s, m, args, below, meth, c⟩ := X
  obtain ⟨hx, hb, hml, hown, hts, hst, hlk, hr, hR, hG, hF, hz, hK, hnm, htb⟩ := C
  intro H locs ls hP hD hS hl
  exact lv_icmp_eq hx hb d ht (fun c => kt c H locs ls hP hD hS hl) (fun c => kf c H locs ls hP hD hS hl)

theorem v_if_ne {X : XS} {G : GG} {cc : ByteArray} {nL : Nat} {own : String} {ret : Option FieldType} {rm : Room} {nm : String} {tb : List ExceptionTableEntry} {w : va_W} {k n : Nat} {Q : State → Prop} {pc q : Nat} {lv : List (Nat × Value)} {st : List Value} (C : Cx X G cc nL own ret rm nm tb) {x : Int32} {z : Int} {t : Nat} (d : decode cc pc = .ok (.ifCond .ne z, 3)) (ht : (pc : Int) + z = (t : Int)) (hq : pc + 3 = q) (kt : ¬ x = 0 → V X G nL w k n Q t lv (st)) (kf : x = 0 → V X G nL w k n Q q lv (st)) : V X G nL w k n Q pc lv (.int x :: st) := by
  subst hq
  obtain ⟨p, l, e, R, s, m, args, below, meth, c⟩ := X
  obtain ⟨hx, hb, hml, hown, hts, hst, hlk, hr, hR, hG, hF, hz, hK, hnm, htb⟩ := C
  intro H locs ls hP hD hS hl
  exact lv_if_ne hx hb d ht (fun c => kt c H locs ls hP hD hS hl) (fun c => kf c H locs ls hP hD hS hl)

theorem v_icmp_ne {X : XS} {G : GG} {cc : ByteArray} {nL : Nat} {own : String} {ret : Option FieldType} {rm : Room} {nm : String} {tb : List ExceptionTableEntry} {w : va_W} {k n : Nat} {Q : State → Prop} {pc q : Nat} {lv : List (Nat × Value)} {st : List Value} (C : Cx X G cc nL own ret rm nm tb) {x y : Int32} {z : Int} {t : Nat} (d : decode cc pc = .ok (.if_icmp .ne z, 3)) (ht : (pc : Int) + z = (t : Int)) (hq : pc + 3 = q) (kt : ¬ x = y → V X G nL w k n Q t lv (st)) (kf : x = y → V X G nL w k n Q q lv (st)) : V X G nL w k n Q pc lv (.int y :: .int x :: st) := by
  subst hq
  obtain ⟨p, l, e, R, s, m, args, below, meth, c⟩ := X
  obtain ⟨hx, hb, hml, hown, hts, hst, hlk, hr, hR, hG, hF, hz, hK, hnm, htb⟩ := C
  intro H locs ls hP hD hS hl
  exact lv_icmp_ne hx hb d ht (fun c => kt c H locs ls hP hD hS hl) (fun c => kf c H locs ls hP hD hS hl)

theorem v_if_lt {X : XS} {G : GG} {cc : ByteArray} {nL : Nat} {own : String} {ret : Option FieldType} {rm : Room} {nm : String} {tb : List ExceptionTableEntry} {w : va_W} {k n : Nat} {Q : State → Prop} {pc q : Nat} {lv : List (Nat × Value)} {st : List Value} (C : Cx X G cc nL own ret rm nm tb) {x : Int32} {z : Int} {t : Nat} (d : decode cc pc = .ok (.ifCond .lt z, 3)) (ht : (pc : Int) + z = (t : Int)) (hq : pc + 3 = q) (kt : x < 0 → V X G nL w k n Q t lv (st)) (kf : ¬ x < 0 → V X G nL w k n Q q lv (st)) : V X G nL w k n Q pc lv (.int x :: st) := by
  subst hq
  obtain ⟨p, l, e, R, s, m, args, below, meth, c⟩ := X
  obtain ⟨hx, hb, hml, hown, hts, hst, hlk, hr, hR, hG, hF, hz, hK, hnm, htb⟩ := C
  intro H locs ls hP hD hS hl
  exact lv_if_lt hx hb d ht (fun c => kt c H locs ls hP hD hS hl) (fun c => kf c H locs ls hP hD hS hl)

theorem v_icmp_lt {X : XS} {G : GG} {cc : ByteArray} {nL : Nat} {own : String} {ret : Option FieldType} {rm : Room} {nm : String} {tb : List ExceptionTableEntry} {w : va_W} {k n : Nat} {Q : State → Prop} {pc q : Nat} {lv : List (Nat × Value)} {st : List Value} (C : Cx X G cc nL own ret rm nm tb) {x y : Int32} {z : Int} {t : Nat} (d : decode cc pc = .ok (.if_icmp .lt z, 3)) (ht : (pc : Int) + z = (t : Int)) (hq : pc + 3 = q) (kt : x < y → V X G nL w k n Q t lv (st)) (kf : ¬ x < y → V X G nL w k n Q q lv (st)) : V X G nL w k n Q pc lv (.int y :: .int x :: st) := by
  subst hq
  obtain ⟨p, l, e, R, s, m, args, below, meth, c⟩ := X
  obtain ⟨hx, hb, hml, hown, hts, hst, hlk, hr, hR, hG, hF, hz, hK, hnm, htb⟩ := C
  intro H locs ls hP hD hS hl
  exact lv_icmp_lt hx hb d ht (fun c => kt c H locs ls hP hD hS hl) (fun c => kf c H locs ls hP hD hS hl)

theorem v_if_ge {X : XS} {G : GG} {cc : ByteArray} {nL : Nat} {own : String} {ret : Option FieldType} {rm : Room} {nm : String} {tb : List ExceptionTableEntry} {w : va_W} {k n : Nat} {Q : State → Prop} {pc q : Nat} {lv : List (Nat × Value)} {st : List Value} (C : Cx X G cc nL own ret rm nm tb) {x : Int32} {z : Int} {t : Nat} (d : decode cc pc = .ok (.ifCond .ge z, 3)) (ht : (pc : Int) + z = (t : Int)) (hq : pc + 3 = q) (kt : 0 ≤ x → V X G nL w k n Q t lv (st)) (kf : ¬ 0 ≤ x → V X G nL w k n Q q lv (st)) : V X G nL w k n Q pc lv (.int x :: st) := by
  subst hq
  obtain ⟨p, l, e, R, s, m, args, below, meth, c⟩ := X
  obtain ⟨hx, hb, hml, hown, hts, hst, hlk, hr, hR, hG, hF, hz, hK, hnm, htb⟩ := C
  intro H locs ls hP hD hS hl
  exact lv_if_ge hx hb d ht (fun c => kt c H locs ls hP hD hS hl) (fun c => kf c H locs ls hP hD hS hl)

theorem v_icmp_ge {X : XS} {G : GG} {cc : ByteArray} {nL : Nat} {own : String} {ret : Option FieldType} {rm : Room} {nm : String} {tb : List ExceptionTableEntry} {w : va_W} {k n : Nat} {Q : State → Prop} {pc q : Nat} {lv : List (Nat × Value)} {st : List Value} (C : Cx X G cc nL own ret rm nm tb) {x y : Int32} {z : Int} {t : Nat} (d : decode cc pc = .ok (.if_icmp .ge z, 3)) (ht : (pc : Int) + z = (t : Int)) (hq : pc + 3 = q) (kt : y ≤ x → V X G nL w k n Q t lv (st)) (kf : ¬ y ≤ x → V X G nL w k n Q q lv (st)) : V X G nL w k n Q pc lv (.int y :: .int x :: st) := by
  subst hq
  obtain ⟨p, l, e, R, s, m, args, below, meth, c⟩ := X
  obtain ⟨hx, hb, hml, hown, hts, hst, hlk, hr, hR, hG, hF, hz, hK, hnm, htb⟩ := C
  intro H locs ls hP hD hS hl
  exact lv_icmp_ge hx hb d ht (fun c => kt c H locs ls hP hD hS hl) (fun c => kf c H locs ls hP hD hS hl)

theorem v_if_gt {X : XS} {G : GG} {cc : ByteArray} {nL : Nat} {own : String} {ret : Option FieldType} {rm : Room} {nm : String} {tb : List ExceptionTableEntry} {w : va_W} {k n : Nat} {Q : State → Prop} {pc q : Nat} {lv : List (Nat × Value)} {st : List Value} (C : Cx X G cc nL own ret rm nm tb) {x : Int32} {z : Int} {t : Nat} (d : decode cc pc = .ok (.ifCond .gt z, 3)) (ht : (pc : Int) + z = (t : Int)) (hq : pc + 3 = q) (kt : 0 < x → V X G nL w k n Q t lv (st)) (kf : ¬ 0 < x → V X G nL w k n Q q lv (st)) : V X G nL w k n Q pc lv (.int x :: st) := by
  subst hq
  obtain ⟨p, l, e, R, s, m, args, below, meth, c⟩ := X
  obtain ⟨hx, hb, hml, hown, hts, hst, hlk, hr, hR, hG, hF, hz, hK, hnm, htb⟩ := C
  intro H locs ls hP hD hS hl
  exact lv_if_gt hx hb d ht (fun c => kt c H locs ls hP hD hS hl) (fun c => kf c H locs ls hP hD hS hl)

theorem v_icmp_gt {X : XS} {G : GG} {cc : ByteArray} {nL : Nat} {own : String} {ret : Option FieldType} {rm : Room} {nm : String} {tb : List ExceptionTableEntry} {w : va_W} {k n : Nat} {Q : State → Prop} {pc q : Nat} {lv : List (Nat × Value)} {st : List Value} (C : Cx X G cc nL own ret rm nm tb) {x y : Int32} {z : Int} {t : Nat} (d : decode cc pc = .ok (.if_icmp .gt z, 3)) (ht : (pc : Int) + z = (t : Int)) (hq : pc + 3 = q) (kt : y < x → V X G nL w k n Q t lv (st)) (kf : ¬ y < x → V X G nL w k n Q q lv (st)) : V X G nL w k n Q pc lv (.int y :: .int x :: st) := by
  subst hq
  obtain ⟨p, l, e, R, s, m, args, below, meth, c⟩ := X
  obtain ⟨hx, hb, hml, hown, hts, hst, hlk, hr, hR, hG, hF, hz, hK, hnm, htb⟩ := C
  intro H locs ls hP hD hS hl
  exact lv_icmp_gt hx hb d ht (fun c => kt c H locs ls hP hD hS hl) (fun c => kf c H locs ls hP hD hS hl)

theorem v_if_le {X : XS} {G : GG} {cc : ByteArray} {nL : Nat} {own : String} {ret : Option FieldType} {rm : Room} {nm : String} {tb : List ExceptionTableEntry} {w : va_W} {k n : Nat} {Q : State → Prop} {pc q : Nat} {lv : List (Nat × Value)} {st : List Value} (C : Cx X G cc nL own ret rm nm tb) {x : Int32} {z : Int} {t : Nat} (d : decode cc pc = .ok (.ifCond .le z, 3)) (ht : (pc : Int) + z = (t : Int)) (hq : pc + 3 = q) (kt : x ≤ 0 → V X G nL w k n Q t lv (st)) (kf : ¬ x ≤ 0 → V X G nL w k n Q q lv (st)) : V X G nL w k n Q pc lv (.int x :: st) := by
  subst hq
  obtain ⟨p, l, e, R, s, m, args, below, meth, c⟩ := X
  obtain ⟨hx, hb, hml, hown, hts, hst, hlk, hr, hR, hG, hF, hz, hK, hnm, htb⟩ := C
  intro H locs ls hP hD hS hl
  exact lv_if_le hx hb d ht (fun c => kt c H locs ls hP hD hS hl) (fun c => kf c H locs ls hP hD hS hl)

theorem v_icmp_le {X : XS} {G : GG} {cc : ByteArray} {nL : Nat} {own : String} {ret : Option FieldType} {rm : Room} {nm : String} {tb : List ExceptionTableEntry} {w : va_W} {k n : Nat} {Q : State → Prop} {pc q : Nat} {lv : List (Nat × Value)} {st : List Value} (C : Cx X G cc nL own ret rm nm tb) {x y : Int32} {z : Int} {t : Nat} (d : decode cc pc = .ok (.if_icmp .le z, 3)) (ht : (pc : Int) + z = (t : Int)) (hq : pc + 3 = q) (kt : x ≤ y → V X G nL w k n Q t lv (st)) (kf : ¬ x ≤ y → V X G nL w k n Q q lv (st)) : V X G nL w k n Q pc lv (.int y :: .int x :: st) := by
  subst hq
  obtain ⟨p, l, e, R, s, m, args, below, meth, c⟩ := X
  obtain ⟨hx, hb, hml, hown, hts, hst, hlk, hr, hR, hG, hF, hz, hK, hnm, htb⟩ := C
  intro H locs ls hP hD hS hl
  exact lv_icmp_le hx hb d ht (fun c => kt c H locs ls hP hD hS hl) (fun c => kf c H locs ls hP hD hS hl)

theorem v_ishr {X : XS} {G : GG} {cc : ByteArray} {nL : Nat} {own : String} {ret : Option FieldType} {rm : Room} {nm : String} {tb : List ExceptionTableEntry} {w : va_W} {k n : Nat} {Q : State → Prop} {pc q : Nat} {lv : List (Nat × Value)} {st : List Value} (C : Cx X G cc nL own ret rm nm tb) {x y : Int32} (d : decode cc pc = .ok (.ishr, 1)) (hq : pc + 1 = q) (kk : V X G nL w k n Q q lv (.int (x >>> (y &&& 31)) :: st)) : V X G nL w k n Q pc lv (.int y :: .int x :: st) := by
  subst hq
  obtain ⟨p, l, e, R, s, m, args, below, meth, c⟩ := X
  obtain ⟨hx, hb, hml, hown, hts, hst, hlk, hr, hR, hG, hF, hz, hK, hnm, htb⟩ := C
  intro H locs ls hP hD hS hl
  exact lv_ishr hx hb d (kk H locs ls hP hD hS hl)

theorem v_ishl {X : XS} {G : GG} {cc : ByteArray} {nL : Nat} {own : String} {ret : Option FieldType} {rm : Room} {nm : String} {tb : List ExceptionTableEntry} {w : va_W} {k n : Nat} {Q : State → Prop} {pc q : Nat} {lv : List (Nat × Value)} {st : List Value} (C : Cx X G cc nL own ret rm nm tb) {x y : Int32} (d : decode cc pc = .ok (.ishl, 1)) (hq : pc + 1 = q) (kk : V X G nL w k n Q q lv (.int (x <<< (y &&& 31)) :: st)) : V X G nL w k n Q pc lv (.int y :: .int x :: st) := by
  subst hq
  obtain ⟨p, l, e, R, s, m, args, below, meth, c⟩ := X
  obtain ⟨hx, hb, hml, hown, hts, hst, hlk, hr, hR, hG, hF, hz, hK, hnm, htb⟩ := C
  intro H locs ls hP hD hS hl
  exact lv_ishl hx hb d (kk H locs ls hP hD hS hl)

theorem v_irem {X : XS} {G : GG} {cc : ByteArray} {nL : Nat} {own : String} {ret : Option FieldType} {rm : Room} {nm : String} {tb : List ExceptionTableEntry} {w : va_W} {k n : Nat} {Q : State → Prop} {pc q : Nat} {lv : List (Nat × Value)} {st : List Value} (C : Cx X G cc nL own ret rm nm tb) {x y : Int32} (d : decode cc pc = .ok (.irem, 1)) (hq : pc + 1 = q) (hne : ¬ y = 0) (kk : V X G nL w k n Q q lv (.int (x - x / y * y) :: st)) : V X G nL w k n Q pc lv (.int y :: .int x :: st) := by
  subst hq
  obtain ⟨p, l, e, R, s, m, args, below, meth, c⟩ := X
  obtain ⟨hx, hb, hml, hown, hts, hst, hlk, hr, hR, hG, hF, hz, hK, hnm, htb⟩ := C
  intro H locs ls hP hD hS hl
  exact lv_irem hx hb d hne (kk H locs ls hP hD hS hl)

theorem v_lcmp {X : XS} {G : GG} {cc : ByteArray} {nL : Nat} {own : String} {ret : Option FieldType} {rm : Room} {nm : String} {tb : List ExceptionTableEntry} {w : va_W} {k n : Nat} {Q : State → Prop} {pc q : Nat} {lv : List (Nat × Value)} {st : List Value} (C : Cx X G cc nL own ret rm nm tb) {x y : Int64} (d : decode cc pc = .ok (.lcmp, 1)) (hq : pc + 1 = q) (kk : V X G nL w k n Q q lv (.int (lg_cmp x y) :: st)) : V X G nL w k n Q pc lv (.long y :: .long x :: st) := by
  subst hq
  obtain ⟨p, l, e, R, s, m, args, below, meth, c⟩ := X
  obtain ⟨hx, hb, hml, hown, hts, hst, hlk, hr, hR, hG, hF, hz, hK, hnm, htb⟩ := C
  intro H locs ls hP hD hS hl
  exact W.lcmp hx hb d (kk H locs ls hP hD hS hl)

theorem v_acmp_ne {X : XS} {G : GG} {cc : ByteArray} {nL : Nat} {own : String} {ret : Option FieldType} {rm : Room} {nm : String} {tb : List ExceptionTableEntry} {w : va_W} {k n : Nat} {Q : State → Prop} {pc q : Nat} {lv : List (Nat × Value)} {st : List Value} (C : Cx X G cc nL own ret rm nm tb) {a b : Nat} {z : Int} {t : Nat} (d : decode cc pc = .ok (.if_acmp .ne z, 3)) (ht : (pc : Int) + z = (t : Int)) (hq : pc + 3 = q) (kt : ¬ a = b → V X G nL w k n Q t lv (st)) (kf : a = b → V X G nL w k n Q q lv (st)) : V X G nL w k n Q pc lv (.ref b :: .ref a :: st) := by
  subst hq
  obtain ⟨p, l, e, R, s, m, args, below, meth, c⟩ := X
  obtain ⟨hx, hb, hml, hown, hts, hst, hlk, hr, hR, hG, hF, hz, hK, hnm, htb⟩ := C
  intro H locs ls hP hD hS hl
  exact lv_acmp_ne (rx := some a) (ry := some b) hx hb d ht (fun c => kt (fun h => c (by rw [h])) H locs ls hP hD hS hl) (fun c => kf (Option.some.inj c) H locs ls hP hD hS hl)

theorem v_tabIn {X : XS} {G : GG} {cc : ByteArray} {nL : Nat} {own : String} {ret : Option FieldType} {rm : Room} {nm : String} {tb : List ExceptionTableEntry} {w : va_W} {k n : Nat} {Q : State → Prop} {pc q : Nat} {lv : List (Nat × Value)} {st : List Value} (C : Cx X G cc nL own ret rm nm tb) {x : Int32} {df lo hi : Int} {offs : Array Int} {len : Nat} {off : Int} (d : decode cc pc = .ok (.tableswitch df lo hi offs, len)) (h1 : ¬ x.toInt < lo) (h2 : ¬ hi < x.toInt) (ho : offs[(x.toInt - lo).toNat]? = some off) (ht : (pc : Int) + off = (q : Int)) (kk : V X G nL w k n Q q lv (st)) : V X G nL w k n Q pc lv (.int x :: st) := by
  obtain ⟨p, l, e, R, s, m, args, below, meth, c⟩ := X
  obtain ⟨hx, hb, hml, hown, hts, hst, hlk, hr, hR, hG, hF, hz, hK, hnm, htb⟩ := C
  intro H locs ls hP hD hS hl
  exact lv_tableIn hx hb d h1 h2 ho ht (kk H locs ls hP hD hS hl)

theorem v_tabOut {X : XS} {G : GG} {cc : ByteArray} {nL : Nat} {own : String} {ret : Option FieldType} {rm : Room} {nm : String} {tb : List ExceptionTableEntry} {w : va_W} {k n : Nat} {Q : State → Prop} {pc q : Nat} {lv : List (Nat × Value)} {st : List Value} (C : Cx X G cc nL own ret rm nm tb) {x : Int32} {df lo hi : Int} {offs : Array Int} {len : Nat} (d : decode cc pc = .ok (.tableswitch df lo hi offs, len)) (h : x.toInt < lo ∨ hi < x.toInt) (ht : (pc : Int) + df = (q : Int)) (kk : V X G nL w k n Q q lv (st)) : V X G nL w k n Q pc lv (.int x :: st) := by
  obtain ⟨p, l, e, R, s, m, args, below, meth, c⟩ := X
  obtain ⟨hx, hb, hml, hown, hts, hst, hlk, hr, hR, hG, hF, hz, hK, hnm, htb⟩ := C
  intro H locs ls hP hD hS hl
  exact lv_tableOut hx hb d h ht (kk H locs ls hP hD hS hl)
end
section
/-- a fresh method's entry -/
theorem xx_mono {X : XS} {G : GG} {nL : Nat} {w : va_W} {k n k' n' : Nat} {Q : State → Prop} {pc : Nat} {lv : List (Nat × Value)} {st : List Value} (h1 : k ≤ k') (h2 : n ≤ n') (kk : V X G nL w k' n' Q pc lv st) : V X G nL w k n Q pc lv st :=
  fun H locs ls hP hD hS hl => W.widen h1 h2 (kk H locs ls hP hD hS hl)
theorem xx_lv {X : XS} {G : GG} {nL : Nat} {w : va_W} {k n : Nat} {Q : State → Prop} {pc : Nat} {lv lv' : List (Nat × Value)} {st : List Value} (ks : List Nat) (h : lv_pick lv ks = lv') (kk : V X G nL w k n Q pc lv' st) : V X G nL w k n Q pc lv st :=
  fun H locs ls hP hD hS hl => kk H locs ls hP hD hS (lv_sub hl ks h)
theorem xx_w {X : XS} {G : GG} {nL : Nat} {w w' : va_W} {k n : Nat} {Q : State → Prop} {pc : Nat} {lv : List (Nat × Value)} {st : List Value} (h : w = w') (kk : V X G nL w' k n Q pc lv st) : V X G nL w k n Q pc lv st := h ▸ kk
/-- a contract out of one walk of the body -/
theorem mth_of {l : Launch} {y : MethodName} {cc : ByteArray} {nL : Nat} {ret : Option FieldType} {rm : Room} {G : GG} {w : va_W} {av : List Value} {R : Option Value → va_W → Prop} {XP : String → va_W → Prop} (hy : plainName y.cls = true) (hn : (lg_sl av).length ≤ nL) (hst : l.stackTraces = false) (hG : GOK G)
    (body : ∀ X : XS, X.2.1 = l → Cx X G cc nL y.cls ret rm y.name [] → V X G nL w 0 0 (Tg X G rm R XP) 0 (lv_args 0 av) []) : Mth l y cc nL ret rm G w av R XP := by
  refine vx_ofW (cc := cc) (maxL := nL) (ret := ret) hy rfl ?_
  intro p e s m args below meth c s₁ B hml htb hv
  obtain ⟨rfl, hz, hP, hD, hK, hF⟩ := hv
  have hts : ∀ x ∈ wA, x.before av.toArray s = true := fun x hx => atoms_spec (ws := wC y cc nL ret) B.pre x (List.mem_cons_of_mem _ hx)
  have hown : s.vm.findClass y.cls = some m.cls := findClass_of_methodNamed B.named
  have hnm : meth.name = y.name := (name_of_methodNamed B.named B.method).1
  have ht0 : c.exceptionTable.toList = [] := by
    cases h : c.exceptionTable.toList with
    | nil => rfl
    | cons a b => exact absurd (htb a (by rw [h]; exact List.mem_cons_self)) (fun z => z)
  have K := body (p, l, e, (headSpec (wC y cc nL ret) rm).room, s, m, av.toArray, below, meth, c) rfl ⟨B.exec, B.bytes, hml, hown, hts, hst, B.notSynchronized, B.returns, rfl, hG, hF, hz, hK, hnm, ht0⟩
  rw [lg_entry_eq]
  exact K s.heap [] _ hP hD va_S.rf (lv_entry av hn)
/-- .. of a body with handlers -/
theorem mth_ofH {l : Launch} {y : MethodName} {cc : ByteArray} {nL : Nat} {ret : Option FieldType} {hh : List (Nat × Nat × Nat × Nat)} {rm : Room} {G : GG} {w : va_W} {av : List Value} {R : Option Value → va_W → Prop} {XP : String → va_W → Prop} (hy : plainName y.cls = true) (hn : (lg_sl av).length ≤ nL) (hst : l.stackTraces = false) (hG : GOK G)
    (body : ∀ X : XS, X.2.1 = l → Cx X G cc nL y.cls ret rm y.name (tableOf hh) → V X G nL w 0 0 (Tg X G rm R XP) 0 (lv_args 0 av) []) : vx_Met l y (Cond.codeWith y cc nL ret hh :: wA) rm (cP G w av) (cQ G R) (cX G XP) rm.cells rm.slots (gA G) := by
  refine vx_ofWH (cc := cc) (maxL := nL) (ret := ret) (hh := hh) hy rfl ?_
  intro p e s m args below meth c s₁ B hml hv
  obtain ⟨rfl, hz, hP, hD, hK, hF⟩ := hv
  have hts : ∀ x ∈ wA, x.before av.toArray s = true := fun x hx => atoms_spec (ws := Cond.codeWith y cc nL ret hh :: wA) B.pre x (List.mem_cons_of_mem _ hx)
  have hown : s.vm.findClass y.cls = some m.cls := findClass_of_methodNamed B.named
  have hnm : meth.name = y.name := (name_of_methodNamed B.named B.method).1
  have ht0 : c.exceptionTable.toList = tableOf hh := vx_table (x := y) B (atoms_spec (ws := Cond.codeWith y cc nL ret hh :: wA) B.pre _ List.mem_cons_self)
  have K := body (p, l, e, (headSpec (Cond.codeWith y cc nL ret hh :: wA) rm).room, s, m, av.toArray, below, meth, c) rfl ⟨B.exec, B.bytes, hml, hown, hts, hst, B.notSynchronized, B.returns, rfl, hG, hF, hz, hK, hnm, ht0⟩
  rw [lg_entry_eq]
  exact K s.heap [] _ hP hD va_S.rf (lv_entry av hn)
section VH
variable {X : XS} {G : GG} {cc : ByteArray} {nL : Nat} {own : String} {ret : Option FieldType} {rm : Room} {nm : String} {tb : List ExceptionTableEntry} {w w' : va_W} {k n : Nat} {Q : State → Prop} {pc q : Nat} {lv : List (Nat × Value)} {st : List Value}
theorem cx_sf (C : Cx X G cc nL own ret rm nm tb) : SFx G X.2.2.2.2.1 X.2.2.2.2.1.heap := by
  obtain ⟨-, -, -, -, -, -, -, -, -, hG, hF, -⟩ := C
  exact hG.2.2 _ _ hF
/-- a field as the pool of the class own has it: the place kf of an object of the kind ci -/
def FL (own : String) (idx ci kf : Nat) (ty : FieldType) (fin : Bool) : Prop := ∃ (C0 : String) (T : u_T) (N : Nat) (ref : String) (t0 : Nat → FieldType), vwCl[ci]? = some (C0, T, N) ∧ (∀ x ∈ u_ws C0 T N, x ∈ wA) ∧ kf < N ∧
  ((Cond.fieldLink own idx ref (T kf).2.1 (T kf).2.2.1 ∈ wA ∧ (ref = (T kf).1 ∨ Cond.sameField ref (T kf).1 (T kf).2.1 (T kf).2.2.1 ∈ wA)) ∨ (fin = false ∧ ∃ host : String, Cond.fieldLinkNest own idx (T kf).1 (T kf).2.1 (T kf).2.2.1 host ∈ wN)) ∧
  (∀ j, j < N → parseFieldDescriptor (T j).2.2.1 = some (t0 j)) ∧ (∀ a, a < N → ∀ b, b < N → a ≠ b → (T a).2.1 ≠ (T b).2.1) ∧ (T kf).2.2.2 = fin ∧ parseFieldDescriptor (T kf).2.2.1 = some ty ∧ (fin = true → (T kf).1 = own)
/-- .. for reading alone -/
def FG (own : String) (idx ci kf : Nat) : Prop := ∃ (C0 : String) (T : u_T) (N : Nat) (ref : String), vwCl[ci]? = some (C0, T, N) ∧ (∀ x ∈ u_ws C0 T N, x ∈ wA) ∧ kf < N ∧
  ((Cond.fieldLink own idx ref (T kf).2.1 (T kf).2.2.1 ∈ wA ∧ (ref = (T kf).1 ∨ Cond.sameField ref (T kf).1 (T kf).2.1 (T kf).2.2.1 ∈ wA)) ∨ ∃ host : String, Cond.fieldLinkNest own idx (T kf).1 (T kf).2.1 (T kf).2.2.1 host ∈ wN)
theorem v_get (C : Cx X G cc nL own ret rm nm tb) {i ci kf : Nat} (F : FG own i ci kf) {a : Nat} {fs : List Value} {v : Value} (hm : (a, Sum.inr (ci, fs)) ∈ w) (hv : fs[kf]? = some v) (d : decode cc pc = .ok (.getfield i, 3)) (hq : pc + 3 = q)
    (kk : V X G nL w k n Q q lv (v :: st)) : V X G nL w k n Q pc lv (.ref a :: st) := by
  subst hq
  obtain ⟨h1, h2⟩ := cx_sf C
  obtain ⟨p, l, e, R, s, m, args, below, meth, c⟩ := X
  obtain ⟨hx, hb, hml, hown, hts, hst, hlk, hr, hR, hG, hF, hz, hK, hnm, htb⟩ := C
  intro H locs ls hP hD hS hl
  obtain ⟨C0, T, N, ref, hc, hin, hk, hf⟩ := F
  obtain ⟨q0, hq0⟩ := List.getElem?_of_mem hm
  rcases hf with ⟨hf, hs⟩ | ⟨host, hf⟩
  · refine va_get hx hb hts hin hown hK hP q0 hq0 hc kf hk (hts _ hf) (fun x hx => ?_) hv d (kk H locs ls hP hD hS hl)
    rcases hs with rfl | hs
    · exact hx
    · exact u_same (hts _ hs) x hx
  · exact va_getN (host := host) hx hb hts hin hown hK hP q0 hq0 hc kf hk (va_Nw.use rfl (h1 _ hf)) (fun x hx => hx) hv d (kk H locs ls hP hD hS hl)
theorem v_put (C : Cx X G cc nL own ret rm nm tb) {i ci kf : Nat} {ty : FieldType} (F : FL own i ci kf ty false) {a : Nat} {fs : List Value} {v : Value} (hs : ∃ q0 : Nat, w[q0]? = some (a, Sum.inr (ci, fs)) ∧ w.set q0 (a, Sum.inr (ci, fs.set kf v)) = w') (hn : narrow ty v = v) (hfit : fits ty v = true) (hlen : kf < fs.length) (d : decode cc pc = .ok (.putfield i, 3)) (hq : pc + 3 = q)
    (kk : V X G nL w' k n Q q lv st) : V X G nL w k n Q pc lv (v :: .ref a :: st) := by
  subst hq
  obtain ⟨h1, h2⟩ := cx_sf C
  obtain ⟨p, l, e, R, s, m, args, below, meth, c⟩ := X
  obtain ⟨hx, hb, hml, hown, hts, hst, hlk, hr, hR, hG, hF, hz, hK, hnm, htb⟩ := C
  intro H locs ls hP hD hS hl
  obtain ⟨C0, T, N, ref, t0, hc, hin, hk, hf, hty, hnm2, hfin, hd, -⟩ := F
  obtain ⟨q0, hq0, rfl⟩ := hs
  rcases hf with ⟨hf, hs⟩ | ⟨hff, host, hf⟩
  · refine va_put hx hb hts hin t0 hty hnm2 hown hK hP hD hS q0 hq0 hc kf hk (hts _ hf) (fun x hx => ?_) hfin hd hn hfit hlen d (fun H1 locs1 hP hD hS => kk H1 locs1 ls hP hD hS hl)
    rcases hs with rfl | hs
    · exact hx
    · exact u_same (hts _ hs) x hx
  · exact va_putN (host := host) hx hb hts hin t0 hty hnm2 hown hK hP hD hS q0 hq0 hc kf hk (va_Nw.use rfl (h1 _ hf)) (fun x hx => hx) hfin hd hn hfit hlen d (fun H1 locs1 hP hD hS => kk H1 locs1 ls hP hD hS hl)
theorem v_putF (C : Cx X G cc nL own ret rm "<init>" tb) {i ci kf : Nat} {ty : FieldType} (F : FL own i ci kf ty true) {a : Nat} {fs : List Value} {v : Value} (hs : ∃ q0 : Nat, w[q0]? = some (a, Sum.inr (ci, fs)) ∧ w.set q0 (a, Sum.inr (ci, fs.set kf v)) = w') (hn : narrow ty v = v) (hfit : fits ty v = true) (hlen : kf < fs.length) (d : decode cc pc = .ok (.putfield i, 3)) (hq : pc + 3 = q)
    (kk : V X G nL w' k n Q q lv st) : V X G nL w k n Q pc lv (v :: .ref a :: st) := by
  subst hq
  obtain ⟨p, l, e, R, s, m, args, below, meth, c⟩ := X
  obtain ⟨hx, hb, hml, hown, hts, hst, hlk, hr, hR, hG, hF, hz, hK, hnm, htb⟩ := C
  intro H locs ls hP hD hS hl
  obtain ⟨C0, T, N, ref, t0, hc, hin, hk, hf, hty, hnm2, hfin, hd, hdc⟩ := F
  obtain ⟨q0, hq0, rfl⟩ := hs
  rcases hf with ⟨hf, hs⟩ | ⟨hff, host, hf⟩
  · refine va_putF hx hb hts hin t0 hty hnm2 hown hK hP hD hS q0 hq0 hc kf hk (hts _ hf) (fun x hx => ?_) hfin hnm (hdc rfl) hd hn hfit hlen d (fun H1 locs1 hP hD hS => kk H1 locs1 ls hP hD hS hl)
    rcases hs with rfl | hs
    · exact hx
    · exact u_same (hts _ hs) x hx
  · cases hff
theorem v_iald (C : Cx X G cc nL own ret rm nm tb) {a len : Nat} {f : Nat → Int32} {i : Int32} (hm : (a, Sum.inl (G.2.2.1 0, len, Sum.inl f)) ∈ w) (hin : vp_in i len) (d : decode cc pc = .ok (.iaload, 1)) (hq : pc + 1 = q)
    (kk : V X G nL w k n Q q lv (.int (f i.toNatClampNeg) :: st)) : V X G nL w k n Q pc lv (.int i :: .ref a :: st) := by
  subst hq
  obtain ⟨p, l, e, R, s, m, args, below, meth, c⟩ := X
  obtain ⟨hx, hb, hml, hown, hts, hst, hlk, hr, hR, hG, hF, hz, hK, hnm, htb⟩ := C
  intro H locs ls hP hD hS hl
  obtain ⟨q0, hq0⟩ := List.getElem?_of_mem hm
  exact va_iald hx hb hK hP q0 0 hq0 rfl hin d (kk H locs ls hP hD hS hl)
theorem v_zald (C : Cx X G cc nL own ret rm nm tb) {a len : Nat} {f : Nat → Int32} {i : Int32} (hm : (a, Sum.inl (G.2.2.1 1, len, Sum.inl f)) ∈ w) (hin : vp_in i len) (d : decode cc pc = .ok (.baload, 1)) (hq : pc + 1 = q)
    (kk : V X G nL w k n Q q lv (.int (f i.toNatClampNeg) :: st)) : V X G nL w k n Q pc lv (.int i :: .ref a :: st) := by
  subst hq
  obtain ⟨p, l, e, R, s, m, args, below, meth, c⟩ := X
  obtain ⟨hx, hb, hml, hown, hts, hst, hlk, hr, hR, hG, hF, hz, hK, hnm, htb⟩ := C
  intro H locs ls hP hD hS hl
  obtain ⟨q0, hq0⟩ := List.getElem?_of_mem hm
  exact va_zald hx hb hK hP q0 1 hq0 rfl hin d (kk H locs ls hP hD hS hl)
theorem v_lald (C : Cx X G cc nL own ret rm nm tb) {a len : Nat} {f : Nat → Int64} {i : Int32} (hm : (a, Sum.inl (G.2.2.1 3, len, Sum.inr (Sum.inl f))) ∈ w) (hin : vp_in i len) (d : decode cc pc = .ok (.laload, 1)) (hq : pc + 1 = q)
    (kk : V X G nL w k n Q q lv (.long (f i.toNatClampNeg) :: st)) : V X G nL w k n Q pc lv (.int i :: .ref a :: st) := by
  subst hq
  obtain ⟨p, l, e, R, s, m, args, below, meth, c⟩ := X
  obtain ⟨hx, hb, hml, hown, hts, hst, hlk, hr, hR, hG, hF, hz, hK, hnm, htb⟩ := C
  intro H locs ls hP hD hS hl
  obtain ⟨q0, hq0⟩ := List.getElem?_of_mem hm
  exact va_lald hx hb hK hP q0 3 hq0 rfl hin d (kk H locs ls hP hD hS hl)
theorem v_aald (C : Cx X G cc nL own ret rm nm tb) {a len : Nat} {f : Nat → Option Nat} {i : Int32} (hm : (a, Sum.inl (G.2.2.1 2, len, Sum.inr (Sum.inr (Sum.inr (Sum.inr f))))) ∈ w) (hin : vp_in i len) (d : decode cc pc = .ok (.aaload, 1)) (hq : pc + 1 = q)
    (kk : V X G nL w k n Q q lv (va_rf (f i.toNatClampNeg) :: st)) : V X G nL w k n Q pc lv (.int i :: .ref a :: st) := by
  subst hq
  obtain ⟨p, l, e, R, s, m, args, below, meth, c⟩ := X
  obtain ⟨hx, hb, hml, hown, hts, hst, hlk, hr, hR, hG, hF, hz, hK, hnm, htb⟩ := C
  intro H locs ls hP hD hS hl
  obtain ⟨q0, hq0⟩ := List.getElem?_of_mem hm
  exact va_aldq hx hb hK hP q0 2 hq0 rfl hin d (kk H locs ls hP hD hS hl)
theorem v_iast (C : Cx X G cc nL own ret rm nm tb) {a len : Nat} {f : Nat → Int32} {i x : Int32} (hs : ∃ q0 : Nat, w[q0]? = some (a, Sum.inl (G.2.2.1 0, len, Sum.inl f)) ∧ w.set q0 (a, Sum.inl (G.2.2.1 0, len, Sum.inl (upd f i.toNatClampNeg x))) = w') (hin : vp_in i len) (d : decode cc pc = .ok (.iastore, 1)) (hq : pc + 1 = q)
    (kk : V X G nL w' k n Q q lv st) : V X G nL w k n Q pc lv (.int x :: .int i :: .ref a :: st) := by
  subst hq
  obtain ⟨p, l, e, R, s, m, args, below, meth, c⟩ := X
  obtain ⟨hx, hb, hml, hown, hts, hst, hlk, hr, hR, hG, hF, hz, hK, hnm, htb⟩ := C
  intro H locs ls hP hD hS hl
  obtain ⟨q0, hq0, rfl⟩ := hs
  exact va_iast hx hb hK hP hD hS q0 0 hq0 rfl hin d (fun H1 locs1 hP hD hS => kk H1 locs1 ls hP hD hS hl)
theorem v_zast (C : Cx X G cc nL own ret rm nm tb) {a len : Nat} {f : Nat → Int32} {i x : Int32} (hs : ∃ q0 : Nat, w[q0]? = some (a, Sum.inl (G.2.2.1 1, len, Sum.inl f)) ∧ w.set q0 (a, Sum.inl (G.2.2.1 1, len, Sum.inl (upd f i.toNatClampNeg (vp_nar .boolean x)))) = w') (hin : vp_in i len) (d : decode cc pc = .ok (.bastore, 1)) (hq : pc + 1 = q)
    (kk : V X G nL w' k n Q q lv st) : V X G nL w k n Q pc lv (.int x :: .int i :: .ref a :: st) := by
  subst hq
  obtain ⟨p, l, e, R, s, m, args, below, meth, c⟩ := X
  obtain ⟨hx, hb, hml, hown, hts, hst, hlk, hr, hR, hG, hF, hz, hK, hnm, htb⟩ := C
  intro H locs ls hP hD hS hl
  obtain ⟨q0, hq0, rfl⟩ := hs
  exact va_zast hx hb hK hP hD hS q0 1 hq0 rfl hin d (fun H1 locs1 hP hD hS => kk H1 locs1 ls hP hD hS hl)
theorem v_last (C : Cx X G cc nL own ret rm nm tb) {a len : Nat} {f : Nat → Int64} {i : Int32} {x : Int64} (hs : ∃ q0 : Nat, w[q0]? = some (a, Sum.inl (G.2.2.1 3, len, Sum.inr (Sum.inl f))) ∧ w.set q0 (a, Sum.inl (G.2.2.1 3, len, Sum.inr (Sum.inl (vp_updL f i.toNatClampNeg x)))) = w') (hin : vp_in i len) (d : decode cc pc = .ok (.lastore, 1)) (hq : pc + 1 = q)
    (kk : V X G nL w' k n Q q lv st) : V X G nL w k n Q pc lv (.long x :: .int i :: .ref a :: st) := by
  subst hq
  obtain ⟨p, l, e, R, s, m, args, below, meth, c⟩ := X
  obtain ⟨hx, hb, hml, hown, hts, hst, hlk, hr, hR, hG, hF, hz, hK, hnm, htb⟩ := C
  intro H locs ls hP hD hS hl
  obtain ⟨q0, hq0, rfl⟩ := hs
  exact va_last hx hb hK hP hD hS q0 3 hq0 rfl hin d (fun H1 locs1 hP hD hS => kk H1 locs1 ls hP hD hS hl)
theorem v_alen (C : Cx X G cc nL own ret rm nm tb) {a : Nat} {x : vp_A} {t : Nat} {v : Int32} (hm : (a, Sum.inl (G.2.2.1 t, x)) ∈ w) (ht : t < 4) (hv : Int32.ofNat x.1 = v) (d : decode cc pc = .ok (.arraylength, 1)) (hq : pc + 1 = q)
    (kk : V X G nL w k n Q q lv (.int v :: st)) : V X G nL w k n Q pc lv (.ref a :: st) := by
  subst hq
  obtain ⟨p, l, e, R, s, m, args, below, meth, c⟩ := X
  obtain ⟨hx, hb, hml, hown, hts, hst, hlk, hr, hR, hG, hF, hz, hK, hnm, htb⟩ := C
  intro H locs ls hP hD hS hl
  obtain ⟨q0, hq0⟩ := List.getElem?_of_mem hm
  rcases (show t = 0 ∨ t = 1 ∨ t = 2 ∨ t = 3 by omega) with rfl | rfl | rfl | rfl
  · exact va_alen hx hb hK hP q0 0 hq0 rfl hv d (kk H locs ls hP hD hS hl)
  · exact va_alen hx hb hK hP q0 1 hq0 rfl hv d (kk H locs ls hP hD hS hl)
  · exact va_alen hx hb hK hP q0 2 hq0 rfl hv d (kk H locs ls hP hD hS hl)
  · exact va_alen hx hb hK hP q0 3 hq0 rfl hv d (kk H locs ls hP hD hS hl)
/-- a return: an int, a boolean's, nothing, a cell -/
theorem v_iret (C : Cx X G cc nL own (some .int) rm nm tb) {R : Option Value → va_W → Prop} {XP : String → va_W → Prop} {v : Int32} (hk : k ≤ rm.cells) (hn : n ≤ rm.slots) (d : decode cc pc = .ok (.ireturn, 1)) (h : R (some (.int v)) w) : V X G nL w k n (Tg X G rm R XP) pc lv [.int v] := by
  obtain ⟨p, l, e, R0, s, m, args, below, meth, c⟩ := X
  obtain ⟨hx, hb, hml, hown, hts, hst, hlk, hr, hR, hG, hF, hz, hK, hnm, htb⟩ := C
  intro H locs ls hP hD hS hl
  refine W.widen hk hn (vx_ret (W.iret hx hb hr (fun t ht hW => ⟨⟨_, w, rfl, h, by rw [ht]; exact hP, hD⟩, hS.F ht⟩) (fun x hx => hS.2.2 x hx) d hlk))
theorem v_zret (C : Cx X G cc nL own (some .boolean) rm nm tb) {R : Option Value → va_W → Prop} {XP : String → va_W → Prop} {v : Int32} (hz : narrow .boolean (.int v) = .int v) (hk : k ≤ rm.cells) (hn : n ≤ rm.slots) (d : decode cc pc = .ok (.ireturn, 1)) (h : R (some (.int v)) w) : V X G nL w k n (Tg X G rm R XP) pc lv [.int v] := by
  obtain ⟨p, l, e, R0, s, m, args, below, meth, c⟩ := X
  obtain ⟨hx, hb, hml, hown, hts, hst, hlk, hr, hR, hG, hF, hz2, hK, hnm, htb⟩ := C
  intro H locs ls hP hD hS hl
  refine W.widen hk hn (vx_ret (W.zret hx hb hr hz (fun t ht hW => ⟨⟨_, w, rfl, h, by rw [ht]; exact hP, hD⟩, hS.F ht⟩) (fun x hx => hS.2.2 x hx) d hlk))
theorem v_vret (C : Cx X G cc nL own none rm nm tb) {R : Option Value → va_W → Prop} {XP : String → va_W → Prop} (hk : k ≤ rm.cells) (hn : n ≤ rm.slots) (d : decode cc pc = .ok (.return_, 1)) (h : R none w) : V X G nL w k n (Tg X G rm R XP) pc lv [] := by
  obtain ⟨p, l, e, R0, s, m, args, below, meth, c⟩ := X
  obtain ⟨hx, hb, hml, hown, hts, hst, hlk, hr, hR, hG, hF, hz2, hK, hnm, htb⟩ := C
  intro H locs ls hP hD hS hl
  refine W.widen hk hn (vx_ret (W.vret hx hb hr (fun t ht hW => ⟨⟨_, w, rfl, h, by rw [ht]; exact hP, hD⟩, hS.F ht⟩) (fun x hx => hS.2.2 x hx) d hlk))
theorem v_aret {rt : FieldType} (C : Cx X G cc nL own (some rt) rm nm tb) {R : Option Value → va_W → Prop} {XP : String → va_W → Prop} {a : Nat} (hrt : (∃ n, rt = .object n) ∨ ∃ t, rt = .array t) (hk : k ≤ rm.cells) (hn : n ≤ rm.slots) (d : decode cc pc = .ok (.areturn, 1)) (h : R (some (.ref a)) w) : V X G nL w k n (Tg X G rm R XP) pc lv [.ref a] := by
  obtain ⟨p, l, e, R0, s, m, args, below, meth, c⟩ := X
  obtain ⟨hx, hb, hml, hown, hts, hst, hlk, hr, hR, hG, hF, hz2, hK, hnm, htb⟩ := C
  intro H locs ls hP hD hS hl
  refine W.widen hk hn (vx_ret (W.aret hx hb hr hrt (Or.inr ⟨a, rfl⟩) (fun t ht hW => ⟨⟨_, w, rfl, h, by rw [ht]; exact hP, hD⟩, hS.F ht⟩) (fun x hx => hS.2.2 x hx) d hlk))
/-- not caught here -/
theorem v_out (C : Cx X G cc nL own ret rm nm []) {R : Option Value → va_W → Prop} {XP : String → va_W → Prop} {E : String} (hk : k ≤ rm.cells) (hn : n ≤ rm.slots) (h : XP E w) : VX X G nL w k n (Tg X G rm R XP) pc lv E := by
  obtain ⟨p, l, e, R0, s, m, args, below, meth, c⟩ := X
  obtain ⟨hx, hb, hml, hown, hts, hst, hlk, hr, hR, hG, hF, hz2, hK, hnm, htb⟩ := C
  intro H locs ls q0 ce rest hP hD hS hl h1 h2 h3
  exact vx_out (fun x hx => by rw [htb] at hx; cases hx) hlk h1 h2 h3 (fun t ht hA => ⟨⟨w, h, by rw [ht]; exact hP, hD⟩, hS.F ht⟩) (fun x hx => hS.2.2 x hx) hk hn
end VH
end
section
theorem met_of {l : Launch} {y : MethodName} {cc : ByteArray} {nL : Nat} {ret : Option FieldType} {rm : Room} {G : GG} {w : va_W} {av : List Value} {R : Option Value → va_W → Prop} (h : Mth l y cc nL ret rm G w av R nX) : Met l y (wC y cc nL ret) rm (cP G w av) (cQ G R) rm.cells rm.slots (gA G) := by
  intro p e h1 h2 h3 s m args below hf ha hp hk
  obtain ⟨n, o, g1, g2, g3, g4⟩ := h p e h1 h2 h3 s m args below hf ha hp hk
  refine ⟨n, o, g1, g2, g3, ?_⟩
  rcases g4 with g4 | ⟨q, -, E, ce, L, hx, -⟩
  · exact g4
  · obtain ⟨⟨w1, hf, -⟩, -⟩ := hx
    exact absurd hf (fun z => z)
theorem cP_blind {G : GG} {w : va_W} {av : List Value} (hG : GOK G) : FrameBlind (cP G w av) := by
  intro a U g mk h
  obtain ⟨h1, h2, h3, h4, h5, h6⟩ := h
  exact ⟨h1, h2, h3, h4, va_K.moved (u := U) (U := U.calling g mk a) (Vm.Alike.refl U.vm) h5, hG.1 U (U.calling g mk a) U.heap (State.WarmedH.refl U) h6⟩
theorem wA_good {x : Cond} (h : x ∈ wA) : (x.onTables && x.keeps) = true ∨ ∃ ty, x = .arrayClass ty := good_of_word (List.mem_filter.mp h).2
/-- the start of a callee, from where its caller stands -/
theorem cP_here {G : GG} {w : va_W} {av : List Value} {s U : State} {H : Heap} {locs : List Loc} (hG : GOK G) (hF : G.2.2.2 s s.heap) (hz : G.1 ≤ s.heap.size) (hK : va_K G.2.1 vwCl (gT G) s) (hP : va_P G.2.1 vwCl w H) (hD : va_D (gA G) w) (hS : va_S (gA G) s.heap H locs) (hU : U.heap = H) (hW : s.WarmedH U.vm) : cP G w av av.toArray U := by
  refine ⟨rfl, by rw [hU]; exact Nat.le_trans hz hS.1, by rw [hU]; exact hP, hD, va_K.moved hW.alike hK, ?_⟩
  rw [hU]
  exact hG.1 s U H hW (hG.2.1 s s.heap H hF hS.2.1)
def LkB (y : MethodName) (cc : ByteArray) (nL : Nat) (ret : Option FieldType) (np : Nat) : Prop := Cond.initialized y.cls ∈ wA ∧ Cond.code y cc nL ret ∈ wA ∧ y.cls ≠ "java/lang/invoke/MethodHandle" ∧ y.cls ≠ "java/lang/invoke/VarHandle" ∧ (parseMethodDescriptor y.desc).map (fun d => d.parameters.length) = some np
/-- an instance method, by a name of the pool of the class own -/
def LkV (own : String) (i : Nat) (y : MethodName) (cc : ByteArray) (nL : Nat) (ret : Option FieldType) (np : Nat) : Prop := LkB y cc nL ret np ∧ Cond.methodLink own i y ∈ wA ∧ Cond.instanceMethod y ∈ wA ∧ Cond.selects y.cls y y ∈ wA
/-- a static one; a nest mate's -/
def LkS (own : String) (i : Nat) (y : MethodName) (cc : ByteArray) (nL : Nat) (ret : Option FieldType) (np : Nat) : Prop := LkB y cc nL ret np ∧ Cond.methodLink own i y ∈ wA ∧ Cond.static y ∈ wA
def LkSN (own : String) (i : Nat) (y : MethodName) (cc : ByteArray) (nL : Nat) (ret : Option FieldType) (np : Nat) : Prop := LkB y cc nL ret np ∧ (∃ host : String, Cond.methodLinkNest own i y host ∈ wN) ∧ Cond.static y ∈ wA
/-- a constructor -/
def LkI (own : String) (i : Nat) (y : MethodName) (cc : ByteArray) (nL np : Nat) : Prop := LkB y cc nL none np ∧ (Cond.methodLink own i y ∈ wA ∨ ∃ host : String, Cond.methodLinkNest own i y host ∈ wN) ∧ Cond.instanceMethod y ∈ wA ∧ y.name = "<init>"
section VC
variable {X : XS} {G : GG} {cc : ByteArray} {nL : Nat} {own : String} {ret : Option FieldType} {rm : Room} {nm : String} {tb : List ExceptionTableEntry} {w w' : va_W} {k n : Nat} {Q : State → Prop} {pc q : Nat} {lv : List (Nat × Value)} {st : List Value}
theorem v_invV (C : Cx X G cc nL own ret rm nm tb) {i nL1 np : Nat} {y : MethodName} {cc1 : ByteArray} {ret1 : Option FieldType} {rm1 : Room} {R : Option Value → va_W → Prop} {XP : String → va_W → Prop} {b ci : Nat} {fs As st0 : List Value} (L : LkV own i y cc1 nL1 ret1 np) (hM : Mth X.2.1 y cc1 nL1 ret1 rm1 G w (.ref b :: As) R XP) (hm : (b, Sum.inr (ci, fs)) ∈ w) (hcl : (vwCl[ci]?).map (fun r => r.1) = some y.cls)
    (hnp : As.length = np) (hst0 : st0 = As.reverse ++ .ref b :: st) (hroom : rm1.frames + 1 ≤ rm.frames ∧ 8 + (nL1 + 11) + rm1.locals ≤ rm.locals) (hcs : k + rm1.cells ≤ rm.cells ∧ n + rm1.slots ≤ rm.slots) (hsum : (st.map fun v => v.category).sum ≤ 8) (d : decode cc pc = .ok (.invokevirtual i, 3)) (hq : pc + 3 = q)
    (kx : ∀ (E : String) (w1 : va_W), XP E w1 → VX X G nL w1 (k + rm1.cells) (n + rm1.slots) Q pc lv E) (kk : ∀ (v : Option Value) (w1 : va_W), R v w1 → V X G nL w1 (k + rm1.cells) (n + rm1.slots) Q q lv (v.toList ++ st)) : V X G nL w k n Q pc lv st0 := by
  subst hq hst0
  obtain ⟨p, l, e, R0, s, m, args, below, meth, c⟩ := X
  obtain ⟨hx, hb, hml, hown, hts, hst, hlk, hr, hR, hG, hF, hz, hK, hnm, htb⟩ := C
  have hR : R0 = rm := hR
  subst hR
  intro H locs ls hP hD hS hl
  obtain ⟨⟨hini, hcode, hy1, hy2, hlen⟩, hlink, hinst, hsel⟩ := L
  obtain ⟨q0, hq0⟩ := List.getElem?_of_mem hm
  have hrec : ∃ cell : Cell, H[b]? = some cell ∧ cell.vm.isStatics = false ∧ s.vm.findClass y.cls = some cell.cls := by
    cases hc : vwCl[ci]? with
    | none => rw [hc] at hcl; cases hcl
    | some r =>
      rw [hc] at hcl
      have h9 := va_recv hK hP hc hq0
      have h8 : r.1 = y.cls := Option.some.inj hcl
      rw [h8] at h9
      exact h9
  have hr9 : vx_Run p l e R0 s m args below meth c H locs k n rm1.cells rm1.slots (F0 m pc ls (As.reverse ++ .ref b :: st)) st (cQ G R (Value.ref b :: As).toArray) (cX G XP) (gA G) := vx_runV (XC := cX G XP) (rest := st) (g := F0 m pc ls (As.reverse ++ .ref b :: st)) ⟨hx, hb, hml, hown, hts⟩ hM (C := y.cls) (n := np) (bytes := cc1) (maxL := nL1) (ret := ret1)
    ⟨⟨rfl, rfl, hroom.1, hroom.2, fun x hx a' U hW => by
      rcases List.mem_cons.mp hx with rfl | hx
      · exact word_at hW (wA_good hcode) (hts _ hcode)
      · exact word_at hW (wA_good hx) (hts _ hx), List.mem_cons_self, hts _ hcode, hts _ hini, ⟨hy1, hy2⟩, fun sig h => by rw [h] at hlen; exact (Option.some.inj hlen).symm, hts _ hlink⟩, hts _ hinst, hts _ hsel⟩
    ⟨cP_blind hG, hrec, fun U hU hW => cP_here hG hF hz hK hP hD hS hU hW⟩ rfl hnp hl.1 rfl (lv_room hsum) d hcs
  intro T hT X
  rcases hr9 T hT X with ⟨v, st₀, t, T', L, h0, X', hL, e1, e2, ⟨⟨v', w1, hv, hR1, hP1, hD1⟩, hFr⟩, hst9⟩ | ⟨q9, st₀, t, T', L, E, ce, h0, X', hL, e1, e2, ⟨⟨w1, hX1, hP1, hD1⟩, hFr⟩, hce, hcv, hcl9, hst9⟩
  · cases hv
    obtain ⟨k1, k2, k3⟩ := vx_keep h0 e1 hS (fun q _ h => h) (fun q h => h) hL hFr
    obtain ⟨t2, a1, b1⟩ := kk v w1 hR1 T'.heap (locs ++ L) ls (by rw [e1]; exact hP1) hD1 k3 hl T' rfl X'
    exact ⟨t2, hst9 t2 a1, b1⟩
  · obtain ⟨k1, k2, k3⟩ := vx_keep h0 e1 hS (fun q _ h => h) (fun q h => h) hL hFr
    obtain ⟨t2, a1, b1⟩ := kx E w1 hX1 T'.heap (locs ++ L) ls q9 ce st (by rw [e1]; exact hP1) hD1 k3 hl (by rw [e1]; exact hce) hcv hcl9 T' rfl X'
    exact ⟨t2, hst9.trans a1, b1⟩
theorem v_invS (C : Cx X G cc nL own ret rm nm tb) {i nL1 np : Nat} {y : MethodName} {cc1 : ByteArray} {ret1 : Option FieldType} {rm1 : Room} {R : Option Value → va_W → Prop} {XP : String → va_W → Prop} {As st0 : List Value} (L : LkS own i y cc1 nL1 ret1 np) (hM : Mth X.2.1 y cc1 nL1 ret1 rm1 G w As R XP)
    (hnp : As.length = np) (hst0 : st0 = As.reverse ++ st) (hroom : rm1.frames + 1 ≤ rm.frames ∧ 8 + (nL1 + 11) + rm1.locals ≤ rm.locals) (hcs : k + rm1.cells ≤ rm.cells ∧ n + rm1.slots ≤ rm.slots) (hsum : (st.map fun v => v.category).sum ≤ 8) (d : decode cc pc = .ok (.invokestatic i, 3)) (hq : pc + 3 = q)
    (kx : ∀ (E : String) (w1 : va_W), XP E w1 → VX X G nL w1 (k + rm1.cells) (n + rm1.slots) Q pc lv E) (kk : ∀ (v : Option Value) (w1 : va_W), R v w1 → V X G nL w1 (k + rm1.cells) (n + rm1.slots) Q q lv (v.toList ++ st)) : V X G nL w k n Q pc lv st0 := by
  subst hq hst0
  obtain ⟨p, l, e, R0, s, m, args, below, meth, c⟩ := X
  obtain ⟨hx, hb, hml, hown, hts, hst, hlk, hr, hR, hG, hF, hz, hK, hnm, htb⟩ := C
  have hR : R0 = rm := hR
  subst hR
  intro H locs ls hP hD hS hl
  obtain ⟨⟨hini, hcode, hy1, hy2, hlen⟩, hlink, hstat⟩ := L
  have hr9 : vx_Run p l e R0 s m args below meth c H locs k n rm1.cells rm1.slots (F0 m pc ls (As.reverse ++ st)) st (cQ G R As.toArray) (cX G XP) (gA G) := vx_runS (XC := cX G XP) (rest := st) (g := F0 m pc ls (As.reverse ++ st)) ⟨hx, hb, hml, hown, hts⟩ hM (n := np) (bytes := cc1) (maxL := nL1) (ret := ret1)
    ⟨⟨rfl, rfl, hroom.1, hroom.2, fun x hx a' U hW => by
      rcases List.mem_cons.mp hx with rfl | hx
      · exact word_at hW (wA_good hcode) (hts _ hcode)
      · exact word_at hW (wA_good hx) (hts _ hx), List.mem_cons_self, hts _ hcode, hts _ hini, ⟨hy1, hy2⟩, fun sig h => by rw [h] at hlen; exact (Option.some.inj hlen).symm, hts _ hlink⟩, hts _ hstat⟩
    ⟨cP_blind hG, fun U hU hW => cP_here hG hF hz hK hP hD hS hU hW⟩ rfl hnp hl.1 rfl (lv_room hsum) d hcs
  intro T hT X
  rcases hr9 T hT X with ⟨v, st₀, t, T', L, h0, X', hL, e1, e2, ⟨⟨v', w1, hv, hR1, hP1, hD1⟩, hFr⟩, hst9⟩ | ⟨q9, st₀, t, T', L, E, ce, h0, X', hL, e1, e2, ⟨⟨w1, hX1, hP1, hD1⟩, hFr⟩, hce, hcv, hcl9, hst9⟩
  · cases hv
    obtain ⟨k1, k2, k3⟩ := vx_keep h0 e1 hS (fun q _ h => h) (fun q h => h) hL hFr
    obtain ⟨t2, a1, b1⟩ := kk v w1 hR1 T'.heap (locs ++ L) ls (by rw [e1]; exact hP1) hD1 k3 hl T' rfl X'
    exact ⟨t2, hst9 t2 a1, b1⟩
  · obtain ⟨k1, k2, k3⟩ := vx_keep h0 e1 hS (fun q _ h => h) (fun q h => h) hL hFr
    obtain ⟨t2, a1, b1⟩ := kx E w1 hX1 T'.heap (locs ++ L) ls q9 ce st (by rw [e1]; exact hP1) hD1 k3 hl (by rw [e1]; exact hce) hcv hcl9 T' rfl X'
    exact ⟨t2, hst9.trans a1, b1⟩
/-- a static call of a method with handlers of its own -/
theorem v_invSX (C : Cx X G cc nL own ret rm nm tb) {i nL1 np : Nat} {y : MethodName} {cc1 : ByteArray} {ret1 : Option FieldType} {hh : List (Nat × Nat × Nat × Nat)} {rm1 : Room} {R : Option Value → va_W → Prop} {XP : String → va_W → Prop} {As st0 : List Value} (hini : Cond.initialized y.cls ∈ wA) (hcode : Cond.codeWith y cc1 nL1 ret1 hh ∈ wA) (hlink : Cond.methodLink own i y ∈ wA) (hstat : Cond.static y ∈ wA)
    (hy : y.cls ≠ "java/lang/invoke/MethodHandle" ∧ y.cls ≠ "java/lang/invoke/VarHandle" ∧ (parseMethodDescriptor y.desc).map (fun d => d.parameters.length) = some np) (hM : vx_Met X.2.1 y (Cond.codeWith y cc1 nL1 ret1 hh :: wA) rm1 (cP G w As) (cQ G R) (cX G XP) rm1.cells rm1.slots (gA G))
    (hnp : As.length = np) (hst0 : st0 = As.reverse ++ st) (hroom : rm1.frames + 1 ≤ rm.frames ∧ 8 + (nL1 + 11) + rm1.locals ≤ rm.locals) (hcs : k + rm1.cells ≤ rm.cells ∧ n + rm1.slots ≤ rm.slots) (hsum : (st.map fun v => v.category).sum ≤ 8) (d : decode cc pc = .ok (.invokestatic i, 3)) (hq : pc + 3 = q)
    (kx : ∀ (E : String) (w1 : va_W), XP E w1 → VX X G nL w1 (k + rm1.cells) (n + rm1.slots) Q pc lv E) (kk : ∀ (v : Option Value) (w1 : va_W), R v w1 → V X G nL w1 (k + rm1.cells) (n + rm1.slots) Q q lv (v.toList ++ st)) : V X G nL w k n Q pc lv st0 := by
  subst hq hst0
  obtain ⟨p, l, e, R0, s, m, args, below, meth, c⟩ := X
  obtain ⟨hx, hb, hml, hown, hts, hst, hlk, hr, hR, hG, hF, hz, hK, hnm, htb⟩ := C
  have hR : R0 = rm := hR
  subst hR
  intro H locs ls hP hD hS hl
  obtain ⟨hy1, hy2, hlen⟩ := hy
  have hr9 : vx_Run p l e R0 s m args below meth c H locs k n rm1.cells rm1.slots (F0 m pc ls (As.reverse ++ st)) st (cQ G R As.toArray) (cX G XP) (gA G) := vx_runSX (XC := cX G XP) (rest := st) (g := F0 m pc ls (As.reverse ++ st)) ⟨hx, hb, hml, hown, hts⟩ hM (n := np) (bytes := cc1) (maxL := nL1) (ret := ret1) (hh := hh)
    ⟨⟨rfl, rfl, hroom.1, hroom.2, fun x hx a' U hW => by
      rcases List.mem_cons.mp hx with rfl | hx
      · exact word_at hW (wA_good hcode) (hts _ hcode)
      · exact word_at hW (wA_good hx) (hts _ hx), List.mem_cons_self⟩, hts _ hcode, hts _ hini, ⟨hy1, hy2⟩, fun sig h => by rw [h] at hlen; exact (Option.some.inj hlen).symm, hts _ hlink, hts _ hstat⟩
    ⟨cP_blind hG, fun U hU hW => cP_here hG hF hz hK hP hD hS hU hW⟩ rfl hnp hl.1 rfl (lv_room hsum) d hcs
  intro T hT X
  rcases hr9 T hT X with ⟨v, st₀, t, T', L, h0, X', hL, e1, e2, ⟨⟨v', w1, hv, hR1, hP1, hD1⟩, hFr⟩, hst9⟩ | ⟨q9, st₀, t, T', L, E, ce, h0, X', hL, e1, e2, ⟨⟨w1, hX1, hP1, hD1⟩, hFr⟩, hce, hcv, hcl9, hst9⟩
  · cases hv
    obtain ⟨k1, k2, k3⟩ := vx_keep h0 e1 hS (fun q _ h => h) (fun q h => h) hL hFr
    obtain ⟨t2, a1, b1⟩ := kk v w1 hR1 T'.heap (locs ++ L) ls (by rw [e1]; exact hP1) hD1 k3 hl T' rfl X'
    exact ⟨t2, hst9 t2 a1, b1⟩
  · obtain ⟨k1, k2, k3⟩ := vx_keep h0 e1 hS (fun q _ h => h) (fun q h => h) hL hFr
    obtain ⟨t2, a1, b1⟩ := kx E w1 hX1 T'.heap (locs ++ L) ls q9 ce st (by rw [e1]; exact hP1) hD1 k3 hl (by rw [e1]; exact hce) hcv hcl9 T' rfl X'
    exact ⟨t2, hst9.trans a1, b1⟩
/-- a nest mate's static method that throws nothing -/
theorem v_invSN (C : Cx X G cc nL own ret rm nm tb) {i nL1 np : Nat} {y : MethodName} {cc1 : ByteArray} {ret1 : Option FieldType} {rm1 : Room} {R : Option Value → va_W → Prop} {As st0 : List Value} (L : LkSN own i y cc1 nL1 ret1 np) (hM : Mth X.2.1 y cc1 nL1 ret1 rm1 G w As R nX)
    (hnp : As.length = np) (hst0 : st0 = As.reverse ++ st) (hroom : rm1.frames + 1 ≤ rm.frames ∧ 8 + (nL1 + 11) + rm1.locals ≤ rm.locals) (hcs : k + rm1.cells ≤ rm.cells ∧ n + rm1.slots ≤ rm.slots) (hsum : (st.map fun v => v.category).sum ≤ 8) (d : decode cc pc = .ok (.invokestatic i, 3)) (hq : pc + 3 = q)
    (kk : ∀ (v : Option Value) (w1 : va_W), R v w1 → V X G nL w1 (k + rm1.cells) (n + rm1.slots) Q q lv (v.toList ++ st)) : V X G nL w k n Q pc lv st0 := by
  subst hq hst0
  have hsf := cx_sf C
  obtain ⟨p, l, e, R0, s, m, args, below, meth, c⟩ := X
  obtain ⟨hx, hb, hml, hown, hts, hst, hlk, hr, hR, hG, hF, hz, hK, hnm, htb⟩ := C
  have hR : R0 = rm := hR
  subst hR
  intro H locs ls hP hD hS hl
  obtain ⟨⟨hini, hcode, hy1, hy2, hlen⟩, ⟨host, hlink⟩, hstat⟩ := L
  have hr9 : va_Run p l e R0 s m args below meth c H locs k n rm1.cells rm1.slots (F0 m pc ls (As.reverse ++ st)) st (cQ G R As.toArray) (gA G) := va_runSN (host := host) (rest := st) (g := F0 m pc ls (As.reverse ++ st)) ⟨hx, hb, hml, hown, hts⟩ (met_of hM) (n := np) (bytes := cc1) (maxL := nL1) (ret := ret1)
    ⟨⟨⟨rfl, rfl, hroom.1, hroom.2, fun x hx a' U hW => by
      rcases List.mem_cons.mp hx with rfl | hx
      · exact word_at hW (wA_good hcode) (hts _ hcode)
      · exact word_at hW (wA_good hx) (hts _ hx), List.mem_cons_self⟩, hts _ hcode, hts _ hini, ⟨hy1, hy2⟩, fun sig h => by rw [h] at hlen; exact (Option.some.inj hlen).symm, va_Nw.use rfl (hsf.1 _ hlink)⟩, hts _ hstat, trivial⟩
    ⟨cP_blind hG, fun U hU hW => cP_here hG hF hz hK hP hD hS hU hW⟩ rfl hnp hl.1 rfl (lv_room hsum) d hcs
  intro T hT X
  obtain ⟨v, st₀, t, T', L, h0, X', hL, e1, e2, ⟨⟨v', w1, hv, hR1, hP1, hD1⟩, hFr⟩, hst9⟩ := hr9 T hT X
  cases hv
  obtain ⟨k1, k2, k3⟩ := vx_keep h0 e1 hS (fun q _ h => h) (fun q h => h) hL hFr
  obtain ⟨t2, a1, b1⟩ := kk v w1 hR1 T'.heap (locs ++ L) ls (by rw [e1]; exact hP1) hD1 k3 hl T' rfl X'
  exact ⟨t2, hst9 t2 a1, b1⟩
/-- a constructor that throws nothing -/
theorem v_invI (C : Cx X G cc nL own ret rm nm tb) {i nL1 np : Nat} {y : MethodName} {cc1 : ByteArray} {rm1 : Room} {R : Option Value → va_W → Prop} {b : Nat} {As st0 : List Value} (L : LkI own i y cc1 nL1 np) (hM : Mth X.2.1 y cc1 nL1 none rm1 G w (.ref b :: As) R nX)
    (hnp : As.length = np) (hst0 : st0 = As.reverse ++ .ref b :: st) (hroom : rm1.frames + 1 ≤ rm.frames ∧ 8 + (nL1 + 11) + rm1.locals ≤ rm.locals) (hcs : k + rm1.cells ≤ rm.cells ∧ n + rm1.slots ≤ rm.slots) (hsum : (st.map fun v => v.category).sum ≤ 8) (d : decode cc pc = .ok (.invokespecial i, 3)) (hq : pc + 3 = q)
    (kk : ∀ (v : Option Value) (w1 : va_W), R v w1 → V X G nL w1 (k + rm1.cells) (n + rm1.slots) Q q lv (v.toList ++ st)) : V X G nL w k n Q pc lv st0 := by
  subst hq hst0
  have hsf := cx_sf C
  obtain ⟨p, l, e, R0, s, m, args, below, meth, c⟩ := X
  obtain ⟨hx, hb, hml, hown, hts, hst, hlk, hr, hR, hG, hF, hz, hK, hnm, htb⟩ := C
  have hR : R0 = rm := hR
  subst hR
  intro H locs ls hP hD hS hl
  obtain ⟨⟨hini, hcode, hy1, hy2, hlen⟩, hlink, hinst, hyn⟩ := L
  have hw9 : ∀ x ∈ wC y cc1 nL1 none, ∀ (a' : Array Value) (U : State), s.WarmedH U.vm → x.before a' U = true := fun x hx a' U hW => by
    rcases List.mem_cons.mp hx with rfl | hx
    · exact word_at hW (wA_good hcode) (hts _ hcode)
    · exact word_at hW (wA_good hx) (hts _ hx)
  have hl9 : ∀ sig, parseMethodDescriptor y.desc = some sig → np = sig.parameters.length := fun sig h => by rw [h] at hlen; exact (Option.some.inj hlen).symm
  have hr9 : va_Run p l e R0 s m args below meth c H locs k n rm1.cells rm1.slots (F0 m pc ls (As.reverse ++ .ref b :: st)) st (cQ G R (Value.ref b :: As).toArray) (gA G) := by
    rcases hlink with hlink | ⟨host, hlink⟩
    · exact va_runI ⟨hx, hb, hml, hown, hts⟩ (met_of hM) (n := np) (bytes := cc1) (maxL := nL1)
        ⟨⟨rfl, rfl, hroom.1, hroom.2, hw9, List.mem_cons_self, hts _ hcode, hts _ hini, ⟨hy1, hy2⟩, hl9, hts _ hlink⟩, hyn, hts _ hinst⟩
        ⟨cP_blind hG, fun U hU hW => cP_here hG hF hz hK hP hD hS hU hW⟩ rfl hnp hl.1 rfl (lv_room hsum) d hcs
    · exact va_runIN (host := host) ⟨hx, hb, hml, hown, hts⟩ (met_of hM) (n := np) (bytes := cc1) (maxL := nL1)
        ⟨⟨⟨rfl, rfl, hroom.1, hroom.2, hw9, List.mem_cons_self⟩, hts _ hcode, hts _ hini, ⟨hy1, hy2⟩, hl9, va_Nw.use rfl (hsf.1 _ hlink)⟩, hyn, hts _ hinst⟩
        ⟨cP_blind hG, fun U hU hW => cP_here hG hF hz hK hP hD hS hU hW⟩ rfl hnp hl.1 rfl (lv_room hsum) d hcs
  intro T hT X
  obtain ⟨v, st₀, t, T', L, h0, X', hL, e1, e2, ⟨⟨v', w1, hv, hR1, hP1, hD1⟩, hFr⟩, hst9⟩ := hr9 T hT X
  cases hv
  obtain ⟨k1, k2, k3⟩ := vx_keep h0 e1 hS (fun q _ h => h) (fun q h => h) hL hFr
  obtain ⟨t2, a1, b1⟩ := kk v w1 hR1 T'.heap (locs ++ L) ls (by rw [e1]; exact hP1) hD1 k3 hl T' rfl X'
  exact ⟨t2, hst9 t2 a1, b1⟩
theorem v_objInit (C : Cx X G cc nL own ret rm nm tb) {i a : Nat} (h1 : Cond.methodLink own i objectInit ∈ wA) (h2 : Cond.instanceMethod objectInit ∈ wA) (h3 : Cond.code objectInit ⟨#[0xb1]⟩ 1 none ∈ wA) (hfr : 1 ≤ rm.frames) (hlo : (st.map fun v => v.category).sum + 12 ≤ rm.locals) (d : decode cc pc = .ok (.invokespecial i, 3)) (hq : pc + 3 = q)
    (kk : V X G nL w k n Q q lv st) : V X G nL w k n Q pc lv (.ref a :: st) := by
  subst hq
  obtain ⟨p, l, e, R0, s, m, args, below, meth, c⟩ := X
  obtain ⟨hx, hb, hml, hown, hts, hst, hlk, hr, hR, hG, hF, hz, hK, hnm, htb⟩ := C
  have hR : R0 = rm := hR
  subst hR
  intro H locs ls hP hD hS hl
  exact W.objInit hx hb hown (hts _ h1) (hts _ h2) (hts _ h3) rfl (hl.1.trans hml.symm) rfl d hfr (by show 2 * 0 + (st.map fun v => v.category).sum + 12 ≤ R0.locals; omega) (kk H locs ls hP hD hS hl)
theorem v_mmin (C : Cx X G cc nL own ret rm nm tb) {i : Nat} {x y : Int32} (h1 : Cond.methodLink own i Lib.Math.min.name ∈ wA) (h2 : Cond.static Lib.Math.min.name ∈ wA) (h3 : Cond.initialized "java/lang/Math" ∈ wA) (h4 : Cond.code Lib.Math.min.name Lib.Math.min.code 2 (some .int) ∈ wA) (hfr : 1 ≤ rm.frames) (hlo : (st.map fun v => v.category).sum + 13 ≤ rm.locals) (hk : k ≤ rm.cells) (hn : n ≤ rm.slots) (d : decode cc pc = .ok (.invokestatic i, 3)) (hq : pc + 3 = q)
    (kk : V X G nL w k n Q q lv (.int (if y < x then y else x) :: st)) : V X G nL w k n Q pc lv (.int y :: .int x :: st) := by
  subst hq
  obtain ⟨p, l, e, R0, s, m, args, below, meth, c⟩ := X
  obtain ⟨hx, hb, hml, hown, hts, hst, hlk, hr, hR, hG, hF, hz, hK, hnm, htb⟩ := C
  have hR : R0 = rm := hR
  subst hR
  intro H locs ls hP hD hS hl
  have hk2 := kk H locs ls hP hD hS hl
  exact va_mmin hx hb (hml.trans hl.1.symm) hown (hts _ h1) (hts _ h2) (hts _ h3) (hts _ h4) hfr hlo hk hn d hk2
theorem v_mmax (C : Cx X G cc nL own ret rm nm tb) {i : Nat} {x y : Int32} (h1 : Cond.methodLink own i Lib.Math.max.name ∈ wA) (h2 : Cond.static Lib.Math.max.name ∈ wA) (h3 : Cond.initialized "java/lang/Math" ∈ wA) (h4 : Cond.code Lib.Math.max.name Lib.Math.max.code 2 (some .int) ∈ wA) (hfr : 1 ≤ rm.frames) (hlo : (st.map fun v => v.category).sum + 13 ≤ rm.locals) (hk : k ≤ rm.cells) (hn : n ≤ rm.slots) (d : decode cc pc = .ok (.invokestatic i, 3)) (hq : pc + 3 = q)
    (kk : V X G nL w k n Q q lv (.int (if x < y then y else x) :: st)) : V X G nL w k n Q pc lv (.int y :: .int x :: st) := by
  subst hq
  obtain ⟨p, l, e, R0, s, m, args, below, meth, c⟩ := X
  obtain ⟨hx, hb, hml, hown, hts, hst, hlk, hr, hR, hG, hF, hz, hK, hnm, htb⟩ := C
  have hR : R0 = rm := hR
  subst hR
  intro H locs ls hP hD hS hl
  have hk2 := kk H locs ls hP hD hS hl
  exact va_mmax hx hb (hml.trans hl.1.symm) hown (hts _ h1) (hts _ h2) (hts _ h3) (hts _ h4) hfr hlo hk hn d hk2
/-- throw new E("text"), the text by a wide index: the method ends, in the same world -/
theorem v_throw {R : Option Value → va_W → Prop} {XP : String → va_W → Prop} (C : Cx X G cc nL RX7 ret rm nm []) {E text : String} {ik is ic : Nat} (hcls : Bundle.fit E = true) (hk : Cond.classLink RX7 ik E ∈ wA) (hini : Cond.initialized E ∈ wA) (hstr : (is, text) ∈ ([(294, "there is no such cell, miner, claim or right"), (301, "an argument is out of its range"), (306, "this can not be done now"), (312, "there is no such miner"), (324, "there is no such method"), (318, "there is no such claim")] : List (Nat × String)))
    (hat : ∀ x ∈ vx_atS RX7 ic E exN, x ∈ wT) (hgood : ∀ x ∈ Cond.classLink RX7 ik E :: Cond.initialized E :: vx_atS RX7 ic E exN, vx_ot x = true) (d0 : decode cc pc = .ok (.new ik, 3)) (d3 : decode cc (pc + 3) = .ok (.dup, 1)) (d4 : decode cc (pc + 4) = .ok (.ldc_w is, 3)) (d7 : decode cc (pc + 7) = .ok (.invokespecial ic, 3)) (d10 : decode cc (pc + 10) = .ok (.athrow, 1))
    (hfr : 5 < rm.frames) (hlo : (st.map fun v => v.category).sum + 82 ≤ rm.locals) (hc : k + 1 ≤ rm.cells) (hs : n + 6 ≤ rm.slots) (h : XP E w) : V X G nL w k n (Tg X G rm R XP) pc lv st := by
  have hsf := cx_sf C
  obtain ⟨p, l, e, R0, s, m, args, below, meth, c⟩ := X
  obtain ⟨hx, hb, hml, hown, hts, hst, hlk, hr, hR, hG, hF, hz, hK, hnm, htb⟩ := C
  have hR : R0 = rm := hR
  subst hR
  intro H locs ls hP hD hS hl
  obtain ⟨h1, h2, h3, h4, h5, -⟩ := hsf
  obtain ⟨sa, hsa⟩ := h5 _ hstr
  refine vx_throwSW (names := exN) (sa := sa) (text := text) (A := gA G) hx hb hst hown hcls (by decide +kernel) (hts _ hk) (hts _ hini) hsa (fun x hx => h2 x (hat x hx) _) hgood h3 h4 hS (hl.1.trans hml.symm) d0 d3 d4 d7 d10 (fun x hx => by rw [htb] at hx; cases hx) hfr hlo hc hs hlk (fun t hA hz1 hk1 => ?_) (fun x hx => hS.2.2 x hx) hc hs
  refine ⟨⟨w, h, hP.kept (fun k9 q9 hq9 => hk1 q9.1 ((hP k9 q9 hq9).lt)), hD⟩, Nat.le_trans hS.1 hz1, fun q9 h1 h2 => ?_⟩
  rw [hk1 q9 (Nat.lt_of_lt_of_le h1 hS.1)]
  exact hS.2.1 q9 h1 h2
/-- caught here, by the row x of the table -/
theorem v_catch (C : Cx X G cc nL own ret rm nm tb) {E : String} (pre : List ExceptionTableEntry) (x : ExceptionTableEntry) (suf : List ExceptionTableEntry) (hsplit : tb = pre ++ x :: suf) (hpass : ∀ z ∈ pre, z.catchType ≠ 0 ∧ ∃ nm1 : String, Cond.classLink own z.catchType nm1 ∈ wA ∧ va_Nc E nm1 X.2.2.2.2.1) (hx : covers x pc = true) (h0 : x.catchType ≠ 0) (hlink : Cond.classLink own x.catchType E ∈ wA) (hcast : Cond.castable E E ∈ wN)
    (kk : ∀ q9 : Nat, V X G nL w k n Q x.handlerPc lv [.ref q9]) : VX X G nL w k n Q pc lv E := by
  have hsf := cx_sf C
  obtain ⟨p, l, e, R0, s, m, args, below, meth, c⟩ := X
  obtain ⟨hx1, hb, hml, hown, hts, hst, hlk, hr, hR, hG, hF, hz, hK, hnm, htb⟩ := C
  intro H locs ls q9 ce rest hP hD hS hl h1 h2 h3
  exact vx_catch hown pre x suf (htb.trans hsplit) (fun z hz => Or.inr ⟨(hpass z hz).1, by obtain ⟨nm1, g1, g2⟩ := (hpass z hz).2; exact ⟨nm1, hts _ g1, g2⟩⟩) hx h0 (hts _ hlink) (va_Nw.use rfl (hsf.1 _ hcast)) h1 h2 h3 (kk q9 H locs ls hP hD hS hl)
/-- a new object; a new array -/
theorem v_new (C : Cx X G cc nL own ret rm nm tb) {i ci N : Nat} {C0 : String} {T : u_T} {ty : Nat → FieldType} {fs : List Value} (hc : vwCl[ci]? = some (C0, T, N)) (hin : ∀ x ∈ u_ws C0 T N, x ∈ wA) (hty : ∀ j, j < N → parseFieldDescriptor (T j).2.2.1 = some (ty j)) (h1 : Cond.classLink own i C0 ∈ wA) (h2 : Cond.instantiable C0 N ∈ wA) (h3 : Cond.initialized C0 ∈ wA) (hfs : ∀ j, j < N → defaultValue (ty j) = vp_V fs j)
    (hk : k + 1 ≤ rm.cells) (hn : n + N ≤ rm.slots) (d : decode cc pc = .ok (.new i, 3)) (hq : pc + 3 = q) (kk : ∀ q9 : Nat, V X G nL (w ++ [(q9, Sum.inr (ci, fs))]) (k + 1) (n + N) Q q lv (.ref q9 :: st)) : V X G nL w k n Q pc lv st := by
  subst hq
  obtain ⟨p, l, e, R0, s, m, args, below, meth, c⟩ := X
  obtain ⟨hx, hb, hml, hown, hts, hst, hlk, hr, hR, hG, hF, hz, hK, hnm, htb⟩ := C
  have hR : R0 = rm := hR
  subst hR
  intro H locs ls hP hD hS hl
  exact va_new hx hb hts hin ty hty hown (hts _ h1) (hts _ h2) (hts _ h3) hK hP hD hS (fun q9 h => Nat.le_trans hz h) hc hfs hk hn d (fun q9 H1 hP hD hS => kk q9 H1 locs ls hP hD hS hl)
theorem xx_cls {s : State} {G : GG} {cA : ClassId} (hK : va_K G.2.1 vwCl (gT G) s) (t : Nat) (ty : FieldType) (ht : (gT G)[t]? = some (G.2.2.1 t, ty)) (h : va_RA s cA ty) : cA = G.2.2.1 t := by
  have h9 := (hK.2 t _ ht).2
  cases ty with
  | object C =>
    obtain ⟨kA, comp, -, -, -, h1⟩ := h
    obtain ⟨kB, comp2, -, -, -, h2⟩ := h9
    exact Option.some.inj (h1.symm.trans h2)
  | _ => exact Option.some.inj (Eq.trans (Eq.symm h) h9)
theorem v_newI (C : Cx X G cc nL own ret rm nm tb) {z : Int32} {N : Nat} (harr : Cond.arrayClass .int ∈ wA) (hz0 : ¬ z < 0) (hN : z.toNatClampNeg = N) (hby : N * componentBytes .int ≤ 536870912) (hk : k + 1 ≤ rm.cells) (hn : n + N ≤ rm.slots) (d : decode cc pc = .ok (.newarray .int, 2)) (hq : pc + 2 = q)
    (kk : ∀ q9 : Nat, V X G nL (w ++ [(q9, Sum.inl (G.2.2.1 0, N, Sum.inl (fun _ => 0)))]) (k + 1) (n + N) Q q lv (.ref q9 :: st)) : V X G nL w k n Q pc lv (.int z :: st) := by
  subst hq
  obtain ⟨p, l, e, R0, s, m, args, below, meth, c⟩ := X
  obtain ⟨hx, hb, hml, hown, hts, hst, hlk, hr, hR, hG, hF, hz, hK, hnm, htb⟩ := C
  have hR : R0 = rm := hR
  subst hR
  intro H locs ls hP hD hS hl
  refine va_newa (atype := .int) hx hb (hts _ harr) (ty := .int) rfl hK hP hD hS (fun q9 h => Nat.le_trans hz h) (a0 := (N, Sum.inl (fun _ => 0))) (N' := N) (fun cA => rfl) hz0 hN hby hk hn d (fun q9 cA H1 hK1 hP hD hS => ?_)
  have e9 : cA = G.2.2.1 0 := xx_cls hK 0 .int rfl (hK1.2 4 _ rfl).2
  subst e9
  exact kk q9 H1 locs ls hP hD hS hl
theorem v_newZ (C : Cx X G cc nL own ret rm nm tb) {z : Int32} {N : Nat} (harr : Cond.arrayClass .boolean ∈ wA) (hz0 : ¬ z < 0) (hN : z.toNatClampNeg = N) (hby : N * componentBytes .boolean ≤ 536870912) (hk : k + 1 ≤ rm.cells) (hn : n + N ≤ rm.slots) (d : decode cc pc = .ok (.newarray .boolean, 2)) (hq : pc + 2 = q)
    (kk : ∀ q9 : Nat, V X G nL (w ++ [(q9, Sum.inl (G.2.2.1 1, N, Sum.inl (fun _ => 0)))]) (k + 1) (n + N) Q q lv (.ref q9 :: st)) : V X G nL w k n Q pc lv (.int z :: st) := by
  subst hq
  obtain ⟨p, l, e, R0, s, m, args, below, meth, c⟩ := X
  obtain ⟨hx, hb, hml, hown, hts, hst, hlk, hr, hR, hG, hF, hz, hK, hnm, htb⟩ := C
  have hR : R0 = rm := hR
  subst hR
  intro H locs ls hP hD hS hl
  refine va_newa (atype := .boolean) hx hb (hts _ harr) (ty := .boolean) rfl hK hP hD hS (fun q9 h => Nat.le_trans hz h) (a0 := (N, Sum.inl (fun _ => 0))) (N' := N) (fun cA => rfl) hz0 hN hby hk hn d (fun q9 cA H1 hK1 hP hD hS => ?_)
  have e9 : cA = G.2.2.1 1 := xx_cls hK 1 .boolean rfl (hK1.2 4 _ rfl).2
  subst e9
  exact kk q9 H1 locs ls hP hD hS hl
theorem v_newJ (C : Cx X G cc nL own ret rm nm tb) {z : Int32} {N : Nat} (harr : Cond.arrayClass .long ∈ wA) (hz0 : ¬ z < 0) (hN : z.toNatClampNeg = N) (hby : N * componentBytes .long ≤ 536870912) (hk : k + 1 ≤ rm.cells) (hn : n + N ≤ rm.slots) (d : decode cc pc = .ok (.newarray .long, 2)) (hq : pc + 2 = q)
    (kk : ∀ q9 : Nat, V X G nL (w ++ [(q9, Sum.inl (G.2.2.1 3, N, Sum.inr (Sum.inl (fun _ => 0))))]) (k + 1) (n + N) Q q lv (.ref q9 :: st)) : V X G nL w k n Q pc lv (.int z :: st) := by
  subst hq
  obtain ⟨p, l, e, R0, s, m, args, below, meth, c⟩ := X
  obtain ⟨hx, hb, hml, hown, hts, hst, hlk, hr, hR, hG, hF, hz, hK, hnm, htb⟩ := C
  have hR : R0 = rm := hR
  subst hR
  intro H locs ls hP hD hS hl
  refine va_newa (atype := .long) hx hb (hts _ harr) (ty := .long) rfl hK hP hD hS (fun q9 h => Nat.le_trans hz h) (a0 := (N, Sum.inr (Sum.inl (fun _ => 0)))) (N' := N) (fun cA => rfl) hz0 hN hby hk hn d (fun q9 cA H1 hK1 hP hD hS => ?_)
  have e9 : cA = G.2.2.1 3 := xx_cls hK 3 .long rfl (hK1.2 4 _ rfl).2
  subst e9
  exact kk q9 H1 locs ls hP hD hS hl
/-- statics and constants -/
theorem v_gets (C : Cx X G cc nL own ret rm nm tb) {i : Nat} {C0 nme desc : String} {v : Value} (hlink : Cond.fieldLink own i C0 nme desc ∈ wA) (hZ : va_Z C0 nme desc v (gA G) X.2.2.2.2.1 X.2.2.2.2.1.heap) (d : decode cc pc = .ok (.getstatic i, 3)) (hq : pc + 3 = q) (kk : V X G nL w k n Q q lv (v :: st)) : V X G nL w k n Q pc lv st := by
  subst hq
  obtain ⟨p, l, e, R0, s, m, args, below, meth, c⟩ := X
  obtain ⟨hx, hb, hml, hown, hts, hst, hlk, hr, hR, hG, hF, hz, hK, hnm, htb⟩ := C
  intro H locs ls hP hD hS hl
  exact va_gets hx hb hZ hS hown (hts _ hlink) (fun x hx => hx) d (kk H locs ls hP hD hS hl)
theorem v_tlen (C : Cx X G cc nL own ret rm nm tb) {ty : FieldType} {t N : Nat} {f : Nat → Value} {v : Int32} (hT : va_T ty t N f (gA G) X.2.2.2.2.1 X.2.2.2.2.1.heap) (hv : Int32.ofNat N = v) (d : decode cc pc = .ok (.arraylength, 1)) (hq : pc + 1 = q) (kk : V X G nL w k n Q q lv (.int v :: st)) : V X G nL w k n Q pc lv (.ref t :: st) := by
  subst hq
  obtain ⟨p, l, e, R0, s, m, args, below, meth, c⟩ := X
  obtain ⟨hx, hb, hml, hown, hts, hst, hlk, hr, hR, hG, hF, hz, hK, hnm, htb⟩ := C
  intro H locs ls hP hD hS hl
  exact va_tlen hx hb hT hS hv d (kk H locs ls hP hD hS hl)
theorem v_tq (C : Cx X G cc nL own ret rm nm tb) {C0 : String} {t N : Nat} {f : Nat → Value} {x : Int32} {v : Value} (hT : va_T (.object C0) t N f (gA G) X.2.2.2.2.1 X.2.2.2.2.1.heap) (hin : vp_in x N) (hv : f x.toNatClampNeg = v) (d : decode cc pc = .ok (.aaload, 1)) (hq : pc + 1 = q) (kk : V X G nL w k n Q q lv (v :: st)) : V X G nL w k n Q pc lv (.int x :: .ref t :: st) := by
  subst hq
  obtain ⟨p, l, e, R0, s, m, args, below, meth, c⟩ := X
  obtain ⟨hx, hb, hml, hown, hts, hst, hlk, hr, hR, hG, hF, hz, hK, hnm, htb⟩ := C
  intro H locs ls hP hD hS hl
  exact vb_tq hx hb hT hS hin hv d (kk H locs ls hP hD hS hl)
/-- a field of a constant object -/
theorem v_getO (C : Cx X G cc nL own ret rm nm tb) {i a : Nat} {o nme desc : String} {v : Value} (hlink : Cond.fieldLink own i o nme desc ∈ wA ∨ ∃ host : String, Cond.fieldLinkNest own i o nme desc host ∈ wN) (hO : va_OF o nme desc v a (gA G) X.2.2.2.2.1 X.2.2.2.2.1.heap) (d : decode cc pc = .ok (.getfield i, 3)) (hq : pc + 3 = q) (kk : V X G nL w k n Q q lv (v :: st)) : V X G nL w k n Q pc lv (.ref a :: st) := by
  subst hq
  have hsf := cx_sf C
  obtain ⟨p, l, e, R0, s, m, args, below, meth, c⟩ := X
  obtain ⟨hx, hb, hml, hown, hts, hst, hlk, hr, hR, hG, hF, hz, hK, hnm, htb⟩ := C
  intro H locs ls hP hD hS hl
  rcases hlink with hlink | ⟨host, hlink⟩
  · exact vk_getf hx hb hO hS hown (hts _ hlink) (fun x hx => hx) d (kk H locs ls hP hD hS hl)
  · obtain ⟨cf, k9, fi, f, cell, h1, h2, h3, h4, h5, h6⟩ := hO.kept hS.2.1
    exact va_Wgetf (host := host) hx hb hown (va_Nw.use rfl (hsf.1 _ hlink)) h1 h2 h3 h4 (v := v) h5 rfl rfl d (kk H locs ls hP hD hS hl)
/-- a cast to the object's own class -/
theorem v_cast (C : Cx X G cc nL own ret rm nm tb) {i ci a N : Nat} {C0 : String} {T : u_T} {fs : List Value} (hlink : Cond.classLink own i C0 ∈ wA) (hc : vwCl[ci]? = some (C0, T, N)) (hm : (a, Sum.inr (ci, fs)) ∈ w) (d : decode cc pc = .ok (.checkcast i, 3)) (hq : pc + 3 = q) (kk : V X G nL w k n Q q lv (.ref a :: st)) : V X G nL w k n Q pc lv (.ref a :: st) := by
  subst hq
  obtain ⟨p, l, e, R0, s, m, args, below, meth, c⟩ := X
  obtain ⟨hx, hb, hml, hown, hts, hst, hlk, hr, hR, hG, hF, hz, hK, hnm, htb⟩ := C
  intro H locs ls hP hD hS hl
  obtain ⟨q0, hq0⟩ := List.getElem?_of_mem hm
  exact va_castS hx hb hown (hts _ hlink) (hK.1 ci _ hc).2 (va_recv hK hP hc hq0) d (kk H locs ls hP hD hS hl)
end VC
end
section
theorem xx_monoX {X : XS} {G : GG} {nL : Nat} {w : va_W} {k n k' n' : Nat} {Q : State → Prop} {pc : Nat} {lv : List (Nat × Value)} {E : String} (h1 : k ≤ k') (h2 : n ≤ n') (kk : VX X G nL w k' n' Q pc lv E) : VX X G nL w k n Q pc lv E :=
  fun H locs ls q ce rest hP hD hS hl a b c => vx_widen h1 h2 (kk H locs ls q ce rest hP hD hS hl a b c)
/-- all that is to be counted at a call -/
def nck (rm1 rm : Room) (nL1 k n k1 n1 : Nat) (st : List Value) : Bool := Nat.ble (rm1.frames + 1) rm.frames && (Nat.ble (8 + (nL1 + 11) + rm1.locals) rm.locals && (Nat.ble (k + rm1.cells) k1 && (Nat.ble k1 rm.cells && (Nat.ble (n + rm1.slots) n1 && (Nat.ble n1 rm.slots && Nat.ble ((st.map fun v => v.category).sum) 8)))))
theorem nck_of {rm1 rm : Room} {nL1 k n k1 n1 : Nat} {st : List Value} (h : nck rm1 rm nL1 k n k1 n1 st = true) : (rm1.frames + 1 ≤ rm.frames ∧ 8 + (nL1 + 11) + rm1.locals ≤ rm.locals) ∧ (k + rm1.cells ≤ k1 ∧ n + rm1.slots ≤ n1) ∧ (k + rm1.cells ≤ rm.cells ∧ n + rm1.slots ≤ rm.slots) ∧ (st.map fun v => v.category).sum ≤ 8 := by
  simp only [nck, Bool.and_eq_true, Nat.ble_eq] at h
  obtain ⟨h1, h2, h3, h4, h5, h6, h7⟩ := h
  exact ⟨⟨h1, h2⟩, ⟨h3, h5⟩, ⟨Nat.le_trans h3 h4, Nat.le_trans h5 h6⟩, h7⟩
section VC2
variable {X : XS} {G : GG} {cc : ByteArray} {nL : Nat} {own : String} {ret : Option FieldType} {rm : Room} {nm : String} {tb : List ExceptionTableEntry} {w w' : va_W} {k n : Nat} {Q : State → Prop} {pc q : Nat} {lv : List (Nat × Value)} {st : List Value}
/-- a virtual call -/
theorem w_invV (C : Cx X G cc nL own ret rm nm tb) {i nL1 np : Nat} {y : MethodName} {cc1 : ByteArray} {ret1 : Option FieldType} {rm1 : Room} {R : Option Value → va_W → Prop} {XP : String → va_W → Prop} {b ci : Nat} {fs st0 : List Value} (As : List Value) (k1 n1 : Nat) (L : LkV own i y cc1 nL1 ret1 np) (hM : Mth X.2.1 y cc1 nL1 ret1 rm1 G w (.ref b :: As) R XP) (hm : (b, Sum.inr (ci, fs)) ∈ w) (hcl : (vwCl[ci]?).map (fun r => r.1) = some y.cls)
    (hnp : As.length = np) (hst0 : st0 = As.reverse ++ .ref b :: st) (hc : nck rm1 rm nL1 k n k1 n1 st = true) (d : decode cc pc = .ok (.invokevirtual i, 3)) (hq : pc + 3 = q)
    (kx : ∀ (E : String) (w1 : va_W), XP E w1 → VX X G nL w1 k1 n1 Q pc lv E) (kk : ∀ (v : Option Value) (w1 : va_W), R v w1 → V X G nL w1 k1 n1 Q q lv (v.toList ++ st)) : V X G nL w k n Q pc lv st0 := by
  obtain ⟨h1, ⟨h2, h3⟩, h4, h5⟩ := nck_of hc
  exact v_invV C L hM hm hcl hnp hst0 h1 h4 h5 d hq (fun E w1 h => xx_monoX h2 h3 (kx E w1 h)) (fun v w1 h => xx_mono h2 h3 (kk v w1 h))
/-- .. of a constant object -/
theorem w_invS (C : Cx X G cc nL own ret rm nm tb) {i nL1 np : Nat} {y : MethodName} {cc1 : ByteArray} {ret1 : Option FieldType} {rm1 : Room} {R : Option Value → va_W → Prop} {XP : String → va_W → Prop} {st0 : List Value} (As : List Value) (k1 n1 : Nat) (L : LkS own i y cc1 nL1 ret1 np) (hM : Mth X.2.1 y cc1 nL1 ret1 rm1 G w As R XP)
    (hnp : As.length = np) (hst0 : st0 = As.reverse ++ st) (hc : nck rm1 rm nL1 k n k1 n1 st = true) (d : decode cc pc = .ok (.invokestatic i, 3)) (hq : pc + 3 = q)
    (kx : ∀ (E : String) (w1 : va_W), XP E w1 → VX X G nL w1 k1 n1 Q pc lv E) (kk : ∀ (v : Option Value) (w1 : va_W), R v w1 → V X G nL w1 k1 n1 Q q lv (v.toList ++ st)) : V X G nL w k n Q pc lv st0 := by
  obtain ⟨h1, ⟨h2, h3⟩, h4, h5⟩ := nck_of hc
  exact v_invS C L hM hnp hst0 h1 h4 h5 d hq (fun E w1 h => xx_monoX h2 h3 (kx E w1 h)) (fun v w1 h => xx_mono h2 h3 (kk v w1 h))
theorem w_invSN (C : Cx X G cc nL own ret rm nm tb) {i nL1 np : Nat} {y : MethodName} {cc1 : ByteArray} {ret1 : Option FieldType} {rm1 : Room} {R : Option Value → va_W → Prop} {st0 : List Value} (As : List Value) (k1 n1 : Nat) (L : LkSN own i y cc1 nL1 ret1 np) (hM : Mth X.2.1 y cc1 nL1 ret1 rm1 G w As R nX)
    (hnp : As.length = np) (hst0 : st0 = As.reverse ++ st) (hc : nck rm1 rm nL1 k n k1 n1 st = true) (d : decode cc pc = .ok (.invokestatic i, 3)) (hq : pc + 3 = q)
    (kk : ∀ (v : Option Value) (w1 : va_W), R v w1 → V X G nL w1 k1 n1 Q q lv (v.toList ++ st)) : V X G nL w k n Q pc lv st0 := by
  obtain ⟨h1, ⟨h2, h3⟩, h4, h5⟩ := nck_of hc
  exact v_invSN C L hM hnp hst0 h1 h4 h5 d hq (fun v w1 h => xx_mono h2 h3 (kk v w1 h))
theorem w_invI (C : Cx X G cc nL own ret rm nm tb) {i nL1 np : Nat} {y : MethodName} {cc1 : ByteArray} {rm1 : Room} {R : Option Value → va_W → Prop} {b : Nat} {st0 : List Value} (As : List Value) (k1 n1 : Nat) (L : LkI own i y cc1 nL1 np) (hM : Mth X.2.1 y cc1 nL1 none rm1 G w (.ref b :: As) R nX)
    (hnp : As.length = np) (hst0 : st0 = As.reverse ++ .ref b :: st) (hc : nck rm1 rm nL1 k n k1 n1 st = true) (d : decode cc pc = .ok (.invokespecial i, 3)) (hq : pc + 3 = q)
    (kk : ∀ (v : Option Value) (w1 : va_W), R v w1 → V X G nL w1 k1 n1 Q q lv (v.toList ++ st)) : V X G nL w k n Q pc lv st0 := by
  obtain ⟨h1, ⟨h2, h3⟩, h4, h5⟩ := nck_of hc
  exact v_invI C L hM hnp hst0 h1 h4 h5 d hq (fun v w1 h => xx_mono h2 h3 (kk v w1 h))
/-- nothing can come out by a throw -/
theorem kx_no {k1 n1 : Nat} : ∀ (E : String) (w1 : va_W), nX E w1 → VX X G nL w1 k1 n1 Q pc lv E := fun _ _ h => absurd h (fun z => z)
theorem kx_out {R : Option Value → va_W → Prop} {XP XP1 : String → va_W → Prop} {k1 n1 : Nat} (C : Cx X G cc nL own ret rm nm []) (hc : (Nat.ble k1 rm.cells && Nat.ble n1 rm.slots) = true) (h : ∀ (E : String) (w1 : va_W), XP1 E w1 → XP E w1) : ∀ (E : String) (w1 : va_W), XP1 E w1 → VX X G nL w1 k1 n1 (Tg X G rm R XP) pc lv E := by
  simp only [Bool.and_eq_true, Nat.ble_eq] at hc
  exact fun E w1 h1 => v_out C hc.1 hc.2 (h E w1 h1)
/-- a condition as a number -/
def bI (P : Prop) [Decidable P] : Int32 := if P then 1 else 0
theorem bI_t {P : Prop} [Decidable P] (h : P) : bI P = 1 := if_pos h
theorem bI_f {P : Prop} [Decidable P] (h : ¬ P) : bI P = 0 := if_neg h
theorem bI_z {P : Prop} [Decidable P] : narrow .boolean (.int (bI P)) = .int (bI P) := by
  unfold bI
  split <;> rfl
theorem bI_c {P Q : Prop} [Decidable P] [Decidable Q] (h : P ↔ Q) : bI P = bI Q := by
  unfold bI
  by_cases c : P
  · rw [if_pos c, if_pos (h.mp c)]
  · rw [if_neg c, if_neg (fun z => c (h.mpr z))]
theorem bI_e0 {P : Prop} [Decidable P] : bI P = 0 ↔ ¬ P := by
  unfold bI
  split
  · exact ⟨fun h => absurd h (by decide), fun h => absurd (by assumption) h⟩
  · exact ⟨fun _ => by assumption, fun _ => rfl⟩
theorem v_ifB_eq (C : Cx X G cc nL own ret rm nm tb) {P : Prop} [Decidable P] {z : Int} {t : Nat} (d : decode cc pc = .ok (.ifCond .eq z, 3)) (ht : (pc : Int) + z = (t : Int)) (hq : pc + 3 = q) (kt : ¬ P → V X G nL w k n Q t lv st) (kf : P → V X G nL w k n Q q lv st) : V X G nL w k n Q pc lv (.int (bI P) :: st) :=
  v_if_eq C d ht hq (fun h => kt (bI_e0.mp h)) (fun h => kf (Classical.byContradiction fun z => h (bI_e0.mpr z)))
theorem v_ifB_ne (C : Cx X G cc nL own ret rm nm tb) {P : Prop} [Decidable P] {z : Int} {t : Nat} (d : decode cc pc = .ok (.ifCond .ne z, 3)) (ht : (pc : Int) + z = (t : Int)) (hq : pc + 3 = q) (kt : P → V X G nL w k n Q t lv st) (kf : ¬ P → V X G nL w k n Q q lv st) : V X G nL w k n Q pc lv (.int (bI P) :: st) :=
  v_if_ne C d ht hq (fun h => kt (Classical.byContradiction fun z => h (bI_e0.mpr z))) (fun h => kf (bI_e0.mp h))
end VC2
end
section
/-! The worlds: a cell is named by its kind and its number; a: where it lies; s (the class's), t (the reference's): what it holds. Numbers of a state: those of the reference's fields; 50 on: the class's own. -/
abbrev SS : Type := Nat → Nat → Int32
abbrev AD : Type := Nat → Nat → Nat
abbrev tn (x : Int32) : Nat := x.toNatClampNeg
def su (s : SS) (k i : Nat) (v : Int32) : SS := fun k' => if k' = k then upd (s k) i v else s k'
theorem su_s {s : SS} {k i : Nat} {v : Int32} : su s k i v k = upd (s k) i v := if_pos rfl
theorem su_o {s : SS} {k i k' : Nat} {v : Int32} (h : k' ≠ k) : su s k i v k' = s k' := if_neg h
theorem su_a {s : SS} {k i : Nat} {v : Int32} : su s k i v k i = v := by rw [su_s]; exact if_pos rfl
theorem su_b {s : SS} {k i j : Nat} {v : Int32} (h : j ≠ i) : su s k i v k j = s k j := by rw [su_s]; exact if_neg h
/-- the reference: which of its fields are arrays, of booleans, how long -/
def mA (j : Nat) : Bool := !(Nat.ble j 8 || (Nat.beq j 12 || (Nat.beq j 21 || (Nat.beq j 33 || (Nat.beq j 36 || (Nat.beq j 39 || Nat.ble 45 j))))))
def mZ (j : Nat) : Bool := Nat.beq j 25 || Nat.beq j 28
def mN (j : Nat) : Nat := bif Nat.ble j 11 then 40 else bif Nat.ble j 19 then 12 else bif Nat.beq j 20 then 144 else bif Nat.ble j 32 then 30 else bif Nat.ble j 38 then 20 else bif Nat.ble j 42 then 600 else 5
def mF (a : AD) (t : SS) (j : Nat) : Value := bif mA j then .ref (a 1 j) else .int (t j 0)
/-- the class: the number of a field's state, by kinds -/
def cI (j : Nat) : Nat := bif Nat.beq j 11 then 7 else j - 6
def kI (j : Nat) : Nat := match j with
  | 0 => 23 | 1 => 24 | 2 => 27 | 3 => 22 | 4 => 26 | 5 => 25 | 6 => 53 | 7 => 32 | 8 => 31 | 9 => 54 | _ => 28
def lI (t : Nat) : Nat := match t with
  | 0 => 12 | 1 => 21 | _ => 33
def eI (t : Nat) : Nat := match t with
  | 0 => 9 | 1 => 12 | _ => 13
def gI (t : Nat) : Nat := match t with
  | 0 => 9 | 1 => 10 | 2 => 50 | 3 => 51 | _ => 11
def gN (t : Nat) : Nat := match t with
  | 0 => 40 | 1 => 40 | 2 => 20 | 3 => 20 | _ => 40
def cF (a : AD) (s : SS) (j : Nat) : Value := match j with
  | 0 => .ref (a 3 0) | 1 => .ref (a 4 0) | 2 => .ref (a 5 0) | 3 => .ref (a 6 0) | 4 => .ref (a 6 1) | 5 => .ref (a 6 2) | j => .int (s (cI j) 0)
def nF (a : AD) (s : SS) (i j : Nat) : Value := match j with
  | 0 => .ref (a 10 i) | 1 => .ref (a 11 i) | j => .int (s (11 + j) i)
/-- rows of a table of w columns -/
def rw_ (w : Nat) (f : Nat → Int32) (i : Nat) : Nat → Int32 := fun b => if b < w then f (w * i + b) else 0
def E (g : Nat → Nat) (a : AD) (s t : SS) : Nat → Nat → va_E := fun k i => match k with
  | 0 => .inr (8, (List.range 46).map (mF a t))
  | 1 => .inl (bif mZ i then g 1 else g 0, mN i, .inl (t i))
  | 2 => .inr (7, (List.range 12).map (cF a s))
  | 3 => .inr (2, [.ref (a 8 0), .ref (a 8 1), .int (s 6 0), .int (s 8 0)])
  | 4 => .inr (6, [.ref (a 8 2), .ref (a 8 3), .int (s 5 0)])
  | 5 => .inr (5, [.ref (a 8 4)])
  | 6 => .inr (0, [.int (s 55 i), .ref (a 16 i), .int (s (lI i) 0)])
  | 7 => .inl (g 2, a 15 i, .inr (.inr (.inr (.inr (fun j => if j < tn (s (lI i) 0) then some (a (eI i) j) else none)))))
  | 8 => .inl (g 0, gN i, .inl (s (gI i)))
  | 9 => .inr (3, (List.range 9).map (nF a s i))
  | 10 => .inl (g 0, 12, .inl (rw_ 12 (s 20) i))
  | 11 => .inl (g 0, 40, .inl (rw_ 40 (s 52) i))
  | 12 => .inr (1, (List.range 11).map (fun j => .int (s (kI j) i)))
  | 13 => .inr (4, [.int (s 34 i), .int (s 35 i)])
  | _ => .inl (g 3, 1, .inr (.inl (fun j => if j = 0 then (s 60 0).toInt64 else 0)))
def wl (a : AD) (F : Nat → Nat → va_E) (L : List (Nat × Nat)) : va_W := L.map (fun q => (a q.1 q.2, F q.1 q.2))
def Lv (s : SS) (k i : Nat) : Prop := match k with
  | 0 => i = 0
  | 1 => mA i = true
  | 2 => i = 0
  | 3 => i = 0
  | 4 => i = 0
  | 5 => i = 0
  | 6 => i < 3
  | 7 => i < 3 ∧ 0 < tn (s (lI i) 0)
  | 8 => i < 5
  | 9 => i < tn (s 12 0)
  | 10 => i < tn (s 12 0)
  | 11 => i < tn (s 12 0)
  | 12 => i < tn (s 21 0)
  | 13 => i < tn (s 33 0)
  | 14 => i = 0
  | _ => False
/-- the cells that there are: each once -/
def Live (L : List (Nat × Nat)) (s : SS) : Prop := L.Nodup ∧ ∀ k i : Nat, (k, i) ∈ L ↔ Lv s k i
theorem wl_mem {a : AD} {F : Nat → Nat → va_E} {L : List (Nat × Nat)} {k i : Nat} (h : (k, i) ∈ L) : (a k i, F k i) ∈ wl a F L := List.mem_map.mpr ⟨(k, i), h, rfl⟩
theorem wl_put {a : AD} {F F' : Nat → Nat → va_E} {L : List (Nat × Nat)} {k i : Nat} {e0 e1 : va_E} (hn : L.Nodup) (hm : (k, i) ∈ L) (h0 : F k i = e0) (h1 : F' k i = e1) (hF : ∀ k' i', (k', i') ∈ L → ¬ (k' = k ∧ i' = i) → F' k' i' = F k' i') :
    ∃ q0 : Nat, (wl a F L)[q0]? = some (a k i, e0) ∧ (wl a F L).set q0 (a k i, e1) = wl a F' L := by
  obtain ⟨q0, hq⟩ := List.getElem?_of_mem hm
  have hlt : q0 < L.length := (List.getElem?_eq_some_iff.mp hq).1
  refine ⟨q0, by rw [wl, List.getElem?_map, hq, ← h0]; rfl, ?_⟩
  apply List.ext_getElem?
  intro j
  by_cases hj : j = q0
  · subst hj
    rw [List.getElem?_set_self (by rw [wl, List.length_map]; exact hlt), wl, List.getElem?_map, hq, ← h1]
    rfl
  · rw [List.getElem?_set_ne (Ne.symm hj)]
    unfold wl
    rw [List.getElem?_map, List.getElem?_map]
    cases hz : L[j]? with
    | none => rfl
    | some p =>
      have hne : ¬ (p.1 = k ∧ p.2 = i) := by
        rintro ⟨rfl, rfl⟩
        exact hj ((List.getElem?_inj hlt hn).mp (hq.trans hz.symm)).symm
      have hp : (p.1, p.2) ∈ L := List.mem_of_getElem? hz
      show some (a p.1 p.2, F p.1 p.2) = some (a p.1 p.2, F' p.1 p.2)
      rw [hF p.1 p.2 hp hne]
theorem map_set {f f' : Nat → Value} {N j : Nat} {v : Value} (hv : f' j = v) (h : ∀ i, i < N → i ≠ j → f' i = f i) : ((List.range N).map f).set j v = (List.range N).map f' := by
  apply List.ext_getElem?
  intro i
  by_cases hi : i = j
  · subst hi
    by_cases hl : i < N
    · rw [List.getElem?_set_self (by simpa using hl), List.getElem?_map, List.getElem?_range hl, ← hv]; rfl
    · rw [List.getElem?_eq_none (by simp; omega), List.getElem?_eq_none (by simp; omega)]
  · rw [List.getElem?_set_ne (Ne.symm hi), List.getElem?_map, List.getElem?_map]
    by_cases hl : i < N
    · rw [List.getElem?_range hl]
      show some (f i) = some (f' i)
      rw [h i hl hi]
    · rw [List.getElem?_eq_none (by simp; omega)]; rfl
section WP
variable {g : Nat → Nat} {a : AD} {s t s0 : SS} {L : List (Nat × Nat)}
theorem ofL (hL : Live L s0) {k i : Nat} (h : (k, i) ∈ L) : Lv s0 k i := (hL.2 k i).mp h
theorem inL (hL : Live L s0) {k i : Nat} (h : Lv s0 k i) : (k, i) ∈ L := (hL.2 k i).mpr h
/-- the kinds that there are -/
theorem Lv.lt {k i : Nat} (h : Lv s0 k i) : k < 15 := by
  by_cases c : k < 15
  · exact c
  · obtain ⟨m, rfl⟩ : ∃ m, k = m + 15 := ⟨k - 15, by omega⟩
    exact absurd h (fun z => z)
theorem E_t (k i : Nat) (t' : SS) (hk : 2 ≤ k) : E g a s t' k i = E g a s t k i := by
  match k, hk with
  | 2, _ => rfl
  | 3, _ => rfl
  | 4, _ => rfl
  | 5, _ => rfl
  | 6, _ => rfl
  | 7, _ => rfl
  | 8, _ => rfl
  | 9, _ => rfl
  | 10, _ => rfl
  | 11, _ => rfl
  | 12, _ => rfl
  | 13, _ => rfl
  | n + 14, _ => rfl
theorem put_m0 (hL : Live L s0) (j : Nat) (hj : mA j = false) (v : Int32) : ∃ q0 : Nat, (wl a (E g a s t) L)[q0]? = some (a 0 0, Sum.inr (8, (List.range 46).map (mF a t))) ∧ (wl a (E g a s t) L).set q0 (a 0 0, Sum.inr (8, ((List.range 46).map (mF a t)).set j (.int v))) = wl a (E g a s (su t j 0 v)) L := by
  refine wl_put hL.1 (inL hL (k := 0) rfl) rfl ?_ ?_
  · show Sum.inr (8, (List.range 46).map (mF a (su t j 0 v))) = _
    rw [map_set (f' := mF a (su t j 0 v)) (by unfold mF; rw [hj]; show Value.int (su t j 0 v j 0) = _; rw [su_a]) (fun i hi hne => by unfold mF; rw [su_o hne])]
  · intro k' i' hm hne
    match k', hm, hne with
    | 0, hm, hne => exact absurd ⟨rfl, ofL hL hm⟩ hne
    | 1, hm, hne =>
      have h1 : mA i' = true := ofL hL hm
      have h2 : i' ≠ j := fun e => by rw [e, hj] at h1; cases h1
      show Sum.inl (bif mZ i' then g 1 else g 0, mN i', Sum.inl (su t j 0 v i')) = _
      rw [su_o h2]
      rfl
    | k + 2, hm, hne => exact E_t (k + 2) i' _ (by omega)
theorem put_m1 (hL : Live L s0) (j : Nat) (hj : mA j = true) (i : Nat) (v : Int32) : ∃ q0 : Nat, (wl a (E g a s t) L)[q0]? = some (a 1 j, Sum.inl (bif mZ j then g 1 else g 0, mN j, Sum.inl (t j))) ∧ (wl a (E g a s t) L).set q0 (a 1 j, Sum.inl (bif mZ j then g 1 else g 0, mN j, Sum.inl (upd (t j) i v))) = wl a (E g a s (su t j i v)) L := by
  refine wl_put hL.1 (inL hL (k := 1) hj) rfl ?_ ?_
  · show Sum.inl (bif mZ j then g 1 else g 0, mN j, Sum.inl (su t j i v j)) = _
    rw [su_s]
  · intro k' i' hm hne
    match k', hm, hne with
    | 0, hm, hne =>
      show Sum.inr (8, (List.range 46).map (mF a (su t j i v))) = Sum.inr (8, (List.range 46).map (mF a t))
      have : mF a (su t j i v) = mF a t := by
        funext z
        unfold mF
        by_cases hz : z = j
        · subst hz; rw [hj]; rfl
        · rw [su_o hz]
      rw [this]
    | 1, hm, hne =>
      show Sum.inl (bif mZ i' then g 1 else g 0, mN i', Sum.inl (su t j i v i')) = _
      rw [su_o (fun e => hne ⟨rfl, e⟩)]
      rfl
    | k + 2, hm, hne => exact E_t (k + 2) i' _ (by omega)
end WP
end
section
section WS
variable {g : Nat → Nat} {a : AD} {s s' t s0 : SS} {L : List (Nat × Nat)}
theorem lm {N : Nat} {f f' : Nat → Value} (h : ∀ i, i < N → f i = f' i) : (List.range N).map f = (List.range N).map f' :=
  List.map_congr_left fun i hi => h i (List.mem_range.mp hi)
/-- the numbers of the state that a kind shows -/
def dep (k : Nat) : List Nat := match k with
  | 2 => [0, 1, 2, 3, 4, 7] | 3 => [6, 8] | 4 => [5] | 6 => [55, 12, 21, 33] | 7 => [12, 21, 33] | 8 => [9, 10, 50, 51, 11] | 9 => [13, 14, 15, 16, 17, 18, 19] | 10 => [20] | 11 => [52]
  | 12 => [23, 24, 27, 22, 26, 25, 53, 32, 31, 54, 28] | 13 => [34, 35] | 14 => [60] | _ => []
theorem lI_in (i : Nat) : lI i ∈ [12, 21, 33] := by
  unfold lI
  split <;> decide
theorem gI_in (i : Nat) : gI i ∈ dep 8 := by
  unfold gI
  split <;> decide
theorem kI_in (j : Nat) : kI j ∈ dep 12 := by
  unfold kI
  split <;> decide
theorem cF_d (h : ∀ z, z ∈ dep 2 → s' z = s z) (j : Nat) (hj : j < 12) : cF a s' j = cF a s j := by
  rcases (show j = 0 ∨ j = 1 ∨ j = 2 ∨ j = 3 ∨ j = 4 ∨ j = 5 ∨ j = 6 ∨ j = 7 ∨ j = 8 ∨ j = 9 ∨ j = 10 ∨ j = 11 by omega) with rfl | rfl | rfl | rfl | rfl | rfl | rfl | rfl | rfl | rfl | rfl | rfl
  · rfl
  · rfl
  · rfl
  · rfl
  · rfl
  · rfl
  · show Value.int (s' 0 0) = .int (s 0 0); rw [h 0 (by decide)]
  · show Value.int (s' 1 0) = .int (s 1 0); rw [h 1 (by decide)]
  · show Value.int (s' 2 0) = .int (s 2 0); rw [h 2 (by decide)]
  · show Value.int (s' 3 0) = .int (s 3 0); rw [h 3 (by decide)]
  · show Value.int (s' 4 0) = .int (s 4 0); rw [h 4 (by decide)]
  · show Value.int (s' 7 0) = .int (s 7 0); rw [h 7 (by decide)]
theorem nF_i (i : Nat) (h : ∀ z, s' z i = s z i) (j : Nat) : nF a s' i j = nF a s i j := by
  unfold nF
  split
  · rfl
  · rfl
  · rw [h]
theorem nF_d (h : ∀ z, z ∈ dep 9 → s' z = s z) (i j : Nat) (hj : j < 9) : nF a s' i j = nF a s i j := by
  unfold nF
  split
  · rfl
  · rfl
  · rw [h (11 + j) (by
      have h0 : ¬ j = 0 := by assumption
      have h1 : ¬ j = 1 := by assumption
      rcases (show j = 2 ∨ j = 3 ∨ j = 4 ∨ j = 5 ∨ j = 6 ∨ j = 7 ∨ j = 8 by omega) with rfl | rfl | rfl | rfl | rfl | rfl | rfl <;> decide)]
theorem E_e0 (i : Nat) : E g a s t 0 i = .inr (8, (List.range 46).map (mF a t)) := rfl
theorem E_e1 (i : Nat) : E g a s t 1 i = .inl (bif mZ i then g 1 else g 0, mN i, .inl (t i)) := rfl
theorem E_e5 (i : Nat) : E g a s t 5 i = .inr (5, [.ref (a 8 4)]) := rfl
theorem E_d0 (i : Nat) : E g a s' t 0 i = E g a s t 0 i := (E_e0 i).trans (E_e0 i).symm
theorem E_d1 (i : Nat) : E g a s' t 1 i = E g a s t 1 i := (E_e1 i).trans (E_e1 i).symm
theorem E_d2 (i : Nat) (h : ∀ z, z ∈ dep 2 → s' z = s z) : E g a s' t 2 i = E g a s t 2 i := congrArg (fun l => Sum.inr (7, l)) (lm fun j hj => cF_d h j hj)
theorem E_d3 (i : Nat) (h : ∀ z, z ∈ dep 3 → s' z = s z) : E g a s' t 3 i = E g a s t 3 i := by
  show (Sum.inr (2, [_, _, .int (s' 6 0), .int (s' 8 0)]) : va_E) = _
  rw [h 6 (by decide), h 8 (by decide)]
  rfl
theorem E_d4 (i : Nat) (h : ∀ z, z ∈ dep 4 → s' z = s z) : E g a s' t 4 i = E g a s t 4 i := by
  show (Sum.inr (6, [_, _, .int (s' 5 0)]) : va_E) = _
  rw [h 5 (by decide)]
  rfl
theorem E_d5 (i : Nat) : E g a s' t 5 i = E g a s t 5 i := (E_e5 i).trans (E_e5 i).symm
theorem E_d6 (i : Nat) (h : ∀ z, z ∈ dep 6 → s' z = s z) : E g a s' t 6 i = E g a s t 6 i := by
  show (Sum.inr (0, [.int (s' 55 i), _, .int (s' (lI i) 0)]) : va_E) = _
  rw [h 55 (by decide), h (lI i) (List.mem_cons_of_mem _ (lI_in i))]
  rfl
theorem E_d7 (i : Nat) (h : ∀ z, z ∈ dep 7 → s' z = s z) : E g a s' t 7 i = E g a s t 7 i := by
  show (Sum.inl (g 2, a 15 i, Sum.inr (.inr (.inr (.inr (fun j => if j < tn (s' (lI i) 0) then some (a (eI i) j) else none))))) : va_E) = _
  rw [h (lI i) (lI_in i)]
  rfl
theorem E_d8 (i : Nat) (h : ∀ z, z ∈ dep 8 → s' z = s z) : E g a s' t 8 i = E g a s t 8 i := by
  show (Sum.inl (g 0, gN i, Sum.inl (s' (gI i))) : va_E) = _
  rw [h (gI i) (gI_in i)]
  rfl
theorem E_d9 (i : Nat) (h : ∀ z, z ∈ dep 9 → s' z = s z) : E g a s' t 9 i = E g a s t 9 i := congrArg (fun l => Sum.inr (3, l)) (lm fun j hj => nF_d h i j hj)
theorem E_d10 (i : Nat) (h : ∀ z, z ∈ dep 10 → s' z = s z) : E g a s' t 10 i = E g a s t 10 i := by
  show (Sum.inl (g 0, 12, Sum.inl (rw_ 12 (s' 20) i)) : va_E) = _
  rw [h 20 (by decide)]
  rfl
theorem E_d11 (i : Nat) (h : ∀ z, z ∈ dep 11 → s' z = s z) : E g a s' t 11 i = E g a s t 11 i := by
  show (Sum.inl (g 0, 40, Sum.inl (rw_ 40 (s' 52) i)) : va_E) = _
  rw [h 52 (by decide)]
  rfl
theorem E_d12 (i : Nat) (h : ∀ z, z ∈ dep 12 → s' z = s z) : E g a s' t 12 i = E g a s t 12 i := congrArg (fun l => Sum.inr (1, l)) (lm fun j _ => by rw [h (kI j) (kI_in j)])
theorem E_d13 (i : Nat) (h : ∀ z, z ∈ dep 13 → s' z = s z) : E g a s' t 13 i = E g a s t 13 i := by
  show (Sum.inr (4, [.int (s' 34 i), .int (s' 35 i)]) : va_E) = _
  rw [h 34 (by decide), h 35 (by decide)]
  rfl
theorem E_d14 (i : Nat) (h : ∀ z, z ∈ dep 14 → s' z = s z) : E g a s' t 14 i = E g a s t 14 i := by
  show (Sum.inl (g 3, 1, Sum.inr (.inl (fun j => if j = 0 then (s' 60 0).toInt64 else 0))) : va_E) = _
  rw [h 60 (by decide)]
  rfl
theorem E_d (k i : Nat) (hk : k < 15) (h : ∀ z, z ∈ dep k → s' z = s z) : E g a s' t k i = E g a s t k i := by
  rcases (show k = 0 ∨ k = 1 ∨ k = 2 ∨ k = 3 ∨ k = 4 ∨ k = 5 ∨ k = 6 ∨ k = 7 ∨ k = 8 ∨ k = 9 ∨ k = 10 ∨ k = 11 ∨ k = 12 ∨ k = 13 ∨ k = 14 by omega) with rfl | rfl | rfl | rfl | rfl | rfl | rfl | rfl | rfl | rfl | rfl | rfl | rfl | rfl | rfl
  · exact E_d0 i
  · exact E_d1 i
  · exact E_d2 i h
  · exact E_d3 i h
  · exact E_d4 i h
  · exact E_d5 i
  · exact E_d6 i h
  · exact E_d7 i h
  · exact E_d8 i h
  · exact E_d9 i h
  · exact E_d10 i h
  · exact E_d11 i h
  · exact E_d12 i h
  · exact E_d13 i h
  · exact E_d14 i h
theorem put_s (hL : Live L s0) {K i0 : Nat} (id i : Nat) (v : Int32) {e0 e1 : va_E} (hm : Lv s0 K i0) (h0 : E g a s t K i0 = e0) (h1 : E g a (su s id i v) t K i0 = e1) (hd : ∀ k', k' < 15 → k' ≠ K → id ∉ dep k') (hs : ∀ i', Lv s0 K i' → i' ≠ i0 → E g a (su s id i v) t K i' = E g a s t K i') :
    ∃ q0 : Nat, (wl a (E g a s t) L)[q0]? = some (a K i0, e0) ∧ (wl a (E g a s t) L).set q0 (a K i0, e1) = wl a (E g a (su s id i v) t) L := by
  refine wl_put hL.1 (inL hL hm) h0 h1 (fun k' i' hm' hne => ?_)
  by_cases hk : k' = K
  · subst hk
    exact hs i' (ofL hL hm') (fun e => hne ⟨rfl, e⟩)
  · exact E_d k' i' (Lv.lt (ofL hL hm')) (fun z hz => su_o (fun e => hd k' (Lv.lt (ofL hL hm')) hk (e ▸ hz)))
theorem put_c (hL : Live L s0) (j : Nat) (h6 : 6 ≤ j) (hj : j < 12) (v : Int32) : ∃ q0 : Nat, (wl a (E g a s t) L)[q0]? = some (a 2 0, Sum.inr (7, (List.range 12).map (cF a s))) ∧ (wl a (E g a s t) L).set q0 (a 2 0, Sum.inr (7, ((List.range 12).map (cF a s)).set j (.int v))) = wl a (E g a (su s (cI j) 0 v) t) L := by
  refine put_s hL (K := 2) (cI j) 0 v rfl rfl ?_ ?_ (fun i' h1 h2 => absurd h1 h2)
  · show (Sum.inr (7, (List.range 12).map (cF a (su s (cI j) 0 v))) : va_E) = _
    rw [map_set (f' := cF a (su s (cI j) 0 v)) (by
      rcases (show j = 6 ∨ j = 7 ∨ j = 8 ∨ j = 9 ∨ j = 10 ∨ j = 11 by omega) with rfl | rfl | rfl | rfl | rfl | rfl <;> exact congrArg Value.int su_a) (fun i hi hne => by
      rcases (show i = 0 ∨ i = 1 ∨ i = 2 ∨ i = 3 ∨ i = 4 ∨ i = 5 ∨ 6 ≤ i by omega) with rfl | rfl | rfl | rfl | rfl | rfl | h
      · rfl
      · rfl
      · rfl
      · rfl
      · rfl
      · rfl
      · have e : ∀ s1 : SS, cF a s1 i = .int (s1 (cI i) 0) := fun s1 => by
          unfold cF
          split <;> first | omega | rfl
        rw [e, e, su_o (fun e9 => hne (by
          unfold cI at e9
          cases h1 : Nat.beq i 11 <;> cases h2 : Nat.beq j 11 <;> simp only [h1, h2, cond_true, cond_false] at e9
          · omega
          · have := Nat.eq_of_beq_eq_true h2; omega
          · have := Nat.eq_of_beq_eq_true h1; omega
          · have := Nat.eq_of_beq_eq_true h1; have := Nat.eq_of_beq_eq_true h2; omega))])]
  · rcases (show j = 6 ∨ j = 7 ∨ j = 8 ∨ j = 9 ∨ j = 10 ∨ j = 11 by omega) with rfl | rfl | rfl | rfl | rfl | rfl <;> decide
theorem put_sea (hL : Live L s0) (v : Int32) : ∃ q0 : Nat, (wl a (E g a s t) L)[q0]? = some (a 3 0, Sum.inr (2, [.ref (a 8 0), .ref (a 8 1), .int (s 6 0), .int (s 8 0)])) ∧ (wl a (E g a s t) L).set q0 (a 3 0, Sum.inr (2, [Value.ref (a 8 0), .ref (a 8 1), .int (s 6 0), .int (s 8 0)].set 2 (.int v))) = wl a (E g a (su s 6 0 v) t) L :=
  put_s hL (K := 3) 6 0 v rfl rfl rfl (by decide) (fun i' h1 h2 => absurd h1 h2)
theorem put_tou (hL : Live L s0) (v : Int32) : ∃ q0 : Nat, (wl a (E g a s t) L)[q0]? = some (a 3 0, Sum.inr (2, [.ref (a 8 0), .ref (a 8 1), .int (s 6 0), .int (s 8 0)])) ∧ (wl a (E g a s t) L).set q0 (a 3 0, Sum.inr (2, [Value.ref (a 8 0), .ref (a 8 1), .int (s 6 0), .int (s 8 0)].set 3 (.int v))) = wl a (E g a (su s 8 0 v) t) L :=
  put_s hL (K := 3) 8 0 v rfl rfl rfl (by decide) (fun i' h1 h2 => absurd h1 h2)
theorem put_sto (hL : Live L s0) (v : Int32) : ∃ q0 : Nat, (wl a (E g a s t) L)[q0]? = some (a 4 0, Sum.inr (6, [.ref (a 8 2), .ref (a 8 3), .int (s 5 0)])) ∧ (wl a (E g a s t) L).set q0 (a 4 0, Sum.inr (6, [Value.ref (a 8 2), .ref (a 8 3), .int (s 5 0)].set 2 (.int v))) = wl a (E g a (su s 5 0 v) t) L :=
  put_s hL (K := 4) 5 0 v rfl rfl rfl (by decide) (fun i' h1 h2 => absurd h1 h2)
theorem gI_inj (j i' : Nat) (hj : j < 5) (hi : i' < 5) (h : i' ≠ j) : gI i' ≠ gI j := by
  rcases (show j = 0 ∨ j = 1 ∨ j = 2 ∨ j = 3 ∨ j = 4 by omega) with rfl | rfl | rfl | rfl | rfl <;> rcases (show i' = 0 ∨ i' = 1 ∨ i' = 2 ∨ i' = 3 ∨ i' = 4 by omega) with rfl | rfl | rfl | rfl | rfl <;> first | exact absurd rfl h | decide
theorem put_g (hL : Live L s0) (j : Nat) (hj : j < 5) (i : Nat) (v : Int32) : ∃ q0 : Nat, (wl a (E g a s t) L)[q0]? = some (a 8 j, Sum.inl (g 0, gN j, Sum.inl (s (gI j)))) ∧ (wl a (E g a s t) L).set q0 (a 8 j, Sum.inl (g 0, gN j, Sum.inl (upd (s (gI j)) i v))) = wl a (E g a (su s (gI j) i v) t) L := by
  refine put_s hL (K := 8) (gI j) i v hj rfl ?_ ?_ (fun i' h1 h2 => ?_)
  · show (Sum.inl (g 0, gN j, Sum.inl (su s (gI j) i v (gI j))) : va_E) = _
    rw [su_s]
  · rcases (show j = 0 ∨ j = 1 ∨ j = 2 ∨ j = 3 ∨ j = 4 by omega) with rfl | rfl | rfl | rfl | rfl <;> decide
  · show (Sum.inl (g 0, gN i', Sum.inl (su s (gI j) i v (gI i'))) : va_E) = _
    rw [su_o (gI_inj j i' hj h1 h2)]
    rfl
theorem put_n (hL : Live L s0) (f : Nat) (h2 : 2 ≤ f) (hf : f < 9) (i : Nat) (hi : Lv s0 9 i) (v : Int32) : ∃ q0 : Nat, (wl a (E g a s t) L)[q0]? = some (a 9 i, Sum.inr (3, (List.range 9).map (nF a s i))) ∧ (wl a (E g a s t) L).set q0 (a 9 i, Sum.inr (3, ((List.range 9).map (nF a s i)).set f (.int v))) = wl a (E g a (su s (11 + f) i v) t) L := by
  refine put_s hL (K := 9) (11 + f) i v hi rfl ?_ ?_ (fun i' h1 h2 => ?_)
  · show (Sum.inr (3, (List.range 9).map (nF a (su s (11 + f) i v) i)) : va_E) = _
    rw [map_set (f' := nF a (su s (11 + f) i v) i) (by
      rcases (show f = 2 ∨ f = 3 ∨ f = 4 ∨ f = 5 ∨ f = 6 ∨ f = 7 ∨ f = 8 by omega) with rfl | rfl | rfl | rfl | rfl | rfl | rfl <;> exact congrArg Value.int su_a) (fun j hj hne => by
      unfold nF
      split
      · rfl
      · rfl
      · rw [su_o (fun e => hne (by omega))])]
  · rcases (show f = 2 ∨ f = 3 ∨ f = 4 ∨ f = 5 ∨ f = 6 ∨ f = 7 ∨ f = 8 by omega) with rfl | rfl | rfl | rfl | rfl | rfl | rfl <;> decide
  · refine congrArg (fun l => Sum.inr (3, l)) (lm fun j _ => nF_i i' (fun z => ?_) j)
    by_cases hz : z = 11 + f
    · subst hz; exact su_b h2
    · rw [su_o hz]
theorem kI_inj : ∀ f : Nat, f < 11 → ∀ j : Nat, j < 11 → j ≠ f → kI j ≠ kI f := by decide
theorem put_k (hL : Live L s0) (f : Nat) (hf : f < 11) (i : Nat) (hi : Lv s0 12 i) (v : Int32) : ∃ q0 : Nat, (wl a (E g a s t) L)[q0]? = some (a 12 i, Sum.inr (1, (List.range 11).map (fun j => Value.int (s (kI j) i)))) ∧ (wl a (E g a s t) L).set q0 (a 12 i, Sum.inr (1, ((List.range 11).map (fun j => Value.int (s (kI j) i))).set f (.int v))) = wl a (E g a (su s (kI f) i v) t) L := by
  refine put_s hL (K := 12) (kI f) i v hi rfl ?_ ?_ (fun i' h1 h2 => ?_)
  · show (Sum.inr (1, (List.range 11).map (fun j => Value.int (su s (kI f) i v (kI j) i))) : va_E) = _
    rw [map_set (f' := fun j => Value.int (su s (kI f) i v (kI j) i)) (by exact congrArg Value.int su_a) (fun j hj hne => by rw [su_o (kI_inj f hf j hj hne)])]
  · rcases (show f = 0 ∨ f = 1 ∨ f = 2 ∨ f = 3 ∨ f = 4 ∨ f = 5 ∨ f = 6 ∨ f = 7 ∨ f = 8 ∨ f = 9 ∨ f = 10 by omega) with rfl | rfl | rfl | rfl | rfl | rfl | rfl | rfl | rfl | rfl | rfl <;> decide
  · refine congrArg (fun l => Sum.inr (1, l)) (lm fun j _ => ?_)
    by_cases hz : kI j = kI f
    · rw [hz, su_b h2]
    · rw [su_o hz]
theorem rw_up {w : Nat} {f : Nat → Int32} {i b : Nat} (hb : b < w) (v : Int32) : rw_ w (upd f (w * i + b) v) i = upd (rw_ w f i) b v := by
  funext z
  unfold rw_ upd
  by_cases hz : z = b
  · subst hz; simp [hb]
  · by_cases h : z < w
    · have : ¬ w * i + z = w * i + b := by omega
      simp [h, hz, this]
    · simp [h, hz]
theorem rw_ne {w : Nat} {f : Nat → Int32} {i i' b : Nat} (hb : b < w) (h : i' ≠ i) (v : Int32) : rw_ w (upd f (w * i + b) v) i' = rw_ w f i' := by
  funext z
  unfold rw_ upd
  by_cases hz : z < w
  · rw [if_pos hz, if_pos hz, if_neg]
    intro e
    rcases Nat.lt_or_gt_of_ne h with h | h
    · have := Nat.mul_le_mul_left w (show i' + 1 ≤ i from h)
      rw [Nat.mul_add, Nat.mul_one] at this
      omega
    · have := Nat.mul_le_mul_left w (show i + 1 ≤ i' from h)
      rw [Nat.mul_add, Nat.mul_one] at this
      omega
  · rw [if_neg hz, if_neg hz]
theorem put_p (hL : Live L s0) (i : Nat) (hi : Lv s0 10 i) (b : Nat) (hb : b < 12) (v : Int32) : ∃ q0 : Nat, (wl a (E g a s t) L)[q0]? = some (a 10 i, Sum.inl (g 0, 12, Sum.inl (rw_ 12 (s 20) i))) ∧ (wl a (E g a s t) L).set q0 (a 10 i, Sum.inl (g 0, 12, Sum.inl (upd (rw_ 12 (s 20) i) b v))) = wl a (E g a (su s 20 (12 * i + b) v) t) L := by
  refine put_s hL (K := 10) 20 (12 * i + b) v hi rfl ?_ (by decide) (fun i' h1 h2 => ?_)
  · show (Sum.inl (g 0, 12, Sum.inl (rw_ 12 (su s 20 (12 * i + b) v 20) i)) : va_E) = _
    rw [su_s, rw_up hb]
  · show (Sum.inl (g 0, 12, Sum.inl (rw_ 12 (su s 20 (12 * i + b) v 20) i')) : va_E) = _
    rw [su_s, rw_ne hb h2]
    rfl
theorem put_o (hL : Live L s0) (i : Nat) (hi : Lv s0 11 i) (b : Nat) (hb : b < 40) (v : Int32) : ∃ q0 : Nat, (wl a (E g a s t) L)[q0]? = some (a 11 i, Sum.inl (g 0, 40, Sum.inl (rw_ 40 (s 52) i))) ∧ (wl a (E g a s t) L).set q0 (a 11 i, Sum.inl (g 0, 40, Sum.inl (upd (rw_ 40 (s 52) i) b v))) = wl a (E g a (su s 52 (40 * i + b) v) t) L := by
  refine put_s hL (K := 11) 52 (40 * i + b) v hi rfl ?_ (by decide) (fun i' h1 h2 => ?_)
  · show (Sum.inl (g 0, 40, Sum.inl (rw_ 40 (su s 52 (40 * i + b) v 52) i)) : va_E) = _
    rw [su_s, rw_up hb]
  · show (Sum.inl (g 0, 40, Sum.inl (rw_ 40 (su s 52 (40 * i + b) v 52) i')) : va_E) = _
    rw [su_s, rw_ne hb h2]
    rfl
end WS
end
section
/-! ends in one form: what is answered, the world behind it, what is known then -/
abbrev RI (x : Value) (w2 : va_W) (P : Prop) : Option Value → va_W → Prop := fun v w1 => v = some x ∧ w1 = w2 ∧ P
abbrev RV (w2 : va_W) (P : Prop) : Option Value → va_W → Prop := fun v w1 => v = none ∧ w1 = w2 ∧ P
abbrev XW (PE : String → Prop) (w2 : va_W) : String → va_W → Prop := fun E w1 => PE E ∧ w1 = w2
def xI : String := "java/lang/IndexOutOfBoundsException"
def xA : String := "java/lang/IllegalArgumentException"
def xS : String := "java/lang/IllegalStateException"
/-- which exception, by a number: 1, 2, 3 -/
abbrev PX (e : Nat) (E : String) : Prop := (E = xI ∧ e = 1) ∨ (E = xA ∧ e = 2) ∨ (E = xS ∧ e = 3)
section VC3
variable {X : XS} {G : GG} {cc : ByteArray} {nL : Nat} {own : String} {ret : Option FieldType} {rm : Room} {nm : String} {tb : List ExceptionTableEntry} {w w2 : va_W} {k n : Nat} {Q : State → Prop} {pc q : Nat} {lv : List (Nat × Value)} {st : List Value}
theorem w_invVr (C : Cx X G cc nL own ret rm nm tb) {i nL1 np : Nat} {y : MethodName} {cc1 : ByteArray} {ret1 : Option FieldType} {rm1 : Room} {x : Value} {P : Prop} {XP : String → va_W → Prop} {b ci : Nat} {fs st0 : List Value} (As : List Value) (k1 n1 : Nat) (L : LkV own i y cc1 nL1 ret1 np) (hM : Mth X.2.1 y cc1 nL1 ret1 rm1 G w (.ref b :: As) (RI x w2 P) XP) (hm : (b, Sum.inr (ci, fs)) ∈ w) (hcl : (vwCl[ci]?).map (fun r => r.1) = some y.cls)
    (hnp : As.length = np) (hst0 : st0 = As.reverse ++ .ref b :: st) (hc : nck rm1 rm nL1 k n k1 n1 st = true) (d : decode cc pc = .ok (.invokevirtual i, 3)) (hq : pc + 3 = q)
    (kx : ∀ (E : String) (w1 : va_W), XP E w1 → VX X G nL w1 k1 n1 Q pc lv E) (kk : P → V X G nL w2 k1 n1 Q q lv (x :: st)) : V X G nL w k n Q pc lv st0 :=
  w_invV C As k1 n1 L hM hm hcl hnp hst0 hc d hq kx (fun v w1 h => by obtain ⟨rfl, rfl, h⟩ := h; exact kk h)
theorem w_invVv (C : Cx X G cc nL own ret rm nm tb) {i nL1 np : Nat} {y : MethodName} {cc1 : ByteArray} {ret1 : Option FieldType} {rm1 : Room} {P : Prop} {XP : String → va_W → Prop} {b ci : Nat} {fs st0 : List Value} (As : List Value) (k1 n1 : Nat) (L : LkV own i y cc1 nL1 ret1 np) (hM : Mth X.2.1 y cc1 nL1 ret1 rm1 G w (.ref b :: As) (RV w2 P) XP) (hm : (b, Sum.inr (ci, fs)) ∈ w) (hcl : (vwCl[ci]?).map (fun r => r.1) = some y.cls)
    (hnp : As.length = np) (hst0 : st0 = As.reverse ++ .ref b :: st) (hc : nck rm1 rm nL1 k n k1 n1 st = true) (d : decode cc pc = .ok (.invokevirtual i, 3)) (hq : pc + 3 = q)
    (kx : ∀ (E : String) (w1 : va_W), XP E w1 → VX X G nL w1 k1 n1 Q pc lv E) (kk : P → V X G nL w2 k1 n1 Q q lv st) : V X G nL w k n Q pc lv st0 :=
  w_invV C As k1 n1 L hM hm hcl hnp hst0 hc d hq kx (fun v w1 h => by obtain ⟨rfl, rfl, h⟩ := h; exact kk h)
theorem w_invSr (C : Cx X G cc nL own ret rm nm tb) {i nL1 np : Nat} {y : MethodName} {cc1 : ByteArray} {ret1 : Option FieldType} {rm1 : Room} {x : Value} {P : Prop} {XP : String → va_W → Prop} {st0 : List Value} (As : List Value) (k1 n1 : Nat) (L : LkS own i y cc1 nL1 ret1 np) (hM : Mth X.2.1 y cc1 nL1 ret1 rm1 G w As (RI x w2 P) XP)
    (hnp : As.length = np) (hst0 : st0 = As.reverse ++ st) (hc : nck rm1 rm nL1 k n k1 n1 st = true) (d : decode cc pc = .ok (.invokestatic i, 3)) (hq : pc + 3 = q)
    (kx : ∀ (E : String) (w1 : va_W), XP E w1 → VX X G nL w1 k1 n1 Q pc lv E) (kk : P → V X G nL w2 k1 n1 Q q lv (x :: st)) : V X G nL w k n Q pc lv st0 :=
  w_invS C As k1 n1 L hM hnp hst0 hc d hq kx (fun v w1 h => by obtain ⟨rfl, rfl, h⟩ := h; exact kk h)
theorem w_invSv (C : Cx X G cc nL own ret rm nm tb) {i nL1 np : Nat} {y : MethodName} {cc1 : ByteArray} {ret1 : Option FieldType} {rm1 : Room} {P : Prop} {XP : String → va_W → Prop} {st0 : List Value} (As : List Value) (k1 n1 : Nat) (L : LkS own i y cc1 nL1 ret1 np) (hM : Mth X.2.1 y cc1 nL1 ret1 rm1 G w As (RV w2 P) XP)
    (hnp : As.length = np) (hst0 : st0 = As.reverse ++ st) (hc : nck rm1 rm nL1 k n k1 n1 st = true) (d : decode cc pc = .ok (.invokestatic i, 3)) (hq : pc + 3 = q)
    (kx : ∀ (E : String) (w1 : va_W), XP E w1 → VX X G nL w1 k1 n1 Q pc lv E) (kk : P → V X G nL w2 k1 n1 Q q lv st) : V X G nL w k n Q pc lv st0 :=
  w_invS C As k1 n1 L hM hnp hst0 hc d hq kx (fun v w1 h => by obtain ⟨rfl, rfl, h⟩ := h; exact kk h)
theorem w_invSNr (C : Cx X G cc nL own ret rm nm tb) {i nL1 np : Nat} {y : MethodName} {cc1 : ByteArray} {ret1 : Option FieldType} {rm1 : Room} {x : Value} {P : Prop} {st0 : List Value} (As : List Value) (k1 n1 : Nat) (L : LkSN own i y cc1 nL1 ret1 np) (hM : Mth X.2.1 y cc1 nL1 ret1 rm1 G w As (RI x w2 P) nX)
    (hnp : As.length = np) (hst0 : st0 = As.reverse ++ st) (hc : nck rm1 rm nL1 k n k1 n1 st = true) (d : decode cc pc = .ok (.invokestatic i, 3)) (hq : pc + 3 = q)
    (kk : P → V X G nL w2 k1 n1 Q q lv (x :: st)) : V X G nL w k n Q pc lv st0 :=
  w_invSN C As k1 n1 L hM hnp hst0 hc d hq (fun v w1 h => by obtain ⟨rfl, rfl, h⟩ := h; exact kk h)
theorem xx_cg {lv' : List (Nat × Value)} (h : lv = lv') (kk : V X G nL w k n Q pc lv' st) : V X G nL w k n Q pc lv st := h ▸ kk
theorem xx_st {st' : List Value} (h : st = st') (kk : V X G nL w k n Q pc lv st') : V X G nL w k n Q pc lv st := h ▸ kk
/-- a loop that counts up to N -/
theorem xx_loop (N i0 : Nat) (Wf : Nat → va_W) (lvf : Nat → List (Nat × Value)) (h : i0 ≤ N) (body : ∀ i, i0 ≤ i → i ≤ N → (i < N → V X G nL (Wf (i + 1)) k n Q pc (lvf (i + 1)) st) → V X G nL (Wf i) k n Q pc (lvf i) st) : V X G nL (Wf i0) k n Q pc (lvf i0) st := by
  have key : ∀ m i, i0 ≤ i → i + m = N → V X G nL (Wf i) k n Q pc (lvf i) st := by
    intro m
    induction m with
    | zero => exact fun i h0 hi => body i h0 (by omega) (fun h => absurd h (by omega))
    | succ m ih => exact fun i h0 hi => body i h0 (by omega) (fun _ => ih (i + 1) (by omega) (by omega))
  exact key (N - i0) i0 (Nat.le_refl _) (by omega)
theorem v_ialdE (C : Cx X G cc nL own ret rm nm tb) {a len : Nat} {f : Nat → Int32} {i : Int32} (j : Nat) (hm : (a, Sum.inl (G.2.2.1 0, len, Sum.inl f)) ∈ w) (he : i.toNatClampNeg = j) (hin : vp_in i len) (d : decode cc pc = .ok (.iaload, 1)) (hq : pc + 1 = q)
    (kk : V X G nL w k n Q q lv (.int (f j) :: st)) : V X G nL w k n Q pc lv (.int i :: .ref a :: st) := by
  subst he
  exact v_iald C hm hin d hq kk
theorem v_zaldE (C : Cx X G cc nL own ret rm nm tb) {a len : Nat} {f : Nat → Int32} {i : Int32} (j : Nat) (hm : (a, Sum.inl (G.2.2.1 1, len, Sum.inl f)) ∈ w) (he : i.toNatClampNeg = j) (hin : vp_in i len) (d : decode cc pc = .ok (.baload, 1)) (hq : pc + 1 = q)
    (kk : V X G nL w k n Q q lv (.int (f j) :: st)) : V X G nL w k n Q pc lv (.int i :: .ref a :: st) := by
  subst he
  exact v_zald C hm hin d hq kk
theorem v_iastE (C : Cx X G cc nL own ret rm nm tb) {a len : Nat} {f : Nat → Int32} {i x : Int32} (j : Nat) (hs : ∃ q0 : Nat, w[q0]? = some (a, Sum.inl (G.2.2.1 0, len, Sum.inl f)) ∧ w.set q0 (a, Sum.inl (G.2.2.1 0, len, Sum.inl (upd f j x))) = w2) (he : i.toNatClampNeg = j) (hin : vp_in i len) (d : decode cc pc = .ok (.iastore, 1)) (hq : pc + 1 = q)
    (kk : V X G nL w2 k n Q q lv st) : V X G nL w k n Q pc lv (.int x :: .int i :: .ref a :: st) := by
  subst he
  exact v_iast C hs hin d hq kk
theorem v_zastE (C : Cx X G cc nL own ret rm nm tb) {a len : Nat} {f : Nat → Int32} {i x : Int32} (j : Nat) (hs : ∃ q0 : Nat, w[q0]? = some (a, Sum.inl (G.2.2.1 1, len, Sum.inl f)) ∧ w.set q0 (a, Sum.inl (G.2.2.1 1, len, Sum.inl (upd f j x))) = w2) (hx : vp_nar .boolean x = x) (he : i.toNatClampNeg = j) (hin : vp_in i len) (d : decode cc pc = .ok (.bastore, 1)) (hq : pc + 1 = q)
    (kk : V X G nL w2 k n Q q lv st) : V X G nL w k n Q pc lv (.int x :: .int i :: .ref a :: st) := by
  subst he
  rw [← hx] at hs
  exact v_zast C hs hin d hq kk
end VC3
theorem rg {f : Nat → Value} {N j : Nat} {v : Value} (h : j < N) (hv : f j = v) : ((List.range N).map f)[j]? = some v := by
  rw [List.getElem?_map, List.getElem?_range h, ← hv]; rfl
theorem rg_len {f : Nat → Value} {N j : Nat} (h : j < N) : j < ((List.range N).map f).length := by
  rw [List.length_map, List.length_range]; exact h
section WM
variable {g : Nat → Nat} {a : AD} {s t s0 : SS} {L : List (Nat × Nat)}
theorem m0 (hL : Live L s0) : (a 0 0, Sum.inr (8, (List.range 46).map (mF a t))) ∈ wl a (E g a s t) L := wl_mem (F := E g a s t) (inL hL (k := 0) rfl)
theorem m1 (hL : Live L s0) (j : Nat) (hj : mA j = true) : (a 1 j, Sum.inl (bif mZ j then g 1 else g 0, mN j, Sum.inl (t j))) ∈ wl a (E g a s t) L := wl_mem (F := E g a s t) (inL hL (k := 1) hj)
theorem m2 (hL : Live L s0) : (a 2 0, Sum.inr (7, (List.range 12).map (cF a s))) ∈ wl a (E g a s t) L := wl_mem (F := E g a s t) (inL hL (k := 2) rfl)
theorem m3 (hL : Live L s0) : (a 3 0, Sum.inr (2, [.ref (a 8 0), .ref (a 8 1), .int (s 6 0), .int (s 8 0)])) ∈ wl a (E g a s t) L := wl_mem (F := E g a s t) (inL hL (k := 3) rfl)
theorem m4 (hL : Live L s0) : (a 4 0, Sum.inr (6, [.ref (a 8 2), .ref (a 8 3), .int (s 5 0)])) ∈ wl a (E g a s t) L := wl_mem (F := E g a s t) (inL hL (k := 4) rfl)
theorem m5 (hL : Live L s0) : (a 5 0, Sum.inr (5, [.ref (a 8 4)])) ∈ wl a (E g a s t) L := wl_mem (F := E g a s t) (inL hL (k := 5) rfl)
theorem m6 (hL : Live L s0) (i : Nat) (hi : i < 3) : (a 6 i, Sum.inr (0, [.int (s 55 i), .ref (a 16 i), .int (s (lI i) 0)])) ∈ wl a (E g a s t) L := wl_mem (F := E g a s t) (inL hL (k := 6) hi)
theorem m8 (hL : Live L s0) (i : Nat) (hi : i < 5) : (a 8 i, Sum.inl (g 0, gN i, Sum.inl (s (gI i)))) ∈ wl a (E g a s t) L := wl_mem (F := E g a s t) (inL hL (k := 8) hi)
theorem m9 (hL : Live L s0) (i : Nat) (hi : i < tn (s0 12 0)) : (a 9 i, Sum.inr (3, (List.range 9).map (nF a s i))) ∈ wl a (E g a s t) L := wl_mem (F := E g a s t) (inL hL (k := 9) hi)
theorem m10 (hL : Live L s0) (i : Nat) (hi : i < tn (s0 12 0)) : (a 10 i, Sum.inl (g 0, 12, Sum.inl (rw_ 12 (s 20) i))) ∈ wl a (E g a s t) L := wl_mem (F := E g a s t) (inL hL (k := 10) hi)
theorem m11 (hL : Live L s0) (i : Nat) (hi : i < tn (s0 12 0)) : (a 11 i, Sum.inl (g 0, 40, Sum.inl (rw_ 40 (s 52) i))) ∈ wl a (E g a s t) L := wl_mem (F := E g a s t) (inL hL (k := 11) hi)
theorem m12 (hL : Live L s0) (i : Nat) (hi : i < tn (s0 21 0)) : (a 12 i, Sum.inr (1, (List.range 11).map (fun j => Value.int (s (kI j) i)))) ∈ wl a (E g a s t) L := wl_mem (F := E g a s t) (inL hL (k := 12) hi)
theorem m13 (hL : Live L s0) (i : Nat) (hi : i < tn (s0 33 0)) : (a 13 i, Sum.inr (4, [.int (s 34 i), .int (s 35 i)])) ∈ wl a (E g a s t) L := wl_mem (F := E g a s t) (inL hL (k := 13) hi)
theorem m14 (hL : Live L s0) : (a 14 0, Sum.inl (g 3, 1, Sum.inr (Sum.inl (fun j => if j = 0 then (s 60 0).toInt64 else 0)))) ∈ wl a (E g a s t) L := wl_mem (F := E g a s t) (inL hL (k := 14) rfl)
end WM
end
section
theorem qm1 {x : Cond} (h : x ∈ tables_1_1) : x ∈ tables_1 := List.mem_append_left _ h
theorem q1 {x : Cond} (i : Nat) (h : tables_1_1[i]? = some x) (g : goodWord x = true) : x ∈ wA := List.mem_filter.mpr ⟨List.mem_append_right _ (qm1 (List.mem_of_getElem? h)), g⟩
theorem qn1 {x : Cond} (i : Nat) (h : tables_1_1[i]? = some x) (g : isN x = true) : x ∈ wN := List.mem_filter.mpr ⟨qm1 (List.mem_of_getElem? h), g⟩
theorem qm2 {x : Cond} (h : x ∈ tables_1_2) : x ∈ tables_1 := List.mem_append_right _ (List.mem_append_left _ h)
theorem q2 {x : Cond} (i : Nat) (h : tables_1_2[i]? = some x) (g : goodWord x = true) : x ∈ wA := List.mem_filter.mpr ⟨List.mem_append_right _ (qm2 (List.mem_of_getElem? h)), g⟩
theorem qn2 {x : Cond} (i : Nat) (h : tables_1_2[i]? = some x) (g : isN x = true) : x ∈ wN := List.mem_filter.mpr ⟨qm2 (List.mem_of_getElem? h), g⟩
theorem qm3 {x : Cond} (h : x ∈ tables_1_3) : x ∈ tables_1 := List.mem_append_right _ (List.mem_append_right _ (List.mem_append_left _ h))
theorem q3 {x : Cond} (i : Nat) (h : tables_1_3[i]? = some x) (g : goodWord x = true) : x ∈ wA := List.mem_filter.mpr ⟨List.mem_append_right _ (qm3 (List.mem_of_getElem? h)), g⟩
theorem qn3 {x : Cond} (i : Nat) (h : tables_1_3[i]? = some x) (g : isN x = true) : x ∈ wN := List.mem_filter.mpr ⟨qm3 (List.mem_of_getElem? h), g⟩
theorem qm4 {x : Cond} (h : x ∈ tables_1_4) : x ∈ tables_1 := List.mem_append_right _ (List.mem_append_right _ (List.mem_append_right _ (List.mem_append_left _ h)))
theorem q4 {x : Cond} (i : Nat) (h : tables_1_4[i]? = some x) (g : goodWord x = true) : x ∈ wA := List.mem_filter.mpr ⟨List.mem_append_right _ (qm4 (List.mem_of_getElem? h)), g⟩
theorem qn4 {x : Cond} (i : Nat) (h : tables_1_4[i]? = some x) (g : isN x = true) : x ∈ wN := List.mem_filter.mpr ⟨qm4 (List.mem_of_getElem? h), g⟩
theorem qm5 {x : Cond} (h : x ∈ tables_1_5) : x ∈ tables_1 := List.mem_append_right _ (List.mem_append_right _ (List.mem_append_right _ (List.mem_append_right _ (List.mem_append_left _ h))))
theorem q5 {x : Cond} (i : Nat) (h : tables_1_5[i]? = some x) (g : goodWord x = true) : x ∈ wA := List.mem_filter.mpr ⟨List.mem_append_right _ (qm5 (List.mem_of_getElem? h)), g⟩
theorem qn5 {x : Cond} (i : Nat) (h : tables_1_5[i]? = some x) (g : isN x = true) : x ∈ wN := List.mem_filter.mpr ⟨qm5 (List.mem_of_getElem? h), g⟩
theorem qm6 {x : Cond} (h : x ∈ tables_1_6) : x ∈ tables_1 := List.mem_append_right _ (List.mem_append_right _ (List.mem_append_right _ (List.mem_append_right _ (List.mem_append_right _ (h)))))
theorem q6 {x : Cond} (i : Nat) (h : tables_1_6[i]? = some x) (g : goodWord x = true) : x ∈ wA := List.mem_filter.mpr ⟨List.mem_append_right _ (qm6 (List.mem_of_getElem? h)), g⟩
theorem qn6 {x : Cond} (i : Nat) (h : tables_1_6[i]? = some x) (g : isN x = true) : x ∈ wN := List.mem_filter.mpr ⟨qm6 (List.mem_of_getElem? h), g⟩
theorem qs1 {y : MethodName} {N : Nat} (i : Nat) (h0 : lw_privs_1[i]? = some (y, N)) : Cond.selects y.cls y y ∈ wA := by
  have h := List.mem_of_getElem? h0
  exact List.mem_filter.mpr ⟨List.mem_append_left _ (List.mem_map.mpr ⟨(y, N), List.mem_append_left _ h, rfl⟩), rfl⟩
theorem qs2 {y : MethodName} {N : Nat} (i : Nat) (h0 : lw_privs_2[i]? = some (y, N)) : Cond.selects y.cls y y ∈ wA := by
  have h := List.mem_of_getElem? h0
  exact List.mem_filter.mpr ⟨List.mem_append_left _ (List.mem_map.mpr ⟨(y, N), List.mem_append_right _ (List.mem_append_left _ h), rfl⟩), rfl⟩
theorem qs3 {y : MethodName} {N : Nat} (i : Nat) (h0 : lw_privs_3[i]? = some (y, N)) : Cond.selects y.cls y y ∈ wA := by
  have h := List.mem_of_getElem? h0
  exact List.mem_filter.mpr ⟨List.mem_append_left _ (List.mem_map.mpr ⟨(y, N), List.mem_append_right _ (List.mem_append_right _ h), rfl⟩), rfl⟩
theorem ina {ws : List Cond} (ps : List Nat) (hp : ws = ps.filterMap (fun i => tables_1[i]?)) (h : ws.all goodWord = true) : ∀ x ∈ ws, x ∈ wA := by
  intro x hx
  have h1 := List.all_eq_true.mp h x hx
  rw [hp] at hx
  obtain ⟨i, -, hi⟩ := List.mem_filterMap.mp hx
  exact List.mem_filter.mpr ⟨List.mem_append_right _ (List.mem_of_getElem? hi), h1⟩
theorem inA_RJx4a65c : ∀ x ∈ u_ws RJx4a65c TJx4a65c 3, x ∈ wA := ina [106, 102, 104] (by decide +kernel) (by decide +kernel)
theorem inA_RX0 : ∀ x ∈ u_ws RX0 TX0 11, x ∈ wA := ina [527, 529, 531, 533, 535, 537, 539, 541, 543, 545, 547] (by decide +kernel) (by decide +kernel)
theorem inA_RX1 : ∀ x ∈ u_ws RX1 TX1 4, x ∈ wA := ina [46, 48, 50, 52] (by decide +kernel) (by decide +kernel)
theorem inA_RX3 : ∀ x ∈ u_ws RX3 TX3 9, x ∈ wA := ina [328, 330, 332, 334, 336, 338, 340, 342, 344] (by decide +kernel) (by decide +kernel)
theorem inA_RX4 : ∀ x ∈ u_ws RX4 TX4 2, x ∈ wA := ina [567, 569] (by decide +kernel) (by decide +kernel)
theorem inA_RX5 : ∀ x ∈ u_ws RX5 TX5 1, x ∈ wA := ina [80] (by decide +kernel) (by decide +kernel)
theorem inA_RX6 : ∀ x ∈ u_ws RX6 TX6 3, x ∈ wA := ina [66, 68, 70] (by decide +kernel) (by decide +kernel)
theorem inA_RX7 : ∀ x ∈ u_ws RX7 TX7 12, x ∈ wA := ina [121, 123, 125, 127, 129, 131, 133, 135, 137, 139, 141, 143] (by decide +kernel) (by decide +kernel)
theorem inA_RX8 : ∀ x ∈ u_ws RX8 TX8 46, x ∈ wA := ina [902, 904, 906, 908, 910, 912, 914, 916, 918, 920, 922, 924, 926, 928, 930, 932, 934, 936, 938, 940, 942, 944, 946, 948, 950, 952, 954, 956, 958, 960, 962, 964, 966, 968, 970, 972, 974, 976, 978, 980, 982, 984, 986, 988, 990, 992] (by decide +kernel) (by decide +kernel)
theorem L_J15_105 : LkS RJ15 105 yJ3_checkIndex_8e157 cJ3_checkIndex_8e157 3 (Option.some Jvm.ClassFile.FieldType.int) 3 := ⟨⟨(q1 21 rfl rfl), (q2 187 rfl rfl), by decide, by decide, by decide +kernel⟩, (q2 185 rfl rfl), (q2 186 rfl rfl)⟩
theorem K_J7_2 : Cond.classLink RJ7 2 "java/lang/Object" ∈ wA := (q2 158 rfl rfl)
theorem K_J7_110 : Cond.classLink RJ7 110 "[Ljava/lang/Object;" ∈ wA := (q2 156 rfl rfl)
theorem L_J7_300 : LkS RJ7 300 yJ7_copyOf_6403c cJ7_copyOf_6403c 4 (Option.some (Jvm.ClassFile.FieldType.array (Jvm.ClassFile.FieldType.object "java/lang/Object"))) 3 := ⟨⟨(q1 18 rfl rfl), (q2 155 rfl rfl), by decide, by decide, by decide +kernel⟩, (q2 153 rfl rfl), (q2 154 rfl rfl)⟩
theorem L_J7_304 : LkS RJ7 304 yJ9_min_7cf53 cJ9_min_7cf53 2 (Option.some Jvm.ClassFile.FieldType.int) 2 := ⟨⟨(q1 17 rfl rfl), (q2 161 rfl rfl), by decide, by decide, by decide +kernel⟩, (q2 159 rfl rfl), (q2 160 rfl rfl)⟩
theorem L_J8_194 : LkS RJ8 194 yJ9_max_7cf53 cJ9_max_7cf53 2 (Option.some Jvm.ClassFile.FieldType.int) 2 := ⟨⟨(q1 17 rfl rfl), (q2 128 rfl rfl), by decide, by decide, by decide +kernel⟩, (q2 126 rfl rfl), (q2 127 rfl rfl)⟩
theorem L_J8_201 : LkS RJ8 201 yJ8_hugeLength_7cf53 cJ8_hugeLength_7cf53 3 (Option.some Jvm.ClassFile.FieldType.int) 2 := ⟨⟨(q1 16 rfl rfl), (q2 132 rfl rfl), by decide, by decide, by decide +kernel⟩, (q2 130 rfl rfl), (q2 131 rfl rfl)⟩
theorem N_J8_200 : Cond.constant RJ8 200 2147483639 ∈ wA := (q2 129 rfl rfl)
theorem K_Jx4a65c_7 : Cond.classLink RJx4a65c 7 "java/lang/Object" ∈ wA := (q2 166 rfl rfl)
theorem g_Jx4a65c_9 : FG RJx4a65c 9 0 1 := ⟨RJx4a65c, TJx4a65c, 3, "java/util/ArrayList", rfl, inA_RJx4a65c, by decide, Or.inl ⟨(q1 97 rfl rfl), Or.inl rfl⟩⟩
theorem g_Jx4a65c_48 : FG RJx4a65c 48 0 2 := ⟨RJx4a65c, TJx4a65c, 3, "java/util/ArrayList", rfl, inA_RJx4a65c, by decide, Or.inl ⟨(q1 98 rfl rfl), Or.inl rfl⟩⟩
theorem g_Jx4a65c_63 : FG RJx4a65c 63 0 0 := ⟨RJx4a65c, TJx4a65c, 3, "java/util/ArrayList", rfl, inA_RJx4a65c, by decide, Or.inl ⟨(q1 100 rfl rfl), Or.inr (q1 101 rfl rfl)⟩⟩
theorem S_Jx4a65c_39 : Cond.fieldLink RJx4a65c 39 "java/util/ArrayList" "DEFAULTCAPACITY_EMPTY_ELEMENTDATA" "[Ljava/lang/Object;" ∈ wA := (q1 95 rfl rfl)
theorem L_Jx4a65c_1 : LkI RJx4a65c 1 yJxc12de_init_da8c8 cJxc12de_init_da8c8 1 0 := ⟨⟨(q1 6 rfl rfl), (q1 90 rfl rfl), by decide, by decide, by decide +kernel⟩, Or.inl (q1 88 rfl rfl), (q1 89 rfl rfl), rfl⟩
theorem L_Jx4a65c_66 : LkS RJx4a65c 66 yJ7_copyOf_1904c cJ7_copyOf_1904c 2 (Option.some (Jvm.ClassFile.FieldType.array (Jvm.ClassFile.FieldType.object "java/lang/Object"))) 2 := ⟨⟨(q1 18 rfl rfl), (q2 135 rfl rfl), by decide, by decide, by decide +kernel⟩, (q2 133 rfl rfl), (q2 134 rfl rfl)⟩
theorem L_Jx4a65c_73 : LkS RJx4a65c 73 yJ8_newLength_cabcc cJ8_newLength_cabcc 4 (Option.some Jvm.ClassFile.FieldType.int) 3 := ⟨⟨(q1 16 rfl rfl), (q2 125 rfl rfl), by decide, by decide, by decide +kernel⟩, (q2 123 rfl rfl), (q2 124 rfl rfl)⟩
theorem L_Jx4a65c_79 : LkS RJx4a65c 79 yJ9_max_7cf53 cJ9_max_7cf53 2 (Option.some Jvm.ClassFile.FieldType.int) 2 := ⟨⟨(q1 17 rfl rfl), (q2 128 rfl rfl), by decide, by decide, by decide +kernel⟩, (q2 165 rfl rfl), (q2 127 rfl rfl)⟩
theorem L_Jx4a65c_118 : LkS RJx4a65c 118 yJ15_checkIndex_7cf53 cJ15_checkIndex_7cf53 2 (Option.some Jvm.ClassFile.FieldType.int) 2 := ⟨⟨(q1 20 rfl rfl), (q2 184 rfl rfl), by decide, by decide, by decide +kernel⟩, (q2 182 rfl rfl), (q2 183 rfl rfl)⟩
theorem L_Jx4a65c_69 : LkV RJx4a65c 69 yJx4a65c_grow_92f84 cJx4a65c_grow_92f84 4 (Option.some (Jvm.ClassFile.FieldType.array (Jvm.ClassFile.FieldType.object "java/lang/Object"))) 1 := ⟨⟨(q1 7 rfl rfl), (q2 122 rfl rfl), by decide, by decide, by decide +kernel⟩, (q2 119 rfl rfl), (q2 121 rfl rfl), (qs1 3 rfl)⟩
theorem L_Jx4a65c_123 : LkV RJx4a65c 123 yJx4a65c_elementData_915e3 cJx4a65c_elementData_915e3 2 (Option.some (Jvm.ClassFile.FieldType.object "java/lang/Object")) 1 := ⟨⟨(q1 7 rfl rfl), (q2 191 rfl rfl), by decide, by decide, by decide +kernel⟩, (q2 188 rfl rfl), (q2 189 rfl rfl), (q2 190 rfl rfl)⟩
theorem L_Jx4a65c_129 : LkV RJx4a65c 129 yJx4a65c_grow_d5877 cJx4a65c_grow_d5877 1 (Option.some (Jvm.ClassFile.FieldType.array (Jvm.ClassFile.FieldType.object "java/lang/Object"))) 0 := ⟨⟨(q1 7 rfl rfl), (q2 118 rfl rfl), by decide, by decide, by decide +kernel⟩, (q2 115 rfl rfl), (q2 117 rfl rfl), (qs1 2 rfl)⟩
theorem L_Jx4a65c_131 : LkV RJx4a65c 131 yJx4a65c_add_72be8 cJx4a65c_add_72be8 4 (Option.none : Option Jvm.ClassFile.FieldType) 3 := ⟨⟨(q1 7 rfl rfl), (q2 114 rfl rfl), by decide, by decide, by decide +kernel⟩, (q2 111 rfl rfl), (q2 113 rfl rfl), (qs1 1 rfl)⟩
theorem f_Jx4a65c_9 : FL RJx4a65c 9 0 1 (.array (.object "java/lang/Object")) false := ⟨RJx4a65c, TJx4a65c, 3, "java/util/ArrayList", tyJx4a65c, rfl, inA_RJx4a65c, by decide, Or.inl ⟨(q1 97 rfl rfl), Or.inl rfl⟩, tyJx4a65c_ok, nmJx4a65c, rfl, rfl, fun h => absurd h (by decide)⟩
theorem f_Jx4a65c_48 : FL RJx4a65c 48 0 2 (.int) false := ⟨RJx4a65c, TJx4a65c, 3, "java/util/ArrayList", tyJx4a65c, rfl, inA_RJx4a65c, by decide, Or.inl ⟨(q1 98 rfl rfl), Or.inl rfl⟩, tyJx4a65c_ok, nmJx4a65c, rfl, rfl, fun h => absurd h (by decide)⟩
theorem f_Jx4a65c_63 : FL RJx4a65c 63 0 0 (.int) false := ⟨RJx4a65c, TJx4a65c, 3, "java/util/ArrayList", tyJx4a65c, rfl, inA_RJx4a65c, by decide, Or.inl ⟨(q1 100 rfl rfl), Or.inr (q1 101 rfl rfl)⟩, tyJx4a65c_ok, nmJx4a65c, rfl, rfl, fun h => absurd h (by decide)⟩
theorem L_Jxa1e45_1 : Cond.methodLink RJxa1e45 1 objectInit ∈ wA := (q1 94 rfl rfl)
theorem L_Jxc12de_1 : LkI RJxc12de 1 yJxa1e45_init_da8c8 cJxa1e45_init_da8c8 1 0 := ⟨⟨(q1 5 rfl rfl), (q1 93 rfl rfl), by decide, by decide, by decide +kernel⟩, Or.inl (q1 91 rfl rfl), (q1 92 rfl rfl), rfl⟩
theorem L_L_108 : LkI RL 108 yX7_init cX7_init 1 0 := ⟨⟨(q1 1 rfl rfl), (q1 30 rfl rfl), by decide, by decide, by decide +kernel⟩, Or.inl (q1 28 rfl rfl), (q1 29 rfl rfl), rfl⟩
theorem L_L_111 : LkI RL 111 yX8_init cX8_init 1 0 := ⟨⟨(q1 8 rfl rfl), (q4 134 rfl rfl), by decide, by decide, by decide +kernel⟩, Or.inl (q4 132 rfl rfl), (q4 133 rfl rfl), rfl⟩
theorem L_L_112 : Cond.methodLink RL 112 yL_ground ∈ wA := (q1 150 rfl rfl)
theorem L_L_122 : Cond.methodLink RL 122 yL_flow ∈ wA := (q2 48 rfl rfl)
theorem L_L_126 : Cond.methodLink RL 126 yL_miner ∈ wA := (q2 55 rfl rfl)
theorem L_L_130 : Cond.methodLink RL 130 yL_pass ∈ wA := (q2 167 rfl rfl)
theorem L_L_133 : Cond.methodLink RL 133 yL_meet ∈ wA := (q2 225 rfl rfl)
theorem L_L_137 : Cond.methodLink RL 137 yL_peg ∈ wA := (q2 236 rfl rfl)
theorem L_L_140 : Cond.methodLink RL 140 yL_right ∈ wA := (q3 70 rfl rfl)
theorem L_L_143 : Cond.methodLink RL 143 yL_work ∈ wA := (q3 92 rfl rfl)
theorem L_L_146 : Cond.methodLink RL 146 yL_sample ∈ wA := (q3 151 rfl rfl)
theorem L_L_149 : Cond.methodLink RL 149 yL_salt ∈ wA := (q3 158 rfl rfl)
theorem L_L_152 : Cond.methodLink RL 152 yL_brass ∈ wA := (q3 174 rfl rfl)
theorem L_L_155 : Cond.methodLink RL 155 yL_sell ∈ wA := (q3 181 rfl rfl)
theorem L_L_158 : Cond.methodLink RL 158 yL_rate ∈ wA := (q3 202 rfl rfl)
theorem L_L_161 : Cond.methodLink RL 161 yL_freight ∈ wA := (q3 209 rfl rfl)
theorem L_L_165 : Cond.methodLink RL 165 yL_buy ∈ wA := (q3 224 rfl rfl)
theorem L_L_168 : Cond.methodLink RL 168 yL_back ∈ wA := (q3 235 rfl rfl)
theorem L_L_172 : Cond.methodLink RL 172 yL_end ∈ wA := (q4 10 rfl rfl)
theorem L_L_175 : Cond.methodLink RL 175 yL_trade ∈ wA := (q4 17 rfl rfl)
theorem L_L_178 : Cond.methodLink RL 178 yL_suit ∈ wA := (q4 32 rfl rfl)
theorem L_L_181 : Cond.methodLink RL 181 yL_rumour ∈ wA := (q4 39 rfl rfl)
theorem L_L_188 : Cond.methodLink RL 188 yL_holds ∈ wA := (q4 55 rfl rfl)
theorem L_L_191 : Cond.methodLink RL 191 yL_ofClaim ∈ wA := (q4 62 rfl rfl)
theorem L_L_194 : Cond.methodLink RL 194 yL_ofMiner ∈ wA := (q4 69 rfl rfl)
theorem L_L_197 : Cond.methodLink RL 197 yL_gets ∈ wA := (q4 76 rfl rfl)
theorem L_L_200 : Cond.methodLink RL 200 yL_gold ∈ wA := (q4 83 rfl rfl)
theorem L_L_203 : Cond.methodLink RL 203 yL_camp ∈ wA := (q4 98 rfl rfl)
theorem L_L_206 : Cond.methodLink RL 206 yL_belief ∈ wA := (q4 105 rfl rfl)
theorem L_L_209 : Cond.methodLink RL 209 yL_plan ∈ wA := (q4 112 rfl rfl)
theorem L_L_212 : Cond.methodLink RL 212 yL_planCell ∈ wA := (q4 123 rfl rfl)
theorem L_L_7 : LkV RL 7 yX7_ground cX7_ground 5 (Option.some Jvm.ClassFile.FieldType.int) 3 := ⟨⟨(q1 1 rfl rfl), (q1 159 rfl rfl), by decide, by decide, by decide +kernel⟩, (q1 156 rfl rfl), (q1 157 rfl rfl), (q1 158 rfl rfl)⟩
theorem L_L_19 : LkV RL 19 yX7_flow cX7_flow 3 (Option.some Jvm.ClassFile.FieldType.int) 1 := ⟨⟨(q1 1 rfl rfl), (q2 54 rfl rfl), by decide, by decide, by decide +kernel⟩, (q2 51 rfl rfl), (q2 52 rfl rfl), (q2 53 rfl rfl)⟩
theorem L_L_23 : LkV RL 23 yX7_miner cX7_miner 3 (Option.some Jvm.ClassFile.FieldType.int) 2 := ⟨⟨(q1 1 rfl rfl), (q2 61 rfl rfl), by decide, by decide, by decide +kernel⟩, (q2 58 rfl rfl), (q2 59 rfl rfl), (q2 60 rfl rfl)⟩
theorem L_L_27 : LkV RL 27 yX7_pass cX7_pass 3 (Option.some Jvm.ClassFile.FieldType.int) 1 := ⟨⟨(q1 1 rfl rfl), (q2 173 rfl rfl), by decide, by decide, by decide +kernel⟩, (q2 170 rfl rfl), (q2 171 rfl rfl), (q2 172 rfl rfl)⟩
theorem L_L_30 : LkV RL 30 yX7_meet cX7_meet 6 (Option.some Jvm.ClassFile.FieldType.boolean) 4 := ⟨⟨(q1 1 rfl rfl), (q2 231 rfl rfl), by decide, by decide, by decide +kernel⟩, (q2 228 rfl rfl), (q2 229 rfl rfl), (q2 230 rfl rfl)⟩
theorem L_L_34 : LkV RL 34 yX7_peg cX7_peg 5 (Option.some Jvm.ClassFile.FieldType.int) 3 := ⟨⟨(q1 1 rfl rfl), (q3 2 rfl rfl), by decide, by decide, by decide +kernel⟩, (q2 239 rfl rfl), (q3 0 rfl rfl), (q3 1 rfl rfl)⟩
theorem L_L_37 : LkV RL 37 yX7_right cX7_right 4 (Option.some Jvm.ClassFile.FieldType.int) 2 := ⟨⟨(q1 1 rfl rfl), (q3 76 rfl rfl), by decide, by decide, by decide +kernel⟩, (q3 73 rfl rfl), (q3 74 rfl rfl), (q3 75 rfl rfl)⟩
theorem L_L_40 : LkV RL 40 yX7_work cX7_work 8 (Option.some Jvm.ClassFile.FieldType.int) 3 := ⟨⟨(q1 1 rfl rfl), (q3 98 rfl rfl), by decide, by decide, by decide +kernel⟩, (q3 95 rfl rfl), (q3 96 rfl rfl), (q3 97 rfl rfl)⟩
theorem L_L_43 : LkV RL 43 yX7_sample cX7_sample 2 (Option.some Jvm.ClassFile.FieldType.int) 1 := ⟨⟨(q1 1 rfl rfl), (q3 157 rfl rfl), by decide, by decide, by decide +kernel⟩, (q3 154 rfl rfl), (q3 155 rfl rfl), (q3 156 rfl rfl)⟩
theorem L_L_46 : LkV RL 46 yX7_salt cX7_salt 5 (Option.some Jvm.ClassFile.FieldType.int) 3 := ⟨⟨(q1 1 rfl rfl), (q3 164 rfl rfl), by decide, by decide, by decide +kernel⟩, (q3 161 rfl rfl), (q3 162 rfl rfl), (q3 163 rfl rfl)⟩
theorem L_L_49 : LkV RL 49 yX7_brass cX7_brass 4 (Option.some Jvm.ClassFile.FieldType.int) 2 := ⟨⟨(q1 1 rfl rfl), (q3 180 rfl rfl), by decide, by decide, by decide +kernel⟩, (q3 177 rfl rfl), (q3 178 rfl rfl), (q3 179 rfl rfl)⟩
theorem L_L_52 : LkV RL 52 yX7_sell cX7_sell 7 (Option.some Jvm.ClassFile.FieldType.int) 2 := ⟨⟨(q1 1 rfl rfl), (q3 187 rfl rfl), by decide, by decide, by decide +kernel⟩, (q3 184 rfl rfl), (q3 185 rfl rfl), (q3 186 rfl rfl)⟩
theorem L_L_55 : LkV RL 55 yX7_rate cX7_rate 3 (Option.some Jvm.ClassFile.FieldType.int) 1 := ⟨⟨(q1 1 rfl rfl), (q3 208 rfl rfl), by decide, by decide, by decide +kernel⟩, (q3 205 rfl rfl), (q3 206 rfl rfl), (q3 207 rfl rfl)⟩
theorem L_L_58 : LkV RL 58 yX7_freight cX7_freight 3 (Option.none : Option Jvm.ClassFile.FieldType) 2 := ⟨⟨(q1 1 rfl rfl), (q3 215 rfl rfl), by decide, by decide, by decide +kernel⟩, (q3 212 rfl rfl), (q3 213 rfl rfl), (q3 214 rfl rfl)⟩
theorem L_L_62 : LkV RL 62 yX7_buy cX7_buy 5 (Option.some Jvm.ClassFile.FieldType.int) 2 := ⟨⟨(q1 1 rfl rfl), (q3 230 rfl rfl), by decide, by decide, by decide +kernel⟩, (q3 227 rfl rfl), (q3 228 rfl rfl), (q3 229 rfl rfl)⟩
theorem L_L_65 : LkV RL 65 yX7_back cX7_back 7 (Option.none : Option Jvm.ClassFile.FieldType) 4 := ⟨⟨(q1 1 rfl rfl), (q4 1 rfl rfl), by decide, by decide, by decide +kernel⟩, (q3 238 rfl rfl), (q3 239 rfl rfl), (q4 0 rfl rfl)⟩
theorem L_L_69 : LkV RL 69 yX7_end cX7_end 5 (Option.some Jvm.ClassFile.FieldType.int) 2 := ⟨⟨(q1 1 rfl rfl), (q4 16 rfl rfl), by decide, by decide, by decide +kernel⟩, (q4 13 rfl rfl), (q4 14 rfl rfl), (q4 15 rfl rfl)⟩
theorem L_L_72 : LkV RL 72 yX7_trade cX7_trade 9 (Option.some Jvm.ClassFile.FieldType.int) 3 := ⟨⟨(q1 1 rfl rfl), (q4 23 rfl rfl), by decide, by decide, by decide +kernel⟩, (q4 20 rfl rfl), (q4 21 rfl rfl), (q4 22 rfl rfl)⟩
theorem L_L_75 : LkV RL 75 yX7_suit cX7_suit 6 (Option.some Jvm.ClassFile.FieldType.int) 1 := ⟨⟨(q1 1 rfl rfl), (q4 38 rfl rfl), by decide, by decide, by decide +kernel⟩, (q4 35 rfl rfl), (q4 36 rfl rfl), (q4 37 rfl rfl)⟩
theorem L_L_78 : LkV RL 78 yX7_rumour cX7_rumour 4 (Option.some Jvm.ClassFile.FieldType.int) 2 := ⟨⟨(q1 1 rfl rfl), (q4 45 rfl rfl), by decide, by decide, by decide +kernel⟩, (q4 42 rfl rfl), (q4 43 rfl rfl), (q4 44 rfl rfl)⟩
theorem L_L_81 : LkV RL 81 yX7_holds cX7_holds 2 (Option.some Jvm.ClassFile.FieldType.int) 1 := ⟨⟨(q1 1 rfl rfl), (q4 61 rfl rfl), by decide, by decide, by decide +kernel⟩, (q4 58 rfl rfl), (q4 59 rfl rfl), (q4 60 rfl rfl)⟩
theorem L_L_84 : LkV RL 84 yX7_ofClaim cX7_ofClaim 4 (Option.some Jvm.ClassFile.FieldType.int) 2 := ⟨⟨(q1 1 rfl rfl), (q4 68 rfl rfl), by decide, by decide, by decide +kernel⟩, (q4 65 rfl rfl), (q4 66 rfl rfl), (q4 67 rfl rfl)⟩
theorem L_L_87 : LkV RL 87 yX7_ofMiner cX7_ofMiner 4 (Option.some Jvm.ClassFile.FieldType.int) 2 := ⟨⟨(q1 1 rfl rfl), (q4 75 rfl rfl), by decide, by decide, by decide +kernel⟩, (q4 72 rfl rfl), (q4 73 rfl rfl), (q4 74 rfl rfl)⟩
theorem L_L_90 : LkV RL 90 yX7_gets cX7_gets 2 (Option.some Jvm.ClassFile.FieldType.int) 1 := ⟨⟨(q1 1 rfl rfl), (q4 82 rfl rfl), by decide, by decide, by decide +kernel⟩, (q4 79 rfl rfl), (q4 80 rfl rfl), (q4 81 rfl rfl)⟩
theorem L_L_93 : LkV RL 93 yX7_gold cX7_gold 2 (Option.some Jvm.ClassFile.FieldType.int) 1 := ⟨⟨(q1 1 rfl rfl), (q4 89 rfl rfl), by decide, by decide, by decide +kernel⟩, (q4 86 rfl rfl), (q4 87 rfl rfl), (q4 88 rfl rfl)⟩
theorem L_L_96 : LkV RL 96 yX7_camp cX7_camp 2 (Option.some Jvm.ClassFile.FieldType.int) 1 := ⟨⟨(q1 1 rfl rfl), (q4 104 rfl rfl), by decide, by decide, by decide +kernel⟩, (q4 101 rfl rfl), (q4 102 rfl rfl), (q4 103 rfl rfl)⟩
theorem L_L_99 : LkV RL 99 yX7_belief cX7_belief 2 (Option.some Jvm.ClassFile.FieldType.int) 1 := ⟨⟨(q1 1 rfl rfl), (q4 111 rfl rfl), by decide, by decide, by decide +kernel⟩, (q4 108 rfl rfl), (q4 109 rfl rfl), (q4 110 rfl rfl)⟩
theorem L_L_102 : LkV RL 102 yX7_plan cX7_plan 5 (Option.some Jvm.ClassFile.FieldType.int) 2 := ⟨⟨(q1 1 rfl rfl), (q4 118 rfl rfl), by decide, by decide, by decide +kernel⟩, (q4 115 rfl rfl), (q4 116 rfl rfl), (q4 117 rfl rfl)⟩
theorem L_L_105 : LkV RL 105 yX7_planCell cX7_planCell 5 (Option.some Jvm.ClassFile.FieldType.int) 3 := ⟨⟨(q1 1 rfl rfl), (q4 129 rfl rfl), by decide, by decide, by decide +kernel⟩, (q4 126 rfl rfl), (q4 127 rfl rfl), (q4 128 rfl rfl)⟩
theorem L_L_117 : LkV RL 117 yX8_ground cX8_ground 6 (Option.some Jvm.ClassFile.FieldType.int) 3 := ⟨⟨(q1 8 rfl rfl), (q5 43 rfl rfl), by decide, by decide, by decide +kernel⟩, (q5 40 rfl rfl), (q5 41 rfl rfl), (q5 42 rfl rfl)⟩
theorem L_L_118 : LkV RL 118 yX8_thrown cX8_thrown 1 (Option.some Jvm.ClassFile.FieldType.int) 0 := ⟨⟨(q1 8 rfl rfl), (q5 39 rfl rfl), by decide, by decide, by decide +kernel⟩, (q5 36 rfl rfl), (q5 37 rfl rfl), (q5 38 rfl rfl)⟩
theorem L_L_125 : LkV RL 125 yX8_flow cX8_flow 3 (Option.some Jvm.ClassFile.FieldType.int) 1 := ⟨⟨(q1 8 rfl rfl), (q5 58 rfl rfl), by decide, by decide, by decide +kernel⟩, (q5 55 rfl rfl), (q5 56 rfl rfl), (q5 57 rfl rfl)⟩
theorem L_L_129 : LkV RL 129 yX8_miner cX8_miner 4 (Option.some Jvm.ClassFile.FieldType.int) 2 := ⟨⟨(q1 8 rfl rfl), (q5 62 rfl rfl), by decide, by decide, by decide +kernel⟩, (q5 59 rfl rfl), (q5 60 rfl rfl), (q5 61 rfl rfl)⟩
theorem L_L_132 : LkV RL 132 yX8_pass cX8_pass 4 (Option.some Jvm.ClassFile.FieldType.int) 1 := ⟨⟨(q1 8 rfl rfl), (q5 66 rfl rfl), by decide, by decide, by decide +kernel⟩, (q5 63 rfl rfl), (q5 64 rfl rfl), (q5 65 rfl rfl)⟩
theorem L_L_136 : LkV RL 136 yX8_meet cX8_meet 6 (Option.some Jvm.ClassFile.FieldType.boolean) 4 := ⟨⟨(q1 8 rfl rfl), (q5 89 rfl rfl), by decide, by decide, by decide +kernel⟩, (q5 86 rfl rfl), (q5 87 rfl rfl), (q5 88 rfl rfl)⟩
theorem L_L_139 : LkV RL 139 yX8_peg cX8_peg 6 (Option.some Jvm.ClassFile.FieldType.int) 3 := ⟨⟨(q1 8 rfl rfl), (q5 97 rfl rfl), by decide, by decide, by decide +kernel⟩, (q5 94 rfl rfl), (q5 95 rfl rfl), (q5 96 rfl rfl)⟩
theorem L_L_142 : LkV RL 142 yX8_right cX8_right 4 (Option.some Jvm.ClassFile.FieldType.int) 2 := ⟨⟨(q1 8 rfl rfl), (q5 113 rfl rfl), by decide, by decide, by decide +kernel⟩, (q5 110 rfl rfl), (q5 111 rfl rfl), (q5 112 rfl rfl)⟩
theorem L_L_145 : LkV RL 145 yX8_work cX8_work 9 (Option.some Jvm.ClassFile.FieldType.int) 3 := ⟨⟨(q1 8 rfl rfl), (q5 117 rfl rfl), by decide, by decide, by decide +kernel⟩, (q5 114 rfl rfl), (q5 115 rfl rfl), (q5 116 rfl rfl)⟩
theorem L_L_148 : LkV RL 148 yX8_sample cX8_sample 2 (Option.some Jvm.ClassFile.FieldType.int) 1 := ⟨⟨(q1 8 rfl rfl), (q5 149 rfl rfl), by decide, by decide, by decide +kernel⟩, (q5 146 rfl rfl), (q5 147 rfl rfl), (q5 148 rfl rfl)⟩
theorem L_L_151 : LkV RL 151 yX8_salt cX8_salt 5 (Option.some Jvm.ClassFile.FieldType.int) 3 := ⟨⟨(q1 8 rfl rfl), (q5 153 rfl rfl), by decide, by decide, by decide +kernel⟩, (q5 150 rfl rfl), (q5 151 rfl rfl), (q5 152 rfl rfl)⟩
theorem L_L_154 : LkV RL 154 yX8_brass cX8_brass 4 (Option.some Jvm.ClassFile.FieldType.int) 2 := ⟨⟨(q1 8 rfl rfl), (q5 157 rfl rfl), by decide, by decide, by decide +kernel⟩, (q5 154 rfl rfl), (q5 155 rfl rfl), (q5 156 rfl rfl)⟩
theorem L_L_157 : LkV RL 157 yX8_sell cX8_sell 7 (Option.some Jvm.ClassFile.FieldType.int) 2 := ⟨⟨(q1 8 rfl rfl), (q5 161 rfl rfl), by decide, by decide, by decide +kernel⟩, (q5 158 rfl rfl), (q5 159 rfl rfl), (q5 160 rfl rfl)⟩
theorem L_L_160 : LkV RL 160 yX8_rate cX8_rate 3 (Option.some Jvm.ClassFile.FieldType.int) 1 := ⟨⟨(q1 8 rfl rfl), (q5 167 rfl rfl), by decide, by decide, by decide +kernel⟩, (q5 164 rfl rfl), (q5 165 rfl rfl), (q5 166 rfl rfl)⟩
theorem L_L_164 : LkV RL 164 yX8_freight cX8_freight 4 (Option.none : Option Jvm.ClassFile.FieldType) 2 := ⟨⟨(q1 8 rfl rfl), (q5 171 rfl rfl), by decide, by decide, by decide +kernel⟩, (q5 168 rfl rfl), (q5 169 rfl rfl), (q5 170 rfl rfl)⟩
theorem L_L_167 : LkV RL 167 yX8_buy cX8_buy 6 (Option.some Jvm.ClassFile.FieldType.int) 2 := ⟨⟨(q1 8 rfl rfl), (q5 175 rfl rfl), by decide, by decide, by decide +kernel⟩, (q5 172 rfl rfl), (q5 173 rfl rfl), (q5 174 rfl rfl)⟩
theorem L_L_171 : LkV RL 171 yX8_back cX8_back 8 (Option.none : Option Jvm.ClassFile.FieldType) 4 := ⟨⟨(q1 8 rfl rfl), (q5 183 rfl rfl), by decide, by decide, by decide +kernel⟩, (q5 180 rfl rfl), (q5 181 rfl rfl), (q5 182 rfl rfl)⟩
theorem L_L_174 : LkV RL 174 yX8_end cX8_end 5 (Option.some Jvm.ClassFile.FieldType.int) 2 := ⟨⟨(q1 8 rfl rfl), (q5 191 rfl rfl), by decide, by decide, by decide +kernel⟩, (q5 188 rfl rfl), (q5 189 rfl rfl), (q5 190 rfl rfl)⟩
theorem L_L_177 : LkV RL 177 yX8_trade cX8_trade 6 (Option.some Jvm.ClassFile.FieldType.int) 3 := ⟨⟨(q1 8 rfl rfl), (q5 195 rfl rfl), by decide, by decide, by decide +kernel⟩, (q5 192 rfl rfl), (q5 193 rfl rfl), (q5 194 rfl rfl)⟩
theorem L_L_180 : LkV RL 180 yX8_suit cX8_suit 4 (Option.some Jvm.ClassFile.FieldType.int) 1 := ⟨⟨(q1 8 rfl rfl), (q5 203 rfl rfl), by decide, by decide, by decide +kernel⟩, (q5 200 rfl rfl), (q5 201 rfl rfl), (q5 202 rfl rfl)⟩
theorem L_L_183 : LkV RL 183 yX8_rumour cX8_rumour 4 (Option.some Jvm.ClassFile.FieldType.int) 2 := ⟨⟨(q1 8 rfl rfl), (q5 211 rfl rfl), by decide, by decide, by decide +kernel⟩, (q5 208 rfl rfl), (q5 209 rfl rfl), (q5 210 rfl rfl)⟩
theorem L_L_184 : LkV RL 184 yX7_day cX7_day 1 (Option.some Jvm.ClassFile.FieldType.int) 0 := ⟨⟨(q1 1 rfl rfl), (q1 149 rfl rfl), by decide, by decide, by decide +kernel⟩, (q1 146 rfl rfl), (q1 147 rfl rfl), (q1 148 rfl rfl)⟩
theorem L_L_187 : LkV RL 187 yX8_day cX8_day 1 (Option.some Jvm.ClassFile.FieldType.int) 0 := ⟨⟨(q1 8 rfl rfl), (q5 215 rfl rfl), by decide, by decide, by decide +kernel⟩, (q5 212 rfl rfl), (q5 213 rfl rfl), (q5 214 rfl rfl)⟩
theorem L_L_190 : LkV RL 190 yX8_holds cX8_holds 2 (Option.some Jvm.ClassFile.FieldType.int) 1 := ⟨⟨(q1 8 rfl rfl), (q5 219 rfl rfl), by decide, by decide, by decide +kernel⟩, (q5 216 rfl rfl), (q5 217 rfl rfl), (q5 218 rfl rfl)⟩
theorem L_L_193 : LkV RL 193 yX8_ofClaim cX8_ofClaim 3 (Option.some Jvm.ClassFile.FieldType.int) 2 := ⟨⟨(q1 8 rfl rfl), (q5 223 rfl rfl), by decide, by decide, by decide +kernel⟩, (q5 220 rfl rfl), (q5 221 rfl rfl), (q5 222 rfl rfl)⟩
theorem L_L_196 : LkV RL 196 yX8_ofMiner cX8_ofMiner 3 (Option.some Jvm.ClassFile.FieldType.int) 2 := ⟨⟨(q1 8 rfl rfl), (q5 227 rfl rfl), by decide, by decide, by decide +kernel⟩, (q5 224 rfl rfl), (q5 225 rfl rfl), (q5 226 rfl rfl)⟩
theorem L_L_199 : LkV RL 199 yX8_gets cX8_gets 2 (Option.some Jvm.ClassFile.FieldType.int) 1 := ⟨⟨(q1 8 rfl rfl), (q5 231 rfl rfl), by decide, by decide, by decide +kernel⟩, (q5 228 rfl rfl), (q5 229 rfl rfl), (q5 230 rfl rfl)⟩
theorem L_L_202 : LkV RL 202 yX8_gold cX8_gold 2 (Option.some Jvm.ClassFile.FieldType.int) 1 := ⟨⟨(q1 8 rfl rfl), (q5 235 rfl rfl), by decide, by decide, by decide +kernel⟩, (q5 232 rfl rfl), (q5 233 rfl rfl), (q5 234 rfl rfl)⟩
theorem L_L_205 : LkV RL 205 yX8_camp cX8_camp 2 (Option.some Jvm.ClassFile.FieldType.int) 1 := ⟨⟨(q1 8 rfl rfl), (q6 7 rfl rfl), by decide, by decide, by decide +kernel⟩, (q6 4 rfl rfl), (q6 5 rfl rfl), (q6 6 rfl rfl)⟩
theorem L_L_208 : LkV RL 208 yX8_belief cX8_belief 2 (Option.some Jvm.ClassFile.FieldType.int) 1 := ⟨⟨(q1 8 rfl rfl), (q6 11 rfl rfl), by decide, by decide, by decide +kernel⟩, (q6 8 rfl rfl), (q6 9 rfl rfl), (q6 10 rfl rfl)⟩
theorem L_L_211 : LkV RL 211 yX8_plan cX8_plan 3 (Option.some Jvm.ClassFile.FieldType.int) 2 := ⟨⟨(q1 8 rfl rfl), (q6 15 rfl rfl), by decide, by decide, by decide +kernel⟩, (q6 12 rfl rfl), (q6 13 rfl rfl), (q6 14 rfl rfl)⟩
theorem L_L_214 : LkV RL 214 yX8_planCell cX8_planCell 4 (Option.some Jvm.ClassFile.FieldType.int) 3 := ⟨⟨(q1 8 rfl rfl), (q6 38 rfl rfl), by decide, by decide, by decide +kernel⟩, (q6 35 rfl rfl), (q6 36 rfl rfl), (q6 37 rfl rfl)⟩
theorem K_L_8 : Cond.classLink RL 8 "NuggetCamp" ∈ wA := (q1 26 rfl rfl)
theorem K_L_109 : Cond.classLink RL 109 "NuggetCampModel" ∈ wA := (q4 130 rfl rfl)
theorem g_X0_31 : FG RX0 31 1 3 := ⟨RX0, TX0, 11, "NuggetCamp$Claim", rfl, inA_RX0, by decide, Or.inl ⟨(q3 31 rfl rfl), Or.inl rfl⟩⟩
theorem g_X0_34 : FG RX0 34 1 0 := ⟨RX0, TX0, 11, "NuggetCamp$Claim", rfl, inA_RX0, by decide, Or.inl ⟨(q3 25 rfl rfl), Or.inl rfl⟩⟩
theorem g_X0_37 : FG RX0 37 1 1 := ⟨RX0, TX0, 11, "NuggetCamp$Claim", rfl, inA_RX0, by decide, Or.inl ⟨(q3 27 rfl rfl), Or.inl rfl⟩⟩
theorem L_X0_3 : Cond.methodLink RX0 3 objectInit ∈ wA := (q3 24 rfl rfl)
theorem f_X0_9 : FL RX0 9 1 5 (.boolean) false := ⟨RX0, TX0, 11, "NuggetCamp$Claim", tyX0, rfl, inA_RX0, by decide, Or.inl ⟨(q3 35 rfl rfl), Or.inl rfl⟩, tyX0_ok, nmX0, rfl, rfl, fun h => absurd h (by decide)⟩
theorem f_X0_15 : FL RX0 15 1 6 (.int) false := ⟨RX0, TX0, 11, "NuggetCamp$Claim", tyX0, rfl, inA_RX0, by decide, Or.inl ⟨(q3 37 rfl rfl), Or.inl rfl⟩, tyX0_ok, nmX0, rfl, rfl, fun h => absurd h (by decide)⟩
theorem f_X0_19 : FL RX0 19 1 7 (.int) false := ⟨RX0, TX0, 11, "NuggetCamp$Claim", tyX0, rfl, inA_RX0, by decide, Or.inl ⟨(q3 39 rfl rfl), Or.inl rfl⟩, tyX0_ok, nmX0, rfl, rfl, fun h => absurd h (by decide)⟩
theorem f_X0_22 : FL RX0 22 1 8 (.int) false := ⟨RX0, TX0, 11, "NuggetCamp$Claim", tyX0, rfl, inA_RX0, by decide, Or.inl ⟨(q3 41 rfl rfl), Or.inl rfl⟩, tyX0_ok, nmX0, rfl, rfl, fun h => absurd h (by decide)⟩
theorem f_X0_25 : FL RX0 25 1 9 (.boolean) false := ⟨RX0, TX0, 11, "NuggetCamp$Claim", tyX0, rfl, inA_RX0, by decide, Or.inl ⟨(q3 43 rfl rfl), Or.inl rfl⟩, tyX0_ok, nmX0, rfl, rfl, fun h => absurd h (by decide)⟩
theorem f_X0_28 : FL RX0 28 1 10 (.boolean) false := ⟨RX0, TX0, 11, "NuggetCamp$Claim", tyX0, rfl, inA_RX0, by decide, Or.inl ⟨(q3 45 rfl rfl), Or.inl rfl⟩, tyX0_ok, nmX0, rfl, rfl, fun h => absurd h (by decide)⟩
theorem f_X0_31 : FL RX0 31 1 3 (.int) false := ⟨RX0, TX0, 11, "NuggetCamp$Claim", tyX0, rfl, inA_RX0, by decide, Or.inl ⟨(q3 31 rfl rfl), Or.inl rfl⟩, tyX0_ok, nmX0, rfl, rfl, fun h => absurd h (by decide)⟩
theorem f_X0_34 : FL RX0 34 1 0 (.int) true := ⟨RX0, TX0, 11, "NuggetCamp$Claim", tyX0, rfl, inA_RX0, by decide, Or.inl ⟨(q3 25 rfl rfl), Or.inl rfl⟩, tyX0_ok, nmX0, rfl, rfl, fun _ => rfl⟩
theorem f_X0_37 : FL RX0 37 1 1 (.int) true := ⟨RX0, TX0, 11, "NuggetCamp$Claim", tyX0, rfl, inA_RX0, by decide, Or.inl ⟨(q3 27 rfl rfl), Or.inl rfl⟩, tyX0_ok, nmX0, rfl, rfl, fun _ => rfl⟩
theorem f_X0_40 : FL RX0 40 1 2 (.int) true := ⟨RX0, TX0, 11, "NuggetCamp$Claim", tyX0, rfl, inA_RX0, by decide, Or.inl ⟨(q3 29 rfl rfl), Or.inl rfl⟩, tyX0_ok, nmX0, rfl, rfl, fun _ => rfl⟩
theorem f_X0_43 : FL RX0 43 1 4 (.int) false := ⟨RX0, TX0, 11, "NuggetCamp$Claim", tyX0, rfl, inA_RX0, by decide, Or.inl ⟨(q3 33 rfl rfl), Or.inl rfl⟩, tyX0_ok, nmX0, rfl, rfl, fun h => absurd h (by decide)⟩
theorem g_X1_9 : FG RX1 9 2 0 := ⟨RX1, TX1, 4, "NuggetCamp$Creek", rfl, inA_RX1, by decide, Or.inl ⟨(q1 40 rfl rfl), Or.inl rfl⟩⟩
theorem g_X1_15 : FG RX1 15 2 1 := ⟨RX1, TX1, 4, "NuggetCamp$Creek", rfl, inA_RX1, by decide, Or.inl ⟨(q1 41 rfl rfl), Or.inl rfl⟩⟩
theorem g_X1_18 : FG RX1 18 2 2 := ⟨RX1, TX1, 4, "NuggetCamp$Creek", rfl, inA_RX1, by decide, Or.inl ⟨(q1 42 rfl rfl), Or.inl rfl⟩⟩
theorem L_X1_3 : Cond.methodLink RX1 3 objectInit ∈ wA := (q1 39 rfl rfl)
theorem L_X1_26 : LkSN RX1 26 yX7_isCell cX7_isCell 1 (Option.some Jvm.ClassFile.FieldType.boolean) 1 := ⟨⟨(q1 1 rfl rfl), (q1 165 rfl rfl), by decide, by decide, by decide +kernel⟩, ⟨"NuggetCamp", (qn2 43 rfl rfl)⟩, (q1 164 rfl rfl)⟩
theorem L_X1_39 : LkS RX1 39 yJ9_min_7cf53 cJ9_min_7cf53 2 (Option.some Jvm.ClassFile.FieldType.int) 2 := ⟨⟨(q1 17 rfl rfl), (q2 161 rfl rfl), by decide, by decide, by decide +kernel⟩, (q3 130 rfl rfl), (q2 160 rfl rfl)⟩
theorem L_X1_30 : LkV RX1 30 yX1_grainsAt cX1_grainsAt 2 (Option.some Jvm.ClassFile.FieldType.int) 1 := ⟨⟨(q1 2 rfl rfl), (q2 42 rfl rfl), by decide, by decide, by decide +kernel⟩, (q3 129 rfl rfl), (q2 40 rfl rfl), (q2 41 rfl rfl)⟩
theorem L_X1_45 : LkV RX1 45 yX1_clayAt cX1_clayAt 2 (Option.some Jvm.ClassFile.FieldType.int) 1 := ⟨⟨(q1 2 rfl rfl), (q3 134 rfl rfl), by decide, by decide, by decide +kernel⟩, (q3 131 rfl rfl), (q3 132 rfl rfl), (q3 133 rfl rfl)⟩
theorem L_X1_48 : LkV RX1 48 yX2_recoveredOf cX2_recoveredOf 3 (Option.some Jvm.ClassFile.FieldType.int) 2 := ⟨⟨(q1 25 rfl rfl), (q3 138 rfl rfl), by decide, by decide, by decide +kernel⟩, (q3 135 rfl rfl), (q3 136 rfl rfl), (q3 137 rfl rfl)⟩
theorem L_X1_51 : LkV RX1 51 yX1_drop cX1_drop 3 (Option.none : Option Jvm.ClassFile.FieldType) 2 := ⟨⟨(q1 2 rfl rfl), (q3 142 rfl rfl), by decide, by decide, by decide +kernel⟩, (q3 139 rfl rfl), (q3 140 rfl rfl), (q3 141 rfl rfl)⟩
theorem f_X1_9 : FL RX1 9 2 0 (.array .int) true := ⟨RX1, TX1, 4, "NuggetCamp$Creek", tyX1, rfl, inA_RX1, by decide, Or.inl ⟨(q1 40 rfl rfl), Or.inl rfl⟩, tyX1_ok, nmX1, rfl, rfl, fun _ => rfl⟩
theorem f_X1_15 : FL RX1 15 2 1 (.array .int) true := ⟨RX1, TX1, 4, "NuggetCamp$Creek", tyX1, rfl, inA_RX1, by decide, Or.inl ⟨(q1 41 rfl rfl), Or.inl rfl⟩, tyX1_ok, nmX1, rfl, rfl, fun _ => rfl⟩
theorem f_X1_18 : FL RX1 18 2 2 (.int) false := ⟨RX1, TX1, 4, "NuggetCamp$Creek", tyX1, rfl, inA_RX1, by decide, Or.inl ⟨(q1 42 rfl rfl), Or.inl rfl⟩, tyX1_ok, nmX1, rfl, rfl, fun h => absurd h (by decide)⟩
theorem f_X1_22 : FL RX1 22 2 3 (.boolean) false := ⟨RX1, TX1, 4, "NuggetCamp$Creek", tyX1, rfl, inA_RX1, by decide, Or.inl ⟨(q1 44 rfl rfl), Or.inl rfl⟩, tyX1_ok, nmX1, rfl, rfl, fun h => absurd h (by decide)⟩
theorem g_X3_9 : FG RX3 9 3 0 := ⟨RX3, TX3, 9, "NuggetCamp$Miner", rfl, inA_RX3, by decide, Or.inl ⟨(q2 72 rfl rfl), Or.inl rfl⟩⟩
theorem g_X3_15 : FG RX3 15 3 1 := ⟨RX3, TX3, 9, "NuggetCamp$Miner", rfl, inA_RX3, by decide, Or.inl ⟨(q2 73 rfl rfl), Or.inl rfl⟩⟩
theorem g_X3_18 : FG RX3 18 3 2 := ⟨RX3, TX3, 9, "NuggetCamp$Miner", rfl, inA_RX3, by decide, Or.inl ⟨(q2 74 rfl rfl), Or.inl rfl⟩⟩
theorem g_X3_22 : FG RX3 22 3 3 := ⟨RX3, TX3, 9, "NuggetCamp$Miner", rfl, inA_RX3, by decide, Or.inl ⟨(q2 76 rfl rfl), Or.inl rfl⟩⟩
theorem g_X3_25 : FG RX3 25 3 6 := ⟨RX3, TX3, 9, "NuggetCamp$Miner", rfl, inA_RX3, by decide, Or.inl ⟨(q2 82 rfl rfl), Or.inl rfl⟩⟩
theorem g_X3_34 : FG RX3 34 3 4 := ⟨RX3, TX3, 9, "NuggetCamp$Miner", rfl, inA_RX3, by decide, Or.inl ⟨(q2 78 rfl rfl), Or.inl rfl⟩⟩
theorem L_X3_3 : Cond.methodLink RX3 3 objectInit ∈ wA := (q2 71 rfl rfl)
theorem L_X3_44 : LkS RX3 44 yJ9_min_7cf53 cJ9_min_7cf53 2 (Option.some Jvm.ClassFile.FieldType.int) 2 := ⟨⟨(q1 17 rfl rfl), (q2 161 rfl rfl), by decide, by decide, by decide +kernel⟩, (q2 200 rfl rfl), (q2 160 rfl rfl)⟩
theorem L_X3_50 : LkS RX3 50 yJ9_max_7cf53 cJ9_max_7cf53 2 (Option.some Jvm.ClassFile.FieldType.int) 2 := ⟨⟨(q1 17 rfl rfl), (q2 128 rfl rfl), by decide, by decide, by decide +kernel⟩, (q2 201 rfl rfl), (q2 127 rfl rfl)⟩
theorem L_X3_40 : LkV RX3 40 yX3_isDead cX3_isDead 1 (Option.some Jvm.ClassFile.FieldType.boolean) 0 := ⟨⟨(q1 15 rfl rfl), (q2 199 rfl rfl), by decide, by decide, by decide +kernel⟩, (q2 196 rfl rfl), (q2 197 rfl rfl), (q2 198 rfl rfl)⟩
theorem L_X3_53 : LkV RX3 53 yX3_dust cX3_dust 1 (Option.some Jvm.ClassFile.FieldType.int) 0 := ⟨⟨(q1 15 rfl rfl), (q3 192 rfl rfl), by decide, by decide, by decide +kernel⟩, (q3 197 rfl rfl), (q3 190 rfl rfl), (q3 191 rfl rfl)⟩
theorem f_X3_9 : FL RX3 9 3 0 (.array .int) true := ⟨RX3, TX3, 9, "NuggetCamp$Miner", tyX3, rfl, inA_RX3, by decide, Or.inl ⟨(q2 72 rfl rfl), Or.inl rfl⟩, tyX3_ok, nmX3, rfl, rfl, fun _ => rfl⟩
theorem f_X3_15 : FL RX3 15 3 1 (.array .int) true := ⟨RX3, TX3, 9, "NuggetCamp$Miner", tyX3, rfl, inA_RX3, by decide, Or.inl ⟨(q2 73 rfl rfl), Or.inl rfl⟩, tyX3_ok, nmX3, rfl, rfl, fun _ => rfl⟩
theorem f_X3_18 : FL RX3 18 3 2 (.int) false := ⟨RX3, TX3, 9, "NuggetCamp$Miner", tyX3, rfl, inA_RX3, by decide, Or.inl ⟨(q2 74 rfl rfl), Or.inl rfl⟩, tyX3_ok, nmX3, rfl, rfl, fun h => absurd h (by decide)⟩
theorem f_X3_22 : FL RX3 22 3 3 (.int) false := ⟨RX3, TX3, 9, "NuggetCamp$Miner", tyX3, rfl, inA_RX3, by decide, Or.inl ⟨(q2 76 rfl rfl), Or.inl rfl⟩, tyX3_ok, nmX3, rfl, rfl, fun h => absurd h (by decide)⟩
theorem f_X3_25 : FL RX3 25 3 6 (.int) false := ⟨RX3, TX3, 9, "NuggetCamp$Miner", tyX3, rfl, inA_RX3, by decide, Or.inl ⟨(q2 82 rfl rfl), Or.inl rfl⟩, tyX3_ok, nmX3, rfl, rfl, fun h => absurd h (by decide)⟩
theorem f_X3_28 : FL RX3 28 3 7 (.int) false := ⟨RX3, TX3, 9, "NuggetCamp$Miner", tyX3, rfl, inA_RX3, by decide, Or.inl ⟨(q2 84 rfl rfl), Or.inl rfl⟩, tyX3_ok, nmX3, rfl, rfl, fun h => absurd h (by decide)⟩
theorem f_X3_31 : FL RX3 31 3 8 (.int) false := ⟨RX3, TX3, 9, "NuggetCamp$Miner", tyX3, rfl, inA_RX3, by decide, Or.inl ⟨(q2 86 rfl rfl), Or.inl rfl⟩, tyX3_ok, nmX3, rfl, rfl, fun h => absurd h (by decide)⟩
theorem f_X3_34 : FL RX3 34 3 4 (.int) false := ⟨RX3, TX3, 9, "NuggetCamp$Miner", tyX3, rfl, inA_RX3, by decide, Or.inl ⟨(q2 78 rfl rfl), Or.inl rfl⟩, tyX3_ok, nmX3, rfl, rfl, fun h => absurd h (by decide)⟩
theorem f_X3_37 : FL RX3 37 3 5 (.int) false := ⟨RX3, TX3, 9, "NuggetCamp$Miner", tyX3, rfl, inA_RX3, by decide, Or.inl ⟨(q2 80 rfl rfl), Or.inl rfl⟩, tyX3_ok, nmX3, rfl, rfl, fun h => absurd h (by decide)⟩
theorem L_X4_1 : Cond.methodLink RX4 1 objectInit ∈ wA := (q3 82 rfl rfl)
theorem f_X4_7 : FL RX4 7 4 0 (.int) true := ⟨RX4, TX4, 2, "NuggetCamp$Right", tyX4, rfl, inA_RX4, by decide, Or.inl ⟨(q3 83 rfl rfl), Or.inl rfl⟩, tyX4_ok, nmX4, rfl, rfl, fun _ => rfl⟩
theorem f_X4_13 : FL RX4 13 4 1 (.int) true := ⟨RX4, TX4, 2, "NuggetCamp$Right", tyX4, rfl, inA_RX4, by decide, Or.inl ⟨(q3 85 rfl rfl), Or.inl rfl⟩, tyX4_ok, nmX4, rfl, rfl, fun _ => rfl⟩
theorem g_X5_9 : FG RX5 9 5 0 := ⟨RX5, TX5, 1, "NuggetCamp$Rumours", rfl, inA_RX5, by decide, Or.inl ⟨(q1 79 rfl rfl), Or.inl rfl⟩⟩
theorem L_X5_3 : Cond.methodLink RX5 3 objectInit ∈ wA := (q1 78 rfl rfl)
theorem L_X5_15 : LkSN RX5 15 yX7_isCell cX7_isCell 1 (Option.some Jvm.ClassFile.FieldType.boolean) 1 := ⟨⟨(q1 1 rfl rfl), (q1 165 rfl rfl), by decide, by decide, by decide +kernel⟩, ⟨"NuggetCamp", (qn4 50 rfl rfl)⟩, (q1 164 rfl rfl)⟩
theorem L_X5_19 : LkS RX5 19 yJ9_max_7cf53 cJ9_max_7cf53 2 (Option.some Jvm.ClassFile.FieldType.int) 2 := ⟨⟨(q1 17 rfl rfl), (q2 128 rfl rfl), by decide, by decide, by decide +kernel⟩, (q2 210 rfl rfl), (q2 127 rfl rfl)⟩
theorem f_X5_9 : FL RX5 9 5 0 (.array .int) true := ⟨RX5, TX5, 1, "NuggetCamp$Rumours", tyX5, rfl, inA_RX5, by decide, Or.inl ⟨(q1 79 rfl rfl), Or.inl rfl⟩, tyX5_ok, nmX5, rfl, rfl, fun _ => rfl⟩
theorem g_X6_9 : FG RX6 9 6 0 := ⟨RX6, TX6, 3, "NuggetCamp$Store", rfl, inA_RX6, by decide, Or.inl ⟨(q1 62 rfl rfl), Or.inl rfl⟩⟩
theorem g_X6_15 : FG RX6 15 6 1 := ⟨RX6, TX6, 3, "NuggetCamp$Store", rfl, inA_RX6, by decide, Or.inl ⟨(q1 63 rfl rfl), Or.inl rfl⟩⟩
theorem g_X6_18 : FG RX6 18 6 2 := ⟨RX6, TX6, 3, "NuggetCamp$Store", rfl, inA_RX6, by decide, Or.inl ⟨(q1 64 rfl rfl), Or.inl rfl⟩⟩
theorem L_X6_3 : Cond.methodLink RX6 3 objectInit ∈ wA := (q1 61 rfl rfl)
theorem f_X6_9 : FL RX6 9 6 0 (.array .int) true := ⟨RX6, TX6, 3, "NuggetCamp$Store", tyX6, rfl, inA_RX6, by decide, Or.inl ⟨(q1 62 rfl rfl), Or.inl rfl⟩, tyX6_ok, nmX6, rfl, rfl, fun _ => rfl⟩
theorem f_X6_15 : FL RX6 15 6 1 (.array .int) true := ⟨RX6, TX6, 3, "NuggetCamp$Store", tyX6, rfl, inA_RX6, by decide, Or.inl ⟨(q1 63 rfl rfl), Or.inl rfl⟩, tyX6_ok, nmX6, rfl, rfl, fun _ => rfl⟩
theorem f_X6_18 : FL RX6 18 6 2 (.int) false := ⟨RX6, TX6, 3, "NuggetCamp$Store", tyX6, rfl, inA_RX6, by decide, Or.inl ⟨(q1 64 rfl rfl), Or.inl rfl⟩, tyX6_ok, nmX6, rfl, rfl, fun h => absurd h (by decide)⟩
theorem K_X7_90 : Cond.classLink RX7 90 "NuggetCamp$Miner" ∈ wA := (q2 66 rfl rfl)
theorem K_X7_123 : Cond.classLink RX7 123 "NuggetCamp$Claim" ∈ wA := (q2 211 rfl rfl)
theorem K_X7_128 : Cond.classLink RX7 128 "NuggetCamp$Right" ∈ wA := (q3 77 rfl rfl)
theorem g_X7_10 : FG RX7 10 7 0 := ⟨RX7, TX7, 12, "NuggetCamp", rfl, inA_RX7, by decide, Or.inl ⟨(q1 109 rfl rfl), Or.inl rfl⟩⟩
theorem g_X7_19 : FG RX7 19 7 1 := ⟨RX7, TX7, 12, "NuggetCamp", rfl, inA_RX7, by decide, Or.inl ⟨(q1 110 rfl rfl), Or.inl rfl⟩⟩
theorem g_X7_26 : FG RX7 26 7 2 := ⟨RX7, TX7, 12, "NuggetCamp", rfl, inA_RX7, by decide, Or.inl ⟨(q1 111 rfl rfl), Or.inl rfl⟩⟩
theorem g_X7_33 : FG RX7 33 7 3 := ⟨RX7, TX7, 12, "NuggetCamp", rfl, inA_RX7, by decide, Or.inl ⟨(q1 112 rfl rfl), Or.inl rfl⟩⟩
theorem g_X7_37 : FG RX7 37 7 4 := ⟨RX7, TX7, 12, "NuggetCamp", rfl, inA_RX7, by decide, Or.inl ⟨(q1 113 rfl rfl), Or.inl rfl⟩⟩
theorem g_X7_40 : FG RX7 40 7 5 := ⟨RX7, TX7, 12, "NuggetCamp", rfl, inA_RX7, by decide, Or.inl ⟨(q1 114 rfl rfl), Or.inl rfl⟩⟩
theorem g_X7_43 : FG RX7 43 7 6 := ⟨RX7, TX7, 12, "NuggetCamp", rfl, inA_RX7, by decide, Or.inl ⟨(q1 115 rfl rfl), Or.inl rfl⟩⟩
theorem g_X7_47 : FG RX7 47 7 7 := ⟨RX7, TX7, 12, "NuggetCamp", rfl, inA_RX7, by decide, Or.inl ⟨(q1 116 rfl rfl), Or.inl rfl⟩⟩
theorem g_X7_50 : FG RX7 50 7 8 := ⟨RX7, TX7, 12, "NuggetCamp", rfl, inA_RX7, by decide, Or.inl ⟨(q1 117 rfl rfl), Or.inl rfl⟩⟩
theorem g_X7_53 : FG RX7 53 7 9 := ⟨RX7, TX7, 12, "NuggetCamp", rfl, inA_RX7, by decide, Or.inl ⟨(q1 118 rfl rfl), Or.inl rfl⟩⟩
theorem g_X7_56 : FG RX7 56 7 10 := ⟨RX7, TX7, 12, "NuggetCamp", rfl, inA_RX7, by decide, Or.inl ⟨(q1 119 rfl rfl), Or.inl rfl⟩⟩
theorem g_X7_59 : FG RX7 59 7 11 := ⟨RX7, TX7, 12, "NuggetCamp", rfl, inA_RX7, by decide, Or.inl ⟨(q1 120 rfl rfl), Or.inl rfl⟩⟩
theorem g_X7_71 : FG RX7 71 2 3 := ⟨RX1, TX1, 4, "NuggetCamp$Creek", rfl, inA_RX1, by decide, Or.inr ⟨"NuggetCamp", (qn1 45 rfl rfl)⟩⟩
theorem g_X7_138 : FG RX7 138 3 8 := ⟨RX3, TX3, 9, "NuggetCamp$Miner", rfl, inA_RX3, by decide, Or.inr ⟨"NuggetCamp", (qn2 87 rfl rfl)⟩⟩
theorem g_X7_161 : FG RX7 161 1 4 := ⟨RX0, TX0, 11, "NuggetCamp$Claim", rfl, inA_RX0, by decide, Or.inr ⟨"NuggetCamp", (qn3 34 rfl rfl)⟩⟩
theorem g_X7_166 : FG RX7 166 3 2 := ⟨RX3, TX3, 9, "NuggetCamp$Miner", rfl, inA_RX3, by decide, Or.inr ⟨"NuggetCamp", (qn2 75 rfl rfl)⟩⟩
theorem g_X7_178 : FG RX7 178 3 3 := ⟨RX3, TX3, 9, "NuggetCamp$Miner", rfl, inA_RX3, by decide, Or.inr ⟨"NuggetCamp", (qn2 77 rfl rfl)⟩⟩
theorem g_X7_188 : FG RX7 188 3 7 := ⟨RX3, TX3, 9, "NuggetCamp$Miner", rfl, inA_RX3, by decide, Or.inr ⟨"NuggetCamp", (qn2 85 rfl rfl)⟩⟩
theorem g_X7_194 : FG RX7 194 3 5 := ⟨RX3, TX3, 9, "NuggetCamp$Miner", rfl, inA_RX3, by decide, Or.inr ⟨"NuggetCamp", (qn2 81 rfl rfl)⟩⟩
theorem g_X7_206 : FG RX7 206 6 2 := ⟨RX6, TX6, 3, "NuggetCamp$Store", rfl, inA_RX6, by decide, Or.inr ⟨"NuggetCamp", (qn1 65 rfl rfl)⟩⟩
theorem g_X7_209 : FG RX7 209 3 4 := ⟨RX3, TX3, 9, "NuggetCamp$Miner", rfl, inA_RX3, by decide, Or.inr ⟨"NuggetCamp", (qn2 79 rfl rfl)⟩⟩
theorem g_X7_223 : FG RX7 223 1 3 := ⟨RX0, TX0, 11, "NuggetCamp$Claim", rfl, inA_RX0, by decide, Or.inr ⟨"NuggetCamp", (qn3 32 rfl rfl)⟩⟩
theorem g_X7_226 : FG RX7 226 1 5 := ⟨RX0, TX0, 11, "NuggetCamp$Claim", rfl, inA_RX0, by decide, Or.inr ⟨"NuggetCamp", (qn3 36 rfl rfl)⟩⟩
theorem g_X7_229 : FG RX7 229 1 0 := ⟨RX0, TX0, 11, "NuggetCamp$Claim", rfl, inA_RX0, by decide, Or.inr ⟨"NuggetCamp", (qn3 26 rfl rfl)⟩⟩
theorem g_X7_232 : FG RX7 232 1 1 := ⟨RX0, TX0, 11, "NuggetCamp$Claim", rfl, inA_RX0, by decide, Or.inr ⟨"NuggetCamp", (qn3 28 rfl rfl)⟩⟩
theorem g_X7_243 : FG RX7 243 1 6 := ⟨RX0, TX0, 11, "NuggetCamp$Claim", rfl, inA_RX0, by decide, Or.inr ⟨"NuggetCamp", (qn3 38 rfl rfl)⟩⟩
theorem g_X7_246 : FG RX7 246 1 10 := ⟨RX0, TX0, 11, "NuggetCamp$Claim", rfl, inA_RX0, by decide, Or.inr ⟨"NuggetCamp", (qn3 46 rfl rfl)⟩⟩
theorem g_X7_249 : FG RX7 249 1 7 := ⟨RX0, TX0, 11, "NuggetCamp$Claim", rfl, inA_RX0, by decide, Or.inr ⟨"NuggetCamp", (qn3 40 rfl rfl)⟩⟩
theorem g_X7_252 : FG RX7 252 1 9 := ⟨RX0, TX0, 11, "NuggetCamp$Claim", rfl, inA_RX0, by decide, Or.inr ⟨"NuggetCamp", (qn3 44 rfl rfl)⟩⟩
theorem g_X7_255 : FG RX7 255 1 8 := ⟨RX0, TX0, 11, "NuggetCamp$Claim", rfl, inA_RX0, by decide, Or.inr ⟨"NuggetCamp", (qn3 42 rfl rfl)⟩⟩
theorem g_X7_270 : FG RX7 270 1 2 := ⟨RX0, TX0, 11, "NuggetCamp$Claim", rfl, inA_RX0, by decide, Or.inr ⟨"NuggetCamp", (qn3 30 rfl rfl)⟩⟩
theorem g_X7_273 : FG RX7 273 3 6 := ⟨RX3, TX3, 9, "NuggetCamp$Miner", rfl, inA_RX3, by decide, Or.inr ⟨"NuggetCamp", (qn2 83 rfl rfl)⟩⟩
theorem g_X7_282 : FG RX7 282 2 2 := ⟨RX1, TX1, 4, "NuggetCamp$Creek", rfl, inA_RX1, by decide, Or.inr ⟨"NuggetCamp", (qn1 43 rfl rfl)⟩⟩
theorem g_X7_348 : FG RX7 348 4 0 := ⟨RX4, TX4, 2, "NuggetCamp$Right", rfl, inA_RX4, by decide, Or.inr ⟨"NuggetCamp", (qn3 84 rfl rfl)⟩⟩
theorem g_X7_349 : FG RX7 349 4 1 := ⟨RX4, TX4, 2, "NuggetCamp$Right", rfl, inA_RX4, by decide, Or.inr ⟨"NuggetCamp", (qn3 86 rfl rfl)⟩⟩
theorem S_X7_320 : Cond.fieldLink RX7 320 "NuggetCamp" "GEARS" "[LNuggetCamp$Gear;" ∈ wA := (q3 102 rfl rfl)
theorem S_X7_344 : Cond.fieldLink RX7 344 "NuggetCamp$Gear" "PAN" "LNuggetCamp$Gear;" ∈ wA := (q3 109 rfl rfl)
theorem L_X7_1 : Cond.methodLink RX7 1 objectInit ∈ wA := (q1 31 rfl rfl)
theorem L_X7_9 : LkI RX7 9 yX1_init cX1_init 1 0 := ⟨⟨(q1 2 rfl rfl), (q1 38 rfl rfl), by decide, by decide, by decide +kernel⟩, Or.inr ⟨"NuggetCamp", (qn1 36 rfl rfl)⟩, (q1 37 rfl rfl), rfl⟩
theorem L_X7_18 : LkI RX7 18 yX6_init cX6_init 1 0 := ⟨⟨(q1 3 rfl rfl), (q1 60 rfl rfl), by decide, by decide, by decide +kernel⟩, Or.inr ⟨"NuggetCamp", (qn1 58 rfl rfl)⟩, (q1 59 rfl rfl), rfl⟩
theorem L_X7_25 : LkI RX7 25 yX5_init cX5_init 1 0 := ⟨⟨(q1 4 rfl rfl), (q1 77 rfl rfl), by decide, by decide, by decide +kernel⟩, Or.inr ⟨"NuggetCamp", (qn1 75 rfl rfl)⟩, (q1 76 rfl rfl), rfl⟩
theorem L_X7_32 : LkI RX7 32 yJx4a65c_init_da8c8 cJx4a65c_init_da8c8 1 0 := ⟨⟨(q1 7 rfl rfl), (q1 87 rfl rfl), by decide, by decide, by decide +kernel⟩, Or.inl (q1 85 rfl rfl), (q1 86 rfl rfl), rfl⟩
theorem L_X7_92 : LkI RX7 92 yX3_init cX3_init 4 2 := ⟨⟨(q1 15 rfl rfl), (q2 70 rfl rfl), by decide, by decide, by decide +kernel⟩, Or.inl (q2 68 rfl rfl), (q2 69 rfl rfl), rfl⟩
theorem L_X7_125 : LkI RX7 125 yX0_init cX0_init 6 5 := ⟨⟨(q1 22 rfl rfl), (q3 23 rfl rfl), by decide, by decide, by decide +kernel⟩, Or.inl (q3 21 rfl rfl), (q3 22 rfl rfl), rfl⟩
theorem L_X7_130 : LkI RX7 130 yX4_init cX4_init 3 2 := ⟨⟨(q1 23 rfl rfl), (q3 81 rfl rfl), by decide, by decide, by decide +kernel⟩, Or.inl (q3 79 rfl rfl), (q3 80 rfl rfl), rfl⟩
theorem L_X7_62 : LkS RX7 62 yX7_checkCell cX7_checkCell 1 (Option.none : Option Jvm.ClassFile.FieldType) 1 := ⟨⟨(q1 1 rfl rfl), (q1 162 rfl rfl), by decide, by decide, by decide +kernel⟩, (q1 160 rfl rfl), (q1 161 rfl rfl)⟩
theorem L_X7_67 : LkS RX7 67 yX7_checkRange cX7_checkRange 3 (Option.none : Option Jvm.ClassFile.FieldType) 3 := ⟨⟨(q1 1 rfl rfl), (q2 0 rfl rfl), by decide, by decide, by decide +kernel⟩, (q1 238 rfl rfl), (q1 239 rfl rfl)⟩
theorem L_X7_75 : LkS RX7 75 yX7_checkState cX7_checkState 1 (Option.none : Option Jvm.ClassFile.FieldType) 1 := ⟨⟨(q1 1 rfl rfl), (q2 22 rfl rfl), by decide, by decide, by decide +kernel⟩, (q2 20 rfl rfl), (q2 21 rfl rfl)⟩
theorem L_X7_105 : LkS RX7 105 yX7_checkArgument cX7_checkArgument 1 (Option.none : Option Jvm.ClassFile.FieldType) 1 := ⟨⟨(q1 1 rfl rfl), (q2 3 rfl rfl), by decide, by decide, by decide +kernel⟩, (q2 1 rfl rfl), (q2 2 rfl rfl)⟩
theorem L_X7_112 : LkS RX7 112 yX7_checkIndex cX7_checkIndex 1 (Option.none : Option Jvm.ClassFile.FieldType) 1 := ⟨⟨(q1 1 rfl rfl), (q1 168 rfl rfl), by decide, by decide, by decide +kernel⟩, (q1 166 rfl rfl), (q1 167 rfl rfl)⟩
theorem L_X7_131 : LkS RX7 131 yX7_gearAt cX7_gearAt 1 (Option.some (Jvm.ClassFile.FieldType.object "NuggetCamp$Gear")) 1 := ⟨⟨(q1 1 rfl rfl), (q3 101 rfl rfl), by decide, by decide, by decide +kernel⟩, (q3 99 rfl rfl), (q3 100 rfl rfl)⟩
theorem L_X7_258 : LkS RX7 258 yJ9_min_7cf53 cJ9_min_7cf53 2 (Option.some Jvm.ClassFile.FieldType.int) 2 := ⟨⟨(q1 17 rfl rfl), (q2 161 rfl rfl), by decide, by decide, by decide +kernel⟩, (q3 124 rfl rfl), (q2 160 rfl rfl)⟩
theorem L_X7_309 : LkS RX7 309 yX7_isCell cX7_isCell 1 (Option.some Jvm.ClassFile.FieldType.boolean) 1 := ⟨⟨(q1 1 rfl rfl), (q1 165 rfl rfl), by decide, by decide, by decide +kernel⟩, (q1 163 rfl rfl), (q1 164 rfl rfl)⟩
theorem L_X7_79 : LkV RX7 79 yX1_grainsAt cX1_grainsAt 2 (Option.some Jvm.ClassFile.FieldType.int) 1 := ⟨⟨(q1 2 rfl rfl), (q2 42 rfl rfl), by decide, by decide, by decide +kernel⟩, (q2 39 rfl rfl), (q2 40 rfl rfl), (q2 41 rfl rfl)⟩
theorem L_X7_83 : LkV RX7 83 yX1_lay cX1_lay 4 (Option.none : Option Jvm.ClassFile.FieldType) 3 := ⟨⟨(q1 2 rfl rfl), (q2 47 rfl rfl), by decide, by decide, by decide +kernel⟩, (q2 44 rfl rfl), (q2 45 rfl rfl), (q2 46 rfl rfl)⟩
theorem L_X7_86 : LkV RX7 86 yJx4a65c_size_8abf5 cJx4a65c_size_8abf5 1 (Option.some Jvm.ClassFile.FieldType.int) 0 := ⟨⟨(q1 7 rfl rfl), (q2 65 rfl rfl), by decide, by decide, by decide +kernel⟩, (q2 62 rfl rfl), (q2 63 rfl rfl), (q2 64 rfl rfl)⟩
theorem L_X7_95 : LkV RX7 95 yJx4a65c_add_9ea2d cJx4a65c_add_9ea2d 2 (Option.some Jvm.ClassFile.FieldType.boolean) 1 := ⟨⟨(q1 7 rfl rfl), (q2 110 rfl rfl), by decide, by decide, by decide +kernel⟩, (q2 107 rfl rfl), (q2 108 rfl rfl), (q2 109 rfl rfl)⟩
theorem L_X7_99 : LkV RX7 99 yX7_passOneDay cX7_passOneDay 2 (Option.none : Option Jvm.ClassFile.FieldType) 0 := ⟨⟨(q1 1 rfl rfl), (q2 177 rfl rfl), by decide, by decide, by decide +kernel⟩, (q2 174 rfl rfl), (q2 176 rfl rfl), (qs1 4 rfl)⟩
theorem L_X7_102 : LkV RX7 102 yX7_livingMiners cX7_livingMiners 3 (Option.some Jvm.ClassFile.FieldType.int) 0 := ⟨⟨(q1 1 rfl rfl), (q2 235 rfl rfl), by decide, by decide, by decide +kernel⟩, (q2 232 rfl rfl), (q2 234 rfl rfl), (qs1 8 rfl)⟩
theorem L_X7_108 : LkV RX7 108 yX7_minerAt cX7_minerAt 2 (Option.some (Jvm.ClassFile.FieldType.object "NuggetCamp$Miner")) 1 := ⟨⟨(q1 1 rfl rfl), (q3 6 rfl rfl), by decide, by decide, by decide +kernel⟩, (q3 3 rfl rfl), (q3 5 rfl rfl), (qs1 9 rfl)⟩
theorem L_X7_115 : LkV RX7 115 yX3_isDead cX3_isDead 1 (Option.some Jvm.ClassFile.FieldType.boolean) 0 := ⟨⟨(q1 15 rfl rfl), (q2 199 rfl rfl), by decide, by decide, by decide +kernel⟩, (q2 224 rfl rfl), (q2 197 rfl rfl), (q2 198 rfl rfl)⟩
theorem L_X7_119 : LkV RX7 119 yX7_areFree cX7_areFree 4 (Option.some Jvm.ClassFile.FieldType.boolean) 2 := ⟨⟨(q1 1 rfl rfl), (q3 11 rfl rfl), by decide, by decide, by decide +kernel⟩, (q3 8 rfl rfl), (q3 10 rfl rfl), (qs1 10 rfl)⟩
theorem L_X7_135 : LkV RX7 135 yX7_claimHolding cX7_claimHolding 4 (Option.some Jvm.ClassFile.FieldType.int) 1 := ⟨⟨(q1 1 rfl rfl), (q3 15 rfl rfl), by decide, by decide, by decide +kernel⟩, (q3 12 rfl rfl), (q3 14 rfl rfl), (qs1 11 rfl)⟩
theorem L_X7_141 : LkV RX7 141 yX7_mayUse cX7_mayUse 4 (Option.some Jvm.ClassFile.FieldType.boolean) 3 := ⟨⟨(q1 1 rfl rfl), (q3 108 rfl rfl), by decide, by decide, by decide +kernel⟩, (q3 105 rfl rfl), (q3 107 rfl rfl), (qs1 12 rfl)⟩
theorem L_X7_145 : LkV RX7 145 yX7_inchesOfMiner cX7_inchesOfMiner 4 (Option.some Jvm.ClassFile.FieldType.int) 1 := ⟨⟨(q1 1 rfl rfl), (q3 119 rfl rfl), by decide, by decide, by decide +kernel⟩, (q3 116 rfl rfl), (q3 118 rfl rfl), (qs1 14 rfl)⟩
theorem L_X7_153 : LkV RX7 153 yX1_dig cX1_dig 5 (Option.some Jvm.ClassFile.FieldType.int) 2 := ⟨⟨(q1 2 rfl rfl), (q3 128 rfl rfl), by decide, by decide, by decide +kernel⟩, (q3 125 rfl rfl), (q3 126 rfl rfl), (q3 127 rfl rfl)⟩
theorem L_X7_157 : LkV RX7 157 yX7_claimAt cX7_claimAt 2 (Option.some (Jvm.ClassFile.FieldType.object "NuggetCamp$Claim")) 1 := ⟨⟨(q1 1 rfl rfl), (q3 114 rfl rfl), by decide, by decide, by decide +kernel⟩, (q3 111 rfl rfl), (q3 113 rfl rfl), (qs1 13 rfl)⟩
theorem L_X7_162 : LkV RX7 162 yX7_shareOut cX7_shareOut 6 (Option.none : Option Jvm.ClassFile.FieldType) 2 := ⟨⟨(q1 1 rfl rfl), (q3 146 rfl rfl), by decide, by decide, by decide +kernel⟩, (q3 143 rfl rfl), (q3 145 rfl rfl), (qs2 0 rfl)⟩
theorem L_X7_169 : LkV RX7 169 yX1_drop cX1_drop 3 (Option.none : Option Jvm.ClassFile.FieldType) 2 := ⟨⟨(q1 2 rfl rfl), (q3 142 rfl rfl), by decide, by decide, by decide +kernel⟩, (q3 165 rfl rfl), (q3 140 rfl rfl), (q3 141 rfl rfl)⟩
theorem L_X7_172 : LkV RX7 172 yX3_noteSalting cX3_noteSalting 3 (Option.none : Option Jvm.ClassFile.FieldType) 2 := ⟨⟨(q1 15 rfl rfl), (q3 169 rfl rfl), by decide, by decide, by decide +kernel⟩, (q3 166 rfl rfl), (q3 167 rfl rfl), (q3 168 rfl rfl)⟩
theorem L_X7_175 : LkV RX7 175 yX7_spoilSalesOfToday cX7_spoilSalesOfToday 5 (Option.none : Option Jvm.ClassFile.FieldType) 2 := ⟨⟨(q1 1 rfl rfl), (q3 173 rfl rfl), by decide, by decide, by decide +kernel⟩, (q3 170 rfl rfl), (q3 172 rfl rfl), (qs2 1 rfl)⟩
theorem L_X7_182 : LkV RX7 182 yX3_dust cX3_dust 1 (Option.some Jvm.ClassFile.FieldType.int) 0 := ⟨⟨(q1 15 rfl rfl), (q3 192 rfl rfl), by decide, by decide, by decide +kernel⟩, (q3 189 rfl rfl), (q3 190 rfl rfl), (q3 191 rfl rfl)⟩
theorem L_X7_185 : LkV RX7 185 yX3_isSuspect cX3_isSuspect 1 (Option.some Jvm.ClassFile.FieldType.boolean) 0 := ⟨⟨(q1 15 rfl rfl), (q3 196 rfl rfl), by decide, by decide, by decide +kernel⟩, (q3 193 rfl rfl), (q3 194 rfl rfl), (q3 195 rfl rfl)⟩
theorem L_X7_191 : LkV RX7 191 yX3_brassIn cX3_brassIn 3 (Option.some Jvm.ClassFile.FieldType.int) 1 := ⟨⟨(q1 15 rfl rfl), (q3 201 rfl rfl), by decide, by decide, by decide +kernel⟩, (q3 198 rfl rfl), (q3 199 rfl rfl), (q3 200 rfl rfl)⟩
theorem L_X7_197 : LkV RX7 197 yX6_freightsUnderWay cX6_freightsUnderWay 3 (Option.some Jvm.ClassFile.FieldType.int) 0 := ⟨⟨(q1 3 rfl rfl), (q3 219 rfl rfl), by decide, by decide, by decide +kernel⟩, (q3 216 rfl rfl), (q3 217 rfl rfl), (q3 218 rfl rfl)⟩
theorem L_X7_200 : LkV RX7 200 yX6_send cX6_send 4 (Option.none : Option Jvm.ClassFile.FieldType) 2 := ⟨⟨(q1 3 rfl rfl), (q3 223 rfl rfl), by decide, by decide, by decide +kernel⟩, (q3 220 rfl rfl), (q3 221 rfl rfl), (q3 222 rfl rfl)⟩
theorem L_X7_203 : LkV RX7 203 yX6_price cX6_price 1 (Option.some Jvm.ClassFile.FieldType.int) 0 := ⟨⟨(q1 3 rfl rfl), (q3 234 rfl rfl), by decide, by decide, by decide +kernel⟩, (q3 231 rfl rfl), (q3 232 rfl rfl), (q3 233 rfl rfl)⟩
theorem L_X7_210 : LkV RX7 210 yX3_percentOf cX3_percentOf 2 (Option.some Jvm.ClassFile.FieldType.int) 1 := ⟨⟨(q1 15 rfl rfl), (q3 150 rfl rfl), by decide, by decide, by decide +kernel⟩, (q3 147 rfl rfl), (q3 148 rfl rfl), (q3 149 rfl rfl)⟩
theorem L_X7_213 : LkV RX7 213 yX3_percentBacked cX3_percentBacked 3 (Option.some Jvm.ClassFile.FieldType.int) 0 := ⟨⟨(q1 15 rfl rfl), (q4 5 rfl rfl), by decide, by decide, by decide +kernel⟩, (q4 2 rfl rfl), (q4 3 rfl rfl), (q4 4 rfl rfl)⟩
theorem L_X7_216 : LkV RX7 216 yX3_setPercent cX3_setPercent 3 (Option.none : Option Jvm.ClassFile.FieldType) 2 := ⟨⟨(q1 15 rfl rfl), (q4 9 rfl rfl), by decide, by decide, by decide +kernel⟩, (q4 6 rfl rfl), (q4 7 rfl rfl), (q4 8 rfl rfl)⟩
theorem L_X7_219 : LkV RX7 219 yX7_isMiner cX7_isMiner 2 (Option.some Jvm.ClassFile.FieldType.boolean) 1 := ⟨⟨(q1 1 rfl rfl), (q2 223 rfl rfl), by decide, by decide, by decide +kernel⟩, (q2 220 rfl rfl), (q2 222 rfl rfl), (qs1 7 rfl)⟩
theorem L_X7_235 : LkV RX7 235 yX3_saltedLately cX3_saltedLately 5 (Option.some Jvm.ClassFile.FieldType.boolean) 3 := ⟨⟨(q1 15 rfl rfl), (q4 27 rfl rfl), by decide, by decide, by decide +kernel⟩, (q4 24 rfl rfl), (q4 25 rfl rfl), (q4 26 rfl rfl)⟩
theorem L_X7_239 : LkV RX7 239 yX0_sellTo cX0_sellTo 5 (Option.none : Option Jvm.ClassFile.FieldType) 4 := ⟨⟨(q1 22 rfl rfl), (q4 31 rfl rfl), by decide, by decide, by decide +kernel⟩, (q4 28 rfl rfl), (q4 29 rfl rfl), (q4 30 rfl rfl)⟩
theorem L_X7_264 : LkV RX7 264 yX5_beliefOf cX5_beliefOf 2 (Option.some Jvm.ClassFile.FieldType.int) 1 := ⟨⟨(q1 4 rfl rfl), (q4 49 rfl rfl), by decide, by decide, by decide +kernel⟩, (q4 46 rfl rfl), (q4 47 rfl rfl), (q4 48 rfl rfl)⟩
theorem L_X7_267 : LkV RX7 267 yX5_tell cX5_tell 3 (Option.none : Option Jvm.ClassFile.FieldType) 2 := ⟨⟨(q1 4 rfl rfl), (q4 54 rfl rfl), by decide, by decide, by decide +kernel⟩, (q4 51 rfl rfl), (q4 52 rfl rfl), (q4 53 rfl rfl)⟩
theorem L_X7_276 : LkV RX7 276 yX7_inchesOfRight cX7_inchesOfRight 6 (Option.some Jvm.ClassFile.FieldType.int) 1 := ⟨⟨(q1 1 rfl rfl), (q3 123 rfl rfl), by decide, by decide, by decide +kernel⟩, (q3 120 rfl rfl), (q3 122 rfl rfl), (qs1 15 rfl)⟩
theorem L_X7_279 : LkV RX7 279 yX1_goldInGround cX1_goldInGround 3 (Option.some Jvm.ClassFile.FieldType.int) 0 := ⟨⟨(q1 2 rfl rfl), (q4 93 rfl rfl), by decide, by decide, by decide +kernel⟩, (q4 90 rfl rfl), (q4 91 rfl rfl), (q4 92 rfl rfl)⟩
theorem L_X7_285 : LkV RX7 285 yX7_goldOfMiners cX7_goldOfMiners 3 (Option.some Jvm.ClassFile.FieldType.int) 0 := ⟨⟨(q1 1 rfl rfl), (q4 97 rfl rfl), by decide, by decide, by decide +kernel⟩, (q4 94 rfl rfl), (q4 96 rfl rfl), (qs2 2 rfl)⟩
theorem L_X7_288 : LkV RX7 288 yX1_yieldDownwards cX1_yieldDownwards 9 (Option.some Jvm.ClassFile.FieldType.int) 3 := ⟨⟨(q1 2 rfl rfl), (q4 122 rfl rfl), by decide, by decide, by decide +kernel⟩, (q4 119 rfl rfl), (q4 120 rfl rfl), (q4 121 rfl rfl)⟩
theorem L_X7_314 : LkV RX7 314 yJx4a65c_get_915e3 cJx4a65c_get_915e3 2 (Option.some (Jvm.ClassFile.FieldType.object "java/lang/Object")) 1 := ⟨⟨(q1 7 rfl rfl), (q2 181 rfl rfl), by decide, by decide, by decide +kernel⟩, (q2 178 rfl rfl), (q2 179 rfl rfl), (q2 180 rfl rfl)⟩
theorem L_X7_326 : LkV RX7 326 yX3_liveOneDay cX3_liveOneDay 1 (Option.none : Option Jvm.ClassFile.FieldType) 0 := ⟨⟨(q1 15 rfl rfl), (q2 195 rfl rfl), by decide, by decide, by decide +kernel⟩, (q2 192 rfl rfl), (q2 193 rfl rfl), (q2 194 rfl rfl)⟩
theorem L_X7_329 : LkV RX7 329 yX6_unload cX6_unload 3 (Option.none : Option Jvm.ClassFile.FieldType) 1 := ⟨⟨(q1 3 rfl rfl), (q2 205 rfl rfl), by decide, by decide, by decide +kernel⟩, (q2 202 rfl rfl), (q2 203 rfl rfl), (q2 204 rfl rfl)⟩
theorem L_X7_332 : LkV RX7 332 yX5_fade cX5_fade 2 (Option.none : Option Jvm.ClassFile.FieldType) 0 := ⟨⟨(q1 4 rfl rfl), (q2 209 rfl rfl), by decide, by decide, by decide +kernel⟩, (q2 206 rfl rfl), (q2 207 rfl rfl), (q2 208 rfl rfl)⟩
theorem L_X7_335 : LkV RX7 335 yX7_lapseIfDue cX7_lapseIfDue 2 (Option.none : Option Jvm.ClassFile.FieldType) 1 := ⟨⟨(q1 1 rfl rfl), (q2 215 rfl rfl), by decide, by decide, by decide +kernel⟩, (q2 212 rfl rfl), (q2 214 rfl rfl), (qs1 5 rfl)⟩
theorem L_X7_339 : LkV RX7 339 yX7_isDead cX7_isDead 2 (Option.some Jvm.ClassFile.FieldType.boolean) 1 := ⟨⟨(q1 1 rfl rfl), (q2 219 rfl rfl), by decide, by decide, by decide +kernel⟩, (q2 216 rfl rfl), (q2 218 rfl rfl), (qs1 6 rfl)⟩
theorem L_X7_341 : LkV RX7 341 yX0_covers cX0_covers 2 (Option.some Jvm.ClassFile.FieldType.boolean) 1 := ⟨⟨(q1 22 rfl rfl), (q3 19 rfl rfl), by decide, by decide, by decide +kernel⟩, (q3 16 rfl rfl), (q3 17 rfl rfl), (q3 18 rfl rfl)⟩
theorem N_X7_66 : Cond.constant RX7 66 100000 ∈ wA := (q1 237 rfl rfl)
theorem N_X7_181 : Cond.constant RX7 181 1000000 ∈ wA := (q3 188 rfl rfl)
theorem K_X7_7 : Cond.classLink RX7 7 "NuggetCamp$Creek" ∈ wA := (q1 34 rfl rfl)
theorem K_X7_16 : Cond.classLink RX7 16 "NuggetCamp$Store" ∈ wA := (q1 56 rfl rfl)
theorem K_X7_23 : Cond.classLink RX7 23 "NuggetCamp$Rumours" ∈ wA := (q1 73 rfl rfl)
theorem K_X7_30 : Cond.classLink RX7 30 "java/util/ArrayList" ∈ wA := (q1 83 rfl rfl)
theorem K_X7_292 : Cond.classLink RX7 292 "java/lang/IndexOutOfBoundsException" ∈ wA := (q1 169 rfl rfl)
theorem K_X7_299 : Cond.classLink RX7 299 "java/lang/IllegalArgumentException" ∈ wA := (q2 4 rfl rfl)
theorem K_X7_304 : Cond.classLink RX7 304 "java/lang/IllegalStateException" ∈ wA := (q2 23 rfl rfl)
theorem f_X7_10 : FL RX7 10 7 0 (.object "NuggetCamp$Creek") true := ⟨RX7, TX7, 12, "NuggetCamp", tyX7, rfl, inA_RX7, by decide, Or.inl ⟨(q1 109 rfl rfl), Or.inl rfl⟩, tyX7_ok, nmX7, rfl, rfl, fun _ => rfl⟩
theorem f_X7_19 : FL RX7 19 7 1 (.object "NuggetCamp$Store") true := ⟨RX7, TX7, 12, "NuggetCamp", tyX7, rfl, inA_RX7, by decide, Or.inl ⟨(q1 110 rfl rfl), Or.inl rfl⟩, tyX7_ok, nmX7, rfl, rfl, fun _ => rfl⟩
theorem f_X7_26 : FL RX7 26 7 2 (.object "NuggetCamp$Rumours") true := ⟨RX7, TX7, 12, "NuggetCamp", tyX7, rfl, inA_RX7, by decide, Or.inl ⟨(q1 111 rfl rfl), Or.inl rfl⟩, tyX7_ok, nmX7, rfl, rfl, fun _ => rfl⟩
theorem f_X7_33 : FL RX7 33 7 3 (.object "java/util/ArrayList") true := ⟨RX7, TX7, 12, "NuggetCamp", tyX7, rfl, inA_RX7, by decide, Or.inl ⟨(q1 112 rfl rfl), Or.inl rfl⟩, tyX7_ok, nmX7, rfl, rfl, fun _ => rfl⟩
theorem f_X7_37 : FL RX7 37 7 4 (.object "java/util/ArrayList") true := ⟨RX7, TX7, 12, "NuggetCamp", tyX7, rfl, inA_RX7, by decide, Or.inl ⟨(q1 113 rfl rfl), Or.inl rfl⟩, tyX7_ok, nmX7, rfl, rfl, fun _ => rfl⟩
theorem f_X7_40 : FL RX7 40 7 5 (.object "java/util/ArrayList") true := ⟨RX7, TX7, 12, "NuggetCamp", tyX7, rfl, inA_RX7, by decide, Or.inl ⟨(q1 114 rfl rfl), Or.inl rfl⟩, tyX7_ok, nmX7, rfl, rfl, fun _ => rfl⟩
theorem f_X7_43 : FL RX7 43 7 6 (.int) false := ⟨RX7, TX7, 12, "NuggetCamp", tyX7, rfl, inA_RX7, by decide, Or.inl ⟨(q1 115 rfl rfl), Or.inl rfl⟩, tyX7_ok, nmX7, rfl, rfl, fun h => absurd h (by decide)⟩
theorem f_X7_47 : FL RX7 47 7 7 (.int) false := ⟨RX7, TX7, 12, "NuggetCamp", tyX7, rfl, inA_RX7, by decide, Or.inl ⟨(q1 116 rfl rfl), Or.inl rfl⟩, tyX7_ok, nmX7, rfl, rfl, fun h => absurd h (by decide)⟩
theorem f_X7_50 : FL RX7 50 7 8 (.int) false := ⟨RX7, TX7, 12, "NuggetCamp", tyX7, rfl, inA_RX7, by decide, Or.inl ⟨(q1 117 rfl rfl), Or.inl rfl⟩, tyX7_ok, nmX7, rfl, rfl, fun h => absurd h (by decide)⟩
theorem f_X7_53 : FL RX7 53 7 9 (.int) false := ⟨RX7, TX7, 12, "NuggetCamp", tyX7, rfl, inA_RX7, by decide, Or.inl ⟨(q1 118 rfl rfl), Or.inl rfl⟩, tyX7_ok, nmX7, rfl, rfl, fun h => absurd h (by decide)⟩
theorem f_X7_56 : FL RX7 56 7 10 (.int) false := ⟨RX7, TX7, 12, "NuggetCamp", tyX7, rfl, inA_RX7, by decide, Or.inl ⟨(q1 119 rfl rfl), Or.inl rfl⟩, tyX7_ok, nmX7, rfl, rfl, fun h => absurd h (by decide)⟩
theorem f_X7_59 : FL RX7 59 7 11 (.int) false := ⟨RX7, TX7, 12, "NuggetCamp", tyX7, rfl, inA_RX7, by decide, Or.inl ⟨(q1 120 rfl rfl), Or.inl rfl⟩, tyX7_ok, nmX7, rfl, rfl, fun h => absurd h (by decide)⟩
theorem f_X7_71 : FL RX7 71 2 3 (.boolean) false := ⟨RX1, TX1, 4, "NuggetCamp$Creek", tyX1, rfl, inA_RX1, by decide, Or.inr ⟨rfl, "NuggetCamp", (qn1 45 rfl rfl)⟩, tyX1_ok, nmX1, rfl, rfl, fun h => absurd h (by decide)⟩
theorem f_X7_138 : FL RX7 138 3 8 (.int) false := ⟨RX3, TX3, 9, "NuggetCamp$Miner", tyX3, rfl, inA_RX3, by decide, Or.inr ⟨rfl, "NuggetCamp", (qn2 87 rfl rfl)⟩, tyX3_ok, nmX3, rfl, rfl, fun h => absurd h (by decide)⟩
theorem f_X7_161 : FL RX7 161 1 4 (.int) false := ⟨RX0, TX0, 11, "NuggetCamp$Claim", tyX0, rfl, inA_RX0, by decide, Or.inr ⟨rfl, "NuggetCamp", (qn3 34 rfl rfl)⟩, tyX0_ok, nmX0, rfl, rfl, fun h => absurd h (by decide)⟩
theorem f_X7_166 : FL RX7 166 3 2 (.int) false := ⟨RX3, TX3, 9, "NuggetCamp$Miner", tyX3, rfl, inA_RX3, by decide, Or.inr ⟨rfl, "NuggetCamp", (qn2 75 rfl rfl)⟩, tyX3_ok, nmX3, rfl, rfl, fun h => absurd h (by decide)⟩
theorem f_X7_178 : FL RX7 178 3 3 (.int) false := ⟨RX3, TX3, 9, "NuggetCamp$Miner", tyX3, rfl, inA_RX3, by decide, Or.inr ⟨rfl, "NuggetCamp", (qn2 77 rfl rfl)⟩, tyX3_ok, nmX3, rfl, rfl, fun h => absurd h (by decide)⟩
theorem f_X7_188 : FL RX7 188 3 7 (.int) false := ⟨RX3, TX3, 9, "NuggetCamp$Miner", tyX3, rfl, inA_RX3, by decide, Or.inr ⟨rfl, "NuggetCamp", (qn2 85 rfl rfl)⟩, tyX3_ok, nmX3, rfl, rfl, fun h => absurd h (by decide)⟩
theorem f_X7_194 : FL RX7 194 3 5 (.int) false := ⟨RX3, TX3, 9, "NuggetCamp$Miner", tyX3, rfl, inA_RX3, by decide, Or.inr ⟨rfl, "NuggetCamp", (qn2 81 rfl rfl)⟩, tyX3_ok, nmX3, rfl, rfl, fun h => absurd h (by decide)⟩
theorem f_X7_206 : FL RX7 206 6 2 (.int) false := ⟨RX6, TX6, 3, "NuggetCamp$Store", tyX6, rfl, inA_RX6, by decide, Or.inr ⟨rfl, "NuggetCamp", (qn1 65 rfl rfl)⟩, tyX6_ok, nmX6, rfl, rfl, fun h => absurd h (by decide)⟩
theorem f_X7_209 : FL RX7 209 3 4 (.int) false := ⟨RX3, TX3, 9, "NuggetCamp$Miner", tyX3, rfl, inA_RX3, by decide, Or.inr ⟨rfl, "NuggetCamp", (qn2 79 rfl rfl)⟩, tyX3_ok, nmX3, rfl, rfl, fun h => absurd h (by decide)⟩
theorem f_X7_226 : FL RX7 226 1 5 (.boolean) false := ⟨RX0, TX0, 11, "NuggetCamp$Claim", tyX0, rfl, inA_RX0, by decide, Or.inr ⟨rfl, "NuggetCamp", (qn3 36 rfl rfl)⟩, tyX0_ok, nmX0, rfl, rfl, fun h => absurd h (by decide)⟩
theorem f_X7_246 : FL RX7 246 1 10 (.boolean) false := ⟨RX0, TX0, 11, "NuggetCamp$Claim", tyX0, rfl, inA_RX0, by decide, Or.inr ⟨rfl, "NuggetCamp", (qn3 46 rfl rfl)⟩, tyX0_ok, nmX0, rfl, rfl, fun h => absurd h (by decide)⟩
theorem f_X7_252 : FL RX7 252 1 9 (.boolean) false := ⟨RX0, TX0, 11, "NuggetCamp$Claim", tyX0, rfl, inA_RX0, by decide, Or.inr ⟨rfl, "NuggetCamp", (qn3 44 rfl rfl)⟩, tyX0_ok, nmX0, rfl, rfl, fun h => absurd h (by decide)⟩
theorem g_X8_7 : FG RX8 7 8 1 := ⟨RX8, TX8, 46, "NuggetCampModel", rfl, inA_RX8, by decide, Or.inl ⟨(q4 137 rfl rfl), Or.inl rfl⟩⟩
theorem g_X8_13 : FG RX8 13 8 2 := ⟨RX8, TX8, 46, "NuggetCampModel", rfl, inA_RX8, by decide, Or.inl ⟨(q4 138 rfl rfl), Or.inl rfl⟩⟩
theorem g_X8_16 : FG RX8 16 8 3 := ⟨RX8, TX8, 46, "NuggetCampModel", rfl, inA_RX8, by decide, Or.inl ⟨(q4 139 rfl rfl), Or.inl rfl⟩⟩
theorem g_X8_19 : FG RX8 19 8 4 := ⟨RX8, TX8, 46, "NuggetCampModel", rfl, inA_RX8, by decide, Or.inl ⟨(q4 140 rfl rfl), Or.inl rfl⟩⟩
theorem g_X8_22 : FG RX8 22 8 5 := ⟨RX8, TX8, 46, "NuggetCampModel", rfl, inA_RX8, by decide, Or.inl ⟨(q4 141 rfl rfl), Or.inl rfl⟩⟩
theorem g_X8_25 : FG RX8 25 8 9 := ⟨RX8, TX8, 46, "NuggetCampModel", rfl, inA_RX8, by decide, Or.inl ⟨(q4 145 rfl rfl), Or.inl rfl⟩⟩
theorem g_X8_29 : FG RX8 29 8 10 := ⟨RX8, TX8, 46, "NuggetCampModel", rfl, inA_RX8, by decide, Or.inl ⟨(q4 146 rfl rfl), Or.inl rfl⟩⟩
theorem g_X8_32 : FG RX8 32 8 11 := ⟨RX8, TX8, 46, "NuggetCampModel", rfl, inA_RX8, by decide, Or.inl ⟨(q4 147 rfl rfl), Or.inl rfl⟩⟩
theorem g_X8_35 : FG RX8 35 8 13 := ⟨RX8, TX8, 46, "NuggetCampModel", rfl, inA_RX8, by decide, Or.inl ⟨(q4 149 rfl rfl), Or.inl rfl⟩⟩
theorem g_X8_38 : FG RX8 38 8 14 := ⟨RX8, TX8, 46, "NuggetCampModel", rfl, inA_RX8, by decide, Or.inl ⟨(q4 150 rfl rfl), Or.inl rfl⟩⟩
theorem g_X8_41 : FG RX8 41 8 15 := ⟨RX8, TX8, 46, "NuggetCampModel", rfl, inA_RX8, by decide, Or.inl ⟨(q4 151 rfl rfl), Or.inl rfl⟩⟩
theorem g_X8_44 : FG RX8 44 8 16 := ⟨RX8, TX8, 46, "NuggetCampModel", rfl, inA_RX8, by decide, Or.inl ⟨(q4 152 rfl rfl), Or.inl rfl⟩⟩
theorem g_X8_47 : FG RX8 47 8 17 := ⟨RX8, TX8, 46, "NuggetCampModel", rfl, inA_RX8, by decide, Or.inl ⟨(q4 153 rfl rfl), Or.inl rfl⟩⟩
theorem g_X8_50 : FG RX8 50 8 18 := ⟨RX8, TX8, 46, "NuggetCampModel", rfl, inA_RX8, by decide, Or.inl ⟨(q4 154 rfl rfl), Or.inl rfl⟩⟩
theorem g_X8_53 : FG RX8 53 8 19 := ⟨RX8, TX8, 46, "NuggetCampModel", rfl, inA_RX8, by decide, Or.inl ⟨(q4 155 rfl rfl), Or.inl rfl⟩⟩
theorem g_X8_56 : FG RX8 56 8 20 := ⟨RX8, TX8, 46, "NuggetCampModel", rfl, inA_RX8, by decide, Or.inl ⟨(q4 156 rfl rfl), Or.inl rfl⟩⟩
theorem g_X8_59 : FG RX8 59 8 22 := ⟨RX8, TX8, 46, "NuggetCampModel", rfl, inA_RX8, by decide, Or.inl ⟨(q4 158 rfl rfl), Or.inl rfl⟩⟩
theorem g_X8_62 : FG RX8 62 8 23 := ⟨RX8, TX8, 46, "NuggetCampModel", rfl, inA_RX8, by decide, Or.inl ⟨(q4 159 rfl rfl), Or.inl rfl⟩⟩
theorem g_X8_65 : FG RX8 65 8 24 := ⟨RX8, TX8, 46, "NuggetCampModel", rfl, inA_RX8, by decide, Or.inl ⟨(q4 160 rfl rfl), Or.inl rfl⟩⟩
theorem g_X8_68 : FG RX8 68 8 25 := ⟨RX8, TX8, 46, "NuggetCampModel", rfl, inA_RX8, by decide, Or.inl ⟨(q4 161 rfl rfl), Or.inl rfl⟩⟩
theorem g_X8_72 : FG RX8 72 8 26 := ⟨RX8, TX8, 46, "NuggetCampModel", rfl, inA_RX8, by decide, Or.inl ⟨(q4 162 rfl rfl), Or.inl rfl⟩⟩
theorem g_X8_75 : FG RX8 75 8 27 := ⟨RX8, TX8, 46, "NuggetCampModel", rfl, inA_RX8, by decide, Or.inl ⟨(q4 163 rfl rfl), Or.inl rfl⟩⟩
theorem g_X8_78 : FG RX8 78 8 28 := ⟨RX8, TX8, 46, "NuggetCampModel", rfl, inA_RX8, by decide, Or.inl ⟨(q4 164 rfl rfl), Or.inl rfl⟩⟩
theorem g_X8_81 : FG RX8 81 8 29 := ⟨RX8, TX8, 46, "NuggetCampModel", rfl, inA_RX8, by decide, Or.inl ⟨(q4 165 rfl rfl), Or.inl rfl⟩⟩
theorem g_X8_84 : FG RX8 84 8 30 := ⟨RX8, TX8, 46, "NuggetCampModel", rfl, inA_RX8, by decide, Or.inl ⟨(q4 166 rfl rfl), Or.inl rfl⟩⟩
theorem g_X8_87 : FG RX8 87 8 31 := ⟨RX8, TX8, 46, "NuggetCampModel", rfl, inA_RX8, by decide, Or.inl ⟨(q4 167 rfl rfl), Or.inl rfl⟩⟩
theorem g_X8_90 : FG RX8 90 8 32 := ⟨RX8, TX8, 46, "NuggetCampModel", rfl, inA_RX8, by decide, Or.inl ⟨(q4 168 rfl rfl), Or.inl rfl⟩⟩
theorem g_X8_93 : FG RX8 93 8 34 := ⟨RX8, TX8, 46, "NuggetCampModel", rfl, inA_RX8, by decide, Or.inl ⟨(q4 170 rfl rfl), Or.inl rfl⟩⟩
theorem g_X8_96 : FG RX8 96 8 35 := ⟨RX8, TX8, 46, "NuggetCampModel", rfl, inA_RX8, by decide, Or.inl ⟨(q4 171 rfl rfl), Or.inl rfl⟩⟩
theorem g_X8_99 : FG RX8 99 8 37 := ⟨RX8, TX8, 46, "NuggetCampModel", rfl, inA_RX8, by decide, Or.inl ⟨(q4 173 rfl rfl), Or.inl rfl⟩⟩
theorem g_X8_102 : FG RX8 102 8 38 := ⟨RX8, TX8, 46, "NuggetCampModel", rfl, inA_RX8, by decide, Or.inl ⟨(q4 174 rfl rfl), Or.inl rfl⟩⟩
theorem g_X8_105 : FG RX8 105 8 40 := ⟨RX8, TX8, 46, "NuggetCampModel", rfl, inA_RX8, by decide, Or.inl ⟨(q4 176 rfl rfl), Or.inl rfl⟩⟩
theorem g_X8_108 : FG RX8 108 8 41 := ⟨RX8, TX8, 46, "NuggetCampModel", rfl, inA_RX8, by decide, Or.inl ⟨(q4 177 rfl rfl), Or.inl rfl⟩⟩
theorem g_X8_111 : FG RX8 111 8 42 := ⟨RX8, TX8, 46, "NuggetCampModel", rfl, inA_RX8, by decide, Or.inl ⟨(q4 178 rfl rfl), Or.inl rfl⟩⟩
theorem g_X8_114 : FG RX8 114 8 43 := ⟨RX8, TX8, 46, "NuggetCampModel", rfl, inA_RX8, by decide, Or.inl ⟨(q4 179 rfl rfl), Or.inl rfl⟩⟩
theorem g_X8_117 : FG RX8 117 8 44 := ⟨RX8, TX8, 46, "NuggetCampModel", rfl, inA_RX8, by decide, Or.inl ⟨(q4 180 rfl rfl), Or.inl rfl⟩⟩
theorem g_X8_120 : FG RX8 120 8 45 := ⟨RX8, TX8, 46, "NuggetCampModel", rfl, inA_RX8, by decide, Or.inl ⟨(q4 181 rfl rfl), Or.inl rfl⟩⟩
theorem g_X8_127 : FG RX8 127 8 12 := ⟨RX8, TX8, 46, "NuggetCampModel", rfl, inA_RX8, by decide, Or.inl ⟨(q4 148 rfl rfl), Or.inl rfl⟩⟩
theorem g_X8_130 : FG RX8 130 8 21 := ⟨RX8, TX8, 46, "NuggetCampModel", rfl, inA_RX8, by decide, Or.inl ⟨(q4 157 rfl rfl), Or.inl rfl⟩⟩
theorem g_X8_138 : FG RX8 138 8 0 := ⟨RX8, TX8, 46, "NuggetCampModel", rfl, inA_RX8, by decide, Or.inl ⟨(q4 136 rfl rfl), Or.inl rfl⟩⟩
theorem g_X8_141 : FG RX8 141 8 8 := ⟨RX8, TX8, 46, "NuggetCampModel", rfl, inA_RX8, by decide, Or.inl ⟨(q4 144 rfl rfl), Or.inl rfl⟩⟩
theorem g_X8_152 : FG RX8 152 8 36 := ⟨RX8, TX8, 46, "NuggetCampModel", rfl, inA_RX8, by decide, Or.inl ⟨(q4 172 rfl rfl), Or.inl rfl⟩⟩
theorem g_X8_183 : FG RX8 183 8 33 := ⟨RX8, TX8, 46, "NuggetCampModel", rfl, inA_RX8, by decide, Or.inl ⟨(q4 169 rfl rfl), Or.inl rfl⟩⟩
theorem g_X8_208 : FG RX8 208 8 6 := ⟨RX8, TX8, 46, "NuggetCampModel", rfl, inA_RX8, by decide, Or.inl ⟨(q4 142 rfl rfl), Or.inl rfl⟩⟩
theorem g_X8_215 : FG RX8 215 8 39 := ⟨RX8, TX8, 46, "NuggetCampModel", rfl, inA_RX8, by decide, Or.inl ⟨(q4 175 rfl rfl), Or.inl rfl⟩⟩
theorem g_X8_219 : FG RX8 219 8 7 := ⟨RX8, TX8, 46, "NuggetCampModel", rfl, inA_RX8, by decide, Or.inl ⟨(q4 143 rfl rfl), Or.inl rfl⟩⟩
theorem L_X8_1 : Cond.methodLink RX8 1 objectInit ∈ wA := (q4 135 rfl rfl)
theorem L_X8_123 : LkS RX8 123 yX8_isIn cX8_isIn 3 (Option.some Jvm.ClassFile.FieldType.boolean) 3 := ⟨⟨(q1 8 rfl rfl), (q5 47 rfl rfl), by decide, by decide, by decide +kernel⟩, (q5 45 rfl rfl), (q5 46 rfl rfl)⟩
theorem L_X8_134 : LkS RX8 134 yX8_isCell cX8_isCell 1 (Option.some Jvm.ClassFile.FieldType.boolean) 1 := ⟨⟨(q1 8 rfl rfl), (q5 50 rfl rfl), by decide, by decide, by decide +kernel⟩, (q5 48 rfl rfl), (q5 49 rfl rfl)⟩
theorem L_X8_148 : LkS RX8 148 yX8_lesser cX8_lesser 2 (Option.some Jvm.ClassFile.FieldType.int) 2 := ⟨⟨(q1 8 rfl rfl), (q5 81 rfl rfl), by decide, by decide, by decide +kernel⟩, (q5 79 rfl rfl), (q5 80 rfl rfl)⟩
theorem L_X8_189 : LkS RX8 189 yX8_isMethod cX8_isMethod 1 (Option.some Jvm.ClassFile.FieldType.boolean) 1 := ⟨⟨(q1 8 rfl rfl), (q5 120 rfl rfl), by decide, by decide, by decide +kernel⟩, (q5 118 rfl rfl), (q5 119 rfl rfl)⟩
theorem L_X8_198 : LkS RX8 198 yX8_needed cX8_needed 1 (Option.some Jvm.ClassFile.FieldType.int) 1 := ⟨⟨(q1 8 rfl rfl), (q5 135 rfl rfl), by decide, by decide, by decide +kernel⟩, (q5 133 rfl rfl), (q5 134 rfl rfl)⟩
theorem L_X8_201 : LkS RX8 201 yX8_takes cX8_takes 2 (Option.some Jvm.ClassFile.FieldType.int) 2 := ⟨⟨(q1 8 rfl rfl), (q5 138 rfl rfl), by decide, by decide, by decide +kernel⟩, (q5 136 rfl rfl), (q5 137 rfl rfl)⟩
theorem L_X8_204 : LkS RX8 204 yX8_recovers cX8_recovers 5 (Option.some Jvm.ClassFile.FieldType.int) 3 := ⟨⟨(q1 8 rfl rfl), (q5 141 rfl rfl), by decide, by decide, by decide +kernel⟩, (q5 139 rfl rfl), (q5 140 rfl rfl)⟩
theorem L_X8_242 : LkS RX8 242 yX8_orders cX8_orders 3 (Option.some Jvm.ClassFile.FieldType.int) 1 := ⟨⟨(q1 8 rfl rfl), (q6 26 rfl rfl), by decide, by decide, by decide +kernel⟩, (q6 24 rfl rfl), (q6 25 rfl rfl)⟩
theorem L_X8_145 : LkV RX8 145 yX8_holdsTo cX8_holdsTo 2 (Option.some Jvm.ClassFile.FieldType.boolean) 1 := ⟨⟨(q1 8 rfl rfl), (q5 54 rfl rfl), by decide, by decide, by decide +kernel⟩, (q5 51 rfl rfl), (q5 53 rfl rfl), (qs2 3 rfl)⟩
theorem L_X8_155 : LkV RX8 155 yX8_isDead cX8_isDead 2 (Option.some Jvm.ClassFile.FieldType.boolean) 1 := ⟨⟨(q1 8 rfl rfl), (q5 74 rfl rfl), by decide, by decide, by decide +kernel⟩, (q5 71 rfl rfl), (q5 73 rfl rfl), (qs2 5 rfl)⟩
theorem L_X8_158 : LkV RX8 158 yX8_eats cX8_eats 2 (Option.none : Option Jvm.ClassFile.FieldType) 1 := ⟨⟨(q1 8 rfl rfl), (q5 78 rfl rfl), by decide, by decide, by decide +kernel⟩, (q5 75 rfl rfl), (q5 77 rfl rfl), (qs2 6 rfl)⟩
theorem L_X8_162 : LkV RX8 162 yX8_arrives cX8_arrives 3 (Option.none : Option Jvm.ClassFile.FieldType) 0 := ⟨⟨(q1 8 rfl rfl), (q5 85 rfl rfl), by decide, by decide, by decide +kernel⟩, (q5 82 rfl rfl), (q5 84 rfl rfl), (qs2 7 rfl)⟩
theorem L_X8_165 : LkV RX8 165 yX8_goesBy cX8_goesBy 3 (Option.none : Option Jvm.ClassFile.FieldType) 0 := ⟨⟨(q1 8 rfl rfl), (q5 70 rfl rfl), by decide, by decide, by decide +kernel⟩, (q5 67 rfl rfl), (q5 69 rfl rfl), (qs2 4 rfl)⟩
theorem L_X8_168 : LkV RX8 168 yX8_living cX8_living 3 (Option.some Jvm.ClassFile.FieldType.int) 0 := ⟨⟨(q1 8 rfl rfl), (q5 93 rfl rfl), by decide, by decide, by decide +kernel⟩, (q5 90 rfl rfl), (q5 92 rfl rfl), (qs2 8 rfl)⟩
theorem L_X8_172 : LkV RX8 172 yX8_heldAt cX8_heldAt 4 (Option.some Jvm.ClassFile.FieldType.int) 1 := ⟨⟨(q1 8 rfl rfl), (q5 109 rfl rfl), by decide, by decide, by decide +kernel⟩, (q5 106 rfl rfl), (q5 108 rfl rfl), (qs2 11 rfl)⟩
theorem L_X8_176 : LkV RX8 176 yX8_isMiner cX8_isMiner 2 (Option.some Jvm.ClassFile.FieldType.boolean) 1 := ⟨⟨(q1 8 rfl rfl), (q5 101 rfl rfl), by decide, by decide, by decide +kernel⟩, (q5 98 rfl rfl), (q5 100 rfl rfl), (qs2 9 rfl)⟩
theorem L_X8_179 : LkV RX8 179 yX8_areFree cX8_areFree 5 (Option.some Jvm.ClassFile.FieldType.boolean) 2 := ⟨⟨(q1 8 rfl rfl), (q5 105 rfl rfl), by decide, by decide, by decide +kernel⟩, (q5 102 rfl rfl), (q5 104 rfl rfl), (qs2 10 rfl)⟩
theorem L_X8_186 : LkV RX8 186 yX8_getsOf cX8_getsOf 5 (Option.some Jvm.ClassFile.FieldType.int) 1 := ⟨⟨(q1 8 rfl rfl), (q5 132 rfl rfl), by decide, by decide, by decide +kernel⟩, (q5 129 rfl rfl), (q5 131 rfl rfl), (qs2 14 rfl)⟩
theorem L_X8_192 : LkV RX8 192 yX8_mayWork cX8_mayWork 5 (Option.some Jvm.ClassFile.FieldType.boolean) 3 := ⟨⟨(q1 8 rfl rfl), (q5 124 rfl rfl), by decide, by decide, by decide +kernel⟩, (q5 121 rfl rfl), (q5 123 rfl rfl), (qs2 12 rfl)⟩
theorem L_X8_195 : LkV RX8 195 yX8_inchesOf cX8_inchesOf 4 (Option.some Jvm.ClassFile.FieldType.int) 1 := ⟨⟨(q1 8 rfl rfl), (q5 128 rfl rfl), by decide, by decide, by decide +kernel⟩, (q5 125 rfl rfl), (q5 127 rfl rfl), (qs2 13 rfl)⟩
theorem L_X8_211 : LkV RX8 211 yX8_shares cX8_shares 6 (Option.none : Option Jvm.ClassFile.FieldType) 2 := ⟨⟨(q1 8 rfl rfl), (q5 145 rfl rfl), by decide, by decide, by decide +kernel⟩, (q5 142 rfl rfl), (q5 144 rfl rfl), (qs2 15 rfl)⟩
theorem L_X8_224 : LkV RX8 224 yX8_price cX8_price 1 (Option.some Jvm.ClassFile.FieldType.int) 0 := ⟨⟨(q1 8 rfl rfl), (q5 179 rfl rfl), by decide, by decide, by decide +kernel⟩, (q5 176 rfl rfl), (q5 178 rfl rfl), (qs3 0 rfl)⟩
theorem L_X8_227 : LkV RX8 227 yX8_backed cX8_backed 4 (Option.some Jvm.ClassFile.FieldType.int) 1 := ⟨⟨(q1 8 rfl rfl), (q5 187 rfl rfl), by decide, by decide, by decide +kernel⟩, (q5 184 rfl rfl), (q5 186 rfl rfl), (qs3 1 rfl)⟩
theorem L_X8_230 : LkV RX8 230 yX8_isClaim cX8_isClaim 2 (Option.some Jvm.ClassFile.FieldType.boolean) 1 := ⟨⟨(q1 8 rfl rfl), (q5 199 rfl rfl), by decide, by decide, by decide +kernel⟩, (q5 196 rfl rfl), (q5 198 rfl rfl), (qs3 2 rfl)⟩
theorem L_X8_233 : LkV RX8 233 yX8_isSalted cX8_isSalted 5 (Option.some Jvm.ClassFile.FieldType.boolean) 1 := ⟨⟨(q1 8 rfl rfl), (q5 207 rfl rfl), by decide, by decide, by decide +kernel⟩, (q5 204 rfl rfl), (q5 206 rfl rfl), (qs3 3 rfl)⟩
theorem L_X8_236 : LkV RX8 236 yX8_inGround cX8_inGround 3 (Option.some Jvm.ClassFile.FieldType.int) 0 := ⟨⟨(q1 8 rfl rfl), (q5 239 rfl rfl), by decide, by decide, by decide +kernel⟩, (q5 236 rfl rfl), (q5 238 rfl rfl), (qs3 4 rfl)⟩
theorem L_X8_239 : LkV RX8 239 yX8_withMiners cX8_withMiners 3 (Option.some Jvm.ClassFile.FieldType.int) 0 := ⟨⟨(q1 8 rfl rfl), (q6 3 rfl rfl), by decide, by decide, by decide +kernel⟩, (q6 0 rfl rfl), (q6 2 rfl rfl), (qs3 5 rfl)⟩
theorem L_X8_245 : LkV RX8 245 yX8_laysOrder cX8_laysOrder 9 (Option.none : Option Jvm.ClassFile.FieldType) 2 := ⟨⟨(q1 8 rfl rfl), (q6 30 rfl rfl), by decide, by decide, by decide +kernel⟩, (q6 27 rfl rfl), (q6 29 rfl rfl), (qs3 8 rfl)⟩
theorem L_X8_248 : LkV RX8 248 yX8_digs cX8_digs 9 (Option.some Jvm.ClassFile.FieldType.int) 2 := ⟨⟨(q1 8 rfl rfl), (q6 34 rfl rfl), by decide, by decide, by decide +kernel⟩, (q6 31 rfl rfl), (q6 33 rfl rfl), (qs3 9 rfl)⟩
theorem L_X8_251 : LkV RX8 251 yX8_asksPlan cX8_asksPlan 5 (Option.some Jvm.ClassFile.FieldType.boolean) 3 := ⟨⟨(q1 8 rfl rfl), (q6 19 rfl rfl), by decide, by decide, by decide +kernel⟩, (q6 16 rfl rfl), (q6 18 rfl rfl), (qs3 6 rfl)⟩
theorem L_X8_255 : LkV RX8 255 yX8_bestOrder cX8_bestOrder 7 (Option.some Jvm.ClassFile.FieldType.int) 2 := ⟨⟨(q1 8 rfl rfl), (q6 23 rfl rfl), by decide, by decide, by decide +kernel⟩, (q6 20 rfl rfl), (q6 22 rfl rfl), (qs3 7 rfl)⟩
theorem N_X8_133 : Cond.constant RX8 133 100000 ∈ wA := (q5 44 rfl rfl)
theorem N_X8_218 : Cond.constant RX8 218 1000000 ∈ wA := (q5 162 rfl rfl)
theorem N_X8_222 : Cond.constantLong RX8 222 10 ∈ wA := (q5 163 rfl rfl)
theorem f_X8_7 : FL RX8 7 8 1 (.int) false := ⟨RX8, TX8, 46, "NuggetCampModel", tyX8, rfl, inA_RX8, by decide, Or.inl ⟨(q4 137 rfl rfl), Or.inl rfl⟩, tyX8_ok, nmX8, rfl, rfl, fun h => absurd h (by decide)⟩
theorem f_X8_13 : FL RX8 13 8 2 (.int) false := ⟨RX8, TX8, 46, "NuggetCampModel", tyX8, rfl, inA_RX8, by decide, Or.inl ⟨(q4 138 rfl rfl), Or.inl rfl⟩, tyX8_ok, nmX8, rfl, rfl, fun h => absurd h (by decide)⟩
theorem f_X8_16 : FL RX8 16 8 3 (.int) false := ⟨RX8, TX8, 46, "NuggetCampModel", tyX8, rfl, inA_RX8, by decide, Or.inl ⟨(q4 139 rfl rfl), Or.inl rfl⟩, tyX8_ok, nmX8, rfl, rfl, fun h => absurd h (by decide)⟩
theorem f_X8_19 : FL RX8 19 8 4 (.int) false := ⟨RX8, TX8, 46, "NuggetCampModel", tyX8, rfl, inA_RX8, by decide, Or.inl ⟨(q4 140 rfl rfl), Or.inl rfl⟩, tyX8_ok, nmX8, rfl, rfl, fun h => absurd h (by decide)⟩
theorem f_X8_22 : FL RX8 22 8 5 (.int) false := ⟨RX8, TX8, 46, "NuggetCampModel", tyX8, rfl, inA_RX8, by decide, Or.inl ⟨(q4 141 rfl rfl), Or.inl rfl⟩, tyX8_ok, nmX8, rfl, rfl, fun h => absurd h (by decide)⟩
theorem f_X8_25 : FL RX8 25 8 9 (.array .int) true := ⟨RX8, TX8, 46, "NuggetCampModel", tyX8, rfl, inA_RX8, by decide, Or.inl ⟨(q4 145 rfl rfl), Or.inl rfl⟩, tyX8_ok, nmX8, rfl, rfl, fun _ => rfl⟩
theorem f_X8_29 : FL RX8 29 8 10 (.array .int) true := ⟨RX8, TX8, 46, "NuggetCampModel", tyX8, rfl, inA_RX8, by decide, Or.inl ⟨(q4 146 rfl rfl), Or.inl rfl⟩, tyX8_ok, nmX8, rfl, rfl, fun _ => rfl⟩
theorem f_X8_32 : FL RX8 32 8 11 (.array .int) true := ⟨RX8, TX8, 46, "NuggetCampModel", tyX8, rfl, inA_RX8, by decide, Or.inl ⟨(q4 147 rfl rfl), Or.inl rfl⟩, tyX8_ok, nmX8, rfl, rfl, fun _ => rfl⟩
theorem f_X8_35 : FL RX8 35 8 13 (.array .int) true := ⟨RX8, TX8, 46, "NuggetCampModel", tyX8, rfl, inA_RX8, by decide, Or.inl ⟨(q4 149 rfl rfl), Or.inl rfl⟩, tyX8_ok, nmX8, rfl, rfl, fun _ => rfl⟩
theorem f_X8_38 : FL RX8 38 8 14 (.array .int) true := ⟨RX8, TX8, 46, "NuggetCampModel", tyX8, rfl, inA_RX8, by decide, Or.inl ⟨(q4 150 rfl rfl), Or.inl rfl⟩, tyX8_ok, nmX8, rfl, rfl, fun _ => rfl⟩
theorem f_X8_41 : FL RX8 41 8 15 (.array .int) true := ⟨RX8, TX8, 46, "NuggetCampModel", tyX8, rfl, inA_RX8, by decide, Or.inl ⟨(q4 151 rfl rfl), Or.inl rfl⟩, tyX8_ok, nmX8, rfl, rfl, fun _ => rfl⟩
theorem f_X8_44 : FL RX8 44 8 16 (.array .int) true := ⟨RX8, TX8, 46, "NuggetCampModel", tyX8, rfl, inA_RX8, by decide, Or.inl ⟨(q4 152 rfl rfl), Or.inl rfl⟩, tyX8_ok, nmX8, rfl, rfl, fun _ => rfl⟩
theorem f_X8_47 : FL RX8 47 8 17 (.array .int) true := ⟨RX8, TX8, 46, "NuggetCampModel", tyX8, rfl, inA_RX8, by decide, Or.inl ⟨(q4 153 rfl rfl), Or.inl rfl⟩, tyX8_ok, nmX8, rfl, rfl, fun _ => rfl⟩
theorem f_X8_50 : FL RX8 50 8 18 (.array .int) true := ⟨RX8, TX8, 46, "NuggetCampModel", tyX8, rfl, inA_RX8, by decide, Or.inl ⟨(q4 154 rfl rfl), Or.inl rfl⟩, tyX8_ok, nmX8, rfl, rfl, fun _ => rfl⟩
theorem f_X8_53 : FL RX8 53 8 19 (.array .int) true := ⟨RX8, TX8, 46, "NuggetCampModel", tyX8, rfl, inA_RX8, by decide, Or.inl ⟨(q4 155 rfl rfl), Or.inl rfl⟩, tyX8_ok, nmX8, rfl, rfl, fun _ => rfl⟩
theorem f_X8_56 : FL RX8 56 8 20 (.array .int) true := ⟨RX8, TX8, 46, "NuggetCampModel", tyX8, rfl, inA_RX8, by decide, Or.inl ⟨(q4 156 rfl rfl), Or.inl rfl⟩, tyX8_ok, nmX8, rfl, rfl, fun _ => rfl⟩
theorem f_X8_59 : FL RX8 59 8 22 (.array .int) true := ⟨RX8, TX8, 46, "NuggetCampModel", tyX8, rfl, inA_RX8, by decide, Or.inl ⟨(q4 158 rfl rfl), Or.inl rfl⟩, tyX8_ok, nmX8, rfl, rfl, fun _ => rfl⟩
theorem f_X8_62 : FL RX8 62 8 23 (.array .int) true := ⟨RX8, TX8, 46, "NuggetCampModel", tyX8, rfl, inA_RX8, by decide, Or.inl ⟨(q4 159 rfl rfl), Or.inl rfl⟩, tyX8_ok, nmX8, rfl, rfl, fun _ => rfl⟩
theorem f_X8_65 : FL RX8 65 8 24 (.array .int) true := ⟨RX8, TX8, 46, "NuggetCampModel", tyX8, rfl, inA_RX8, by decide, Or.inl ⟨(q4 160 rfl rfl), Or.inl rfl⟩, tyX8_ok, nmX8, rfl, rfl, fun _ => rfl⟩
theorem f_X8_68 : FL RX8 68 8 25 (.array .boolean) true := ⟨RX8, TX8, 46, "NuggetCampModel", tyX8, rfl, inA_RX8, by decide, Or.inl ⟨(q4 161 rfl rfl), Or.inl rfl⟩, tyX8_ok, nmX8, rfl, rfl, fun _ => rfl⟩
theorem f_X8_72 : FL RX8 72 8 26 (.array .int) true := ⟨RX8, TX8, 46, "NuggetCampModel", tyX8, rfl, inA_RX8, by decide, Or.inl ⟨(q4 162 rfl rfl), Or.inl rfl⟩, tyX8_ok, nmX8, rfl, rfl, fun _ => rfl⟩
theorem f_X8_75 : FL RX8 75 8 27 (.array .int) true := ⟨RX8, TX8, 46, "NuggetCampModel", tyX8, rfl, inA_RX8, by decide, Or.inl ⟨(q4 163 rfl rfl), Or.inl rfl⟩, tyX8_ok, nmX8, rfl, rfl, fun _ => rfl⟩
theorem f_X8_78 : FL RX8 78 8 28 (.array .boolean) true := ⟨RX8, TX8, 46, "NuggetCampModel", tyX8, rfl, inA_RX8, by decide, Or.inl ⟨(q4 164 rfl rfl), Or.inl rfl⟩, tyX8_ok, nmX8, rfl, rfl, fun _ => rfl⟩
theorem f_X8_81 : FL RX8 81 8 29 (.array .int) true := ⟨RX8, TX8, 46, "NuggetCampModel", tyX8, rfl, inA_RX8, by decide, Or.inl ⟨(q4 165 rfl rfl), Or.inl rfl⟩, tyX8_ok, nmX8, rfl, rfl, fun _ => rfl⟩
theorem f_X8_84 : FL RX8 84 8 30 (.array .int) true := ⟨RX8, TX8, 46, "NuggetCampModel", tyX8, rfl, inA_RX8, by decide, Or.inl ⟨(q4 166 rfl rfl), Or.inl rfl⟩, tyX8_ok, nmX8, rfl, rfl, fun _ => rfl⟩
theorem f_X8_87 : FL RX8 87 8 31 (.array .int) true := ⟨RX8, TX8, 46, "NuggetCampModel", tyX8, rfl, inA_RX8, by decide, Or.inl ⟨(q4 167 rfl rfl), Or.inl rfl⟩, tyX8_ok, nmX8, rfl, rfl, fun _ => rfl⟩
theorem f_X8_90 : FL RX8 90 8 32 (.array .int) true := ⟨RX8, TX8, 46, "NuggetCampModel", tyX8, rfl, inA_RX8, by decide, Or.inl ⟨(q4 168 rfl rfl), Or.inl rfl⟩, tyX8_ok, nmX8, rfl, rfl, fun _ => rfl⟩
theorem f_X8_93 : FL RX8 93 8 34 (.array .int) true := ⟨RX8, TX8, 46, "NuggetCampModel", tyX8, rfl, inA_RX8, by decide, Or.inl ⟨(q4 170 rfl rfl), Or.inl rfl⟩, tyX8_ok, nmX8, rfl, rfl, fun _ => rfl⟩
theorem f_X8_96 : FL RX8 96 8 35 (.array .int) true := ⟨RX8, TX8, 46, "NuggetCampModel", tyX8, rfl, inA_RX8, by decide, Or.inl ⟨(q4 171 rfl rfl), Or.inl rfl⟩, tyX8_ok, nmX8, rfl, rfl, fun _ => rfl⟩
theorem f_X8_99 : FL RX8 99 8 37 (.array .int) true := ⟨RX8, TX8, 46, "NuggetCampModel", tyX8, rfl, inA_RX8, by decide, Or.inl ⟨(q4 173 rfl rfl), Or.inl rfl⟩, tyX8_ok, nmX8, rfl, rfl, fun _ => rfl⟩
theorem f_X8_102 : FL RX8 102 8 38 (.array .int) true := ⟨RX8, TX8, 46, "NuggetCampModel", tyX8, rfl, inA_RX8, by decide, Or.inl ⟨(q4 174 rfl rfl), Or.inl rfl⟩, tyX8_ok, nmX8, rfl, rfl, fun _ => rfl⟩
theorem f_X8_105 : FL RX8 105 8 40 (.array .int) true := ⟨RX8, TX8, 46, "NuggetCampModel", tyX8, rfl, inA_RX8, by decide, Or.inl ⟨(q4 176 rfl rfl), Or.inl rfl⟩, tyX8_ok, nmX8, rfl, rfl, fun _ => rfl⟩
theorem f_X8_108 : FL RX8 108 8 41 (.array .int) true := ⟨RX8, TX8, 46, "NuggetCampModel", tyX8, rfl, inA_RX8, by decide, Or.inl ⟨(q4 177 rfl rfl), Or.inl rfl⟩, tyX8_ok, nmX8, rfl, rfl, fun _ => rfl⟩
theorem f_X8_111 : FL RX8 111 8 42 (.array .int) true := ⟨RX8, TX8, 46, "NuggetCampModel", tyX8, rfl, inA_RX8, by decide, Or.inl ⟨(q4 178 rfl rfl), Or.inl rfl⟩, tyX8_ok, nmX8, rfl, rfl, fun _ => rfl⟩
theorem f_X8_114 : FL RX8 114 8 43 (.array .int) true := ⟨RX8, TX8, 46, "NuggetCampModel", tyX8, rfl, inA_RX8, by decide, Or.inl ⟨(q4 179 rfl rfl), Or.inl rfl⟩, tyX8_ok, nmX8, rfl, rfl, fun _ => rfl⟩
theorem f_X8_117 : FL RX8 117 8 44 (.array .int) true := ⟨RX8, TX8, 46, "NuggetCampModel", tyX8, rfl, inA_RX8, by decide, Or.inl ⟨(q4 180 rfl rfl), Or.inl rfl⟩, tyX8_ok, nmX8, rfl, rfl, fun _ => rfl⟩
theorem f_X8_120 : FL RX8 120 8 45 (.int) false := ⟨RX8, TX8, 46, "NuggetCampModel", tyX8, rfl, inA_RX8, by decide, Or.inl ⟨(q4 181 rfl rfl), Or.inl rfl⟩, tyX8_ok, nmX8, rfl, rfl, fun h => absurd h (by decide)⟩
theorem f_X8_127 : FL RX8 127 8 12 (.int) false := ⟨RX8, TX8, 46, "NuggetCampModel", tyX8, rfl, inA_RX8, by decide, Or.inl ⟨(q4 148 rfl rfl), Or.inl rfl⟩, tyX8_ok, nmX8, rfl, rfl, fun h => absurd h (by decide)⟩
theorem f_X8_130 : FL RX8 130 8 21 (.int) false := ⟨RX8, TX8, 46, "NuggetCampModel", tyX8, rfl, inA_RX8, by decide, Or.inl ⟨(q4 157 rfl rfl), Or.inl rfl⟩, tyX8_ok, nmX8, rfl, rfl, fun h => absurd h (by decide)⟩
theorem f_X8_138 : FL RX8 138 8 0 (.int) false := ⟨RX8, TX8, 46, "NuggetCampModel", tyX8, rfl, inA_RX8, by decide, Or.inl ⟨(q4 136 rfl rfl), Or.inl rfl⟩, tyX8_ok, nmX8, rfl, rfl, fun h => absurd h (by decide)⟩
theorem f_X8_141 : FL RX8 141 8 8 (.boolean) false := ⟨RX8, TX8, 46, "NuggetCampModel", tyX8, rfl, inA_RX8, by decide, Or.inl ⟨(q4 144 rfl rfl), Or.inl rfl⟩, tyX8_ok, nmX8, rfl, rfl, fun h => absurd h (by decide)⟩
theorem f_X8_152 : FL RX8 152 8 36 (.int) false := ⟨RX8, TX8, 46, "NuggetCampModel", tyX8, rfl, inA_RX8, by decide, Or.inl ⟨(q4 172 rfl rfl), Or.inl rfl⟩, tyX8_ok, nmX8, rfl, rfl, fun h => absurd h (by decide)⟩
theorem f_X8_183 : FL RX8 183 8 33 (.int) false := ⟨RX8, TX8, 46, "NuggetCampModel", tyX8, rfl, inA_RX8, by decide, Or.inl ⟨(q4 169 rfl rfl), Or.inl rfl⟩, tyX8_ok, nmX8, rfl, rfl, fun h => absurd h (by decide)⟩
theorem f_X8_208 : FL RX8 208 8 6 (.int) false := ⟨RX8, TX8, 46, "NuggetCampModel", tyX8, rfl, inA_RX8, by decide, Or.inl ⟨(q4 142 rfl rfl), Or.inl rfl⟩, tyX8_ok, nmX8, rfl, rfl, fun h => absurd h (by decide)⟩
theorem f_X8_215 : FL RX8 215 8 39 (.int) false := ⟨RX8, TX8, 46, "NuggetCampModel", tyX8, rfl, inA_RX8, by decide, Or.inl ⟨(q4 175 rfl rfl), Or.inl rfl⟩, tyX8_ok, nmX8, rfl, rfl, fun h => absurd h (by decide)⟩
theorem f_X8_219 : FL RX8 219 8 7 (.int) false := ⟨RX8, TX8, 46, "NuggetCampModel", tyX8, rfl, inA_RX8, by decide, Or.inl ⟨(q4 143 rfl rfl), Or.inl rfl⟩, tyX8_ok, nmX8, rfl, rfl, fun h => absurd h (by decide)⟩
end
