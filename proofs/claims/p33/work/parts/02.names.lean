def RX0 : String := "NuggetCamp$Claim"
def TX0 : u_T := fun k => match k with
  | 0 => ("NuggetCamp$Claim", "top", "I", true)
  | 1 => ("NuggetCamp$Claim", "many", "I", true)
  | 2 => ("NuggetCamp$Claim", "daysOfWork", "I", true)
  | 3 => ("NuggetCamp$Claim", "owner", "I", false)
  | 4 => ("NuggetCamp$Claim", "workedOn", "I", false)
  | 5 => ("NuggetCamp$Claim", "held", "Z", false)
  | 6 => ("NuggetCamp$Claim", "seller", "I", false)
  | 7 => ("NuggetCamp$Claim", "soldOn", "I", false)
  | 8 => ("NuggetCamp$Claim", "soldFor", "I", false)
  | 9 => ("NuggetCamp$Claim", "soldSalted", "Z", false)
  | _ => ("NuggetCamp$Claim", "suitBrought", "Z", false)
def tyX0 : Nat → FieldType := fun k => match k with
  | 0 => .int
  | 1 => .int
  | 2 => .int
  | 3 => .int
  | 4 => .int
  | 5 => .boolean
  | 6 => .int
  | 7 => .int
  | 8 => .int
  | 9 => .boolean
  | _ => .boolean
abbrev wsX00 : List Cond := u_ws RX0 TX0 11
theorem nmX0 : ∀ a, a < 11 → ∀ b, b < 11 → a ≠ b → (TX0 a).2.1 ≠ (TX0 b).2.1 := by decide +kernel
theorem tyX0_ok : ∀ k, k < 11 → parseFieldDescriptor (TX0 k).2.2.1 = some (tyX0 k) := by decide +kernel
abbrev cX0_init : ByteArray := prog_2_method_1_code
def yX0_init : MethodName := ⟨RX0, "<init>", "(IIIII)V"⟩
abbrev cX0_covers : ByteArray := prog_2_method_2_code
def yX0_covers : MethodName := ⟨RX0, "covers", "(I)Z"⟩
abbrev cX0_sellTo : ByteArray := prog_2_method_3_code
def yX0_sellTo : MethodName := ⟨RX0, "sellTo", "(IIIZ)V"⟩
def RX1 : String := "NuggetCamp$Creek"
def TX1 : u_T := fun k => match k with
  | 0 => ("NuggetCamp$Creek", "grains", "[I", true)
  | 1 => ("NuggetCamp$Creek", "clay", "[I", true)
  | 2 => ("NuggetCamp$Creek", "sea", "I", false)
  | _ => ("NuggetCamp$Creek", "touched", "Z", false)
def tyX1 : Nat → FieldType := fun k => match k with
  | 0 => .array .int
  | 1 => .array .int
  | 2 => .int
  | _ => .boolean
abbrev wsX10 : List Cond := u_ws RX1 TX1 4
theorem nmX1 : ∀ a, a < 4 → ∀ b, b < 4 → a ≠ b → (TX1 a).2.1 ≠ (TX1 b).2.1 := by decide +kernel
theorem tyX1_ok : ∀ k, k < 4 → parseFieldDescriptor (TX1 k).2.2.1 = some (tyX1 k) := by decide +kernel
abbrev cX1_init : ByteArray := prog_3_method_1_code
def yX1_init : MethodName := ⟨RX1, "<init>", "()V"⟩
abbrev cX1_grainsAt : ByteArray := prog_3_method_2_code
def yX1_grainsAt : MethodName := ⟨RX1, "grainsAt", "(I)I"⟩
abbrev cX1_clayAt : ByteArray := prog_3_method_3_code
def yX1_clayAt : MethodName := ⟨RX1, "clayAt", "(I)I"⟩
abbrev cX1_lay : ByteArray := prog_3_method_4_code
def yX1_lay : MethodName := ⟨RX1, "lay", "(III)V"⟩
abbrev cX1_drop : ByteArray := prog_3_method_5_code
def yX1_drop : MethodName := ⟨RX1, "drop", "(II)V"⟩
abbrev cX1_dig : ByteArray := prog_3_method_6_code
def yX1_dig : MethodName := ⟨RX1, "dig", "(ILNuggetCamp$Gear;)I"⟩
abbrev cX1_yieldDownwards : ByteArray := prog_3_method_7_code
def yX1_yieldDownwards : MethodName := ⟨RX1, "yieldDownwards", "(IILNuggetCamp$Gear;)I"⟩
abbrev cX1_goldInGround : ByteArray := prog_3_method_8_code
def yX1_goldInGround : MethodName := ⟨RX1, "goldInGround", "()I"⟩
def RX2 : String := "NuggetCamp$Gear"
def TX2 : u_T := fun k => match k with
  | _ => ("", "", "", false)
def tyX2 : Nat → FieldType := fun k => match k with
  | _ => .int
abbrev wsX20 : List Cond := u_ws RX2 TX2 0
theorem nmX2 : ∀ a, a < 0 → ∀ b, b < 0 → a ≠ b → (TX2 a).2.1 ≠ (TX2 b).2.1 := by decide +kernel
theorem tyX2_ok : ∀ k, k < 0 → parseFieldDescriptor (TX2 k).2.2.1 = some (tyX2 k) := by decide +kernel
abbrev cX2_recoveredOf : ByteArray := prog_4_method_4_code
def yX2_recoveredOf : MethodName := ⟨RX2, "recoveredOf", "(II)I"⟩
def RX3 : String := "NuggetCamp$Miner"
def TX3 : u_T := fun k => match k with
  | 0 => ("NuggetCamp$Miner", "percents", "[I", true)
  | 1 => ("NuggetCamp$Miner", "saltedOn", "[I", true)
  | 2 => ("NuggetCamp$Miner", "gold", "I", false)
  | 3 => ("NuggetCamp$Miner", "brass", "I", false)
  | 4 => ("NuggetCamp$Miner", "food", "I", false)
  | 5 => ("NuggetCamp$Miner", "coins", "I", false)
  | 6 => ("NuggetCamp$Miner", "health", "I", false)
  | 7 => ("NuggetCamp$Miner", "caught", "I", false)
  | _ => ("NuggetCamp$Miner", "workedOn", "I", false)
def tyX3 : Nat → FieldType := fun k => match k with
  | 0 => .array .int
  | 1 => .array .int
  | 2 => .int
  | 3 => .int
  | 4 => .int
  | 5 => .int
  | 6 => .int
  | 7 => .int
  | _ => .int
abbrev wsX30 : List Cond := u_ws RX3 TX3 9
theorem nmX3 : ∀ a, a < 9 → ∀ b, b < 9 → a ≠ b → (TX3 a).2.1 ≠ (TX3 b).2.1 := by decide +kernel
theorem tyX3_ok : ∀ k, k < 9 → parseFieldDescriptor (TX3 k).2.2.1 = some (tyX3 k) := by decide +kernel
abbrev cX3_init : ByteArray := prog_5_method_1_code
def yX3_init : MethodName := ⟨RX3, "<init>", "(II)V"⟩
abbrev cX3_isDead : ByteArray := prog_5_method_2_code
def yX3_isDead : MethodName := ⟨RX3, "isDead", "()Z"⟩
abbrev cX3_liveOneDay : ByteArray := prog_5_method_3_code
def yX3_liveOneDay : MethodName := ⟨RX3, "liveOneDay", "()V"⟩
abbrev cX3_dust : ByteArray := prog_5_method_4_code
def yX3_dust : MethodName := ⟨RX3, "dust", "()I"⟩
abbrev cX3_isSuspect : ByteArray := prog_5_method_5_code
def yX3_isSuspect : MethodName := ⟨RX3, "isSuspect", "()Z"⟩
abbrev cX3_brassIn : ByteArray := prog_5_method_6_code
def yX3_brassIn : MethodName := ⟨RX3, "brassIn", "(I)I"⟩
abbrev cX3_percentOf : ByteArray := prog_5_method_7_code
def yX3_percentOf : MethodName := ⟨RX3, "percentOf", "(I)I"⟩
abbrev cX3_setPercent : ByteArray := prog_5_method_8_code
def yX3_setPercent : MethodName := ⟨RX3, "setPercent", "(II)V"⟩
abbrev cX3_percentBacked : ByteArray := prog_5_method_9_code
def yX3_percentBacked : MethodName := ⟨RX3, "percentBacked", "()I"⟩
abbrev cX3_noteSalting : ByteArray := prog_5_method_10_code
def yX3_noteSalting : MethodName := ⟨RX3, "noteSalting", "(II)V"⟩
abbrev cX3_saltedLately : ByteArray := prog_5_method_11_code
def yX3_saltedLately : MethodName := ⟨RX3, "saltedLately", "(III)Z"⟩
def RX4 : String := "NuggetCamp$Right"
def TX4 : u_T := fun k => match k with
  | 0 => ("NuggetCamp$Right", "owner", "I", true)
  | _ => ("NuggetCamp$Right", "inches", "I", true)
def tyX4 : Nat → FieldType := fun k => match k with
  | 0 => .int
  | _ => .int
abbrev wsX40 : List Cond := u_ws RX4 TX4 2
theorem nmX4 : ∀ a, a < 2 → ∀ b, b < 2 → a ≠ b → (TX4 a).2.1 ≠ (TX4 b).2.1 := by decide +kernel
theorem tyX4_ok : ∀ k, k < 2 → parseFieldDescriptor (TX4 k).2.2.1 = some (tyX4 k) := by decide +kernel
abbrev cX4_init : ByteArray := prog_6_method_1_code
def yX4_init : MethodName := ⟨RX4, "<init>", "(II)V"⟩
def RX5 : String := "NuggetCamp$Rumours"
def TX5 : u_T := fun k => match k with
  | _ => ("NuggetCamp$Rumours", "beliefs", "[I", true)
def tyX5 : Nat → FieldType := fun k => match k with
  | _ => .array .int
abbrev wsX50 : List Cond := u_ws RX5 TX5 1
theorem nmX5 : ∀ a, a < 1 → ∀ b, b < 1 → a ≠ b → (TX5 a).2.1 ≠ (TX5 b).2.1 := by decide +kernel
theorem tyX5_ok : ∀ k, k < 1 → parseFieldDescriptor (TX5 k).2.2.1 = some (tyX5 k) := by decide +kernel
abbrev cX5_init : ByteArray := prog_7_method_1_code
def yX5_init : MethodName := ⟨RX5, "<init>", "()V"⟩
abbrev cX5_beliefOf : ByteArray := prog_7_method_2_code
def yX5_beliefOf : MethodName := ⟨RX5, "beliefOf", "(I)I"⟩
abbrev cX5_tell : ByteArray := prog_7_method_3_code
def yX5_tell : MethodName := ⟨RX5, "tell", "(II)V"⟩
abbrev cX5_fade : ByteArray := prog_7_method_4_code
def yX5_fade : MethodName := ⟨RX5, "fade", "()V"⟩
def RX6 : String := "NuggetCamp$Store"
def TX6 : u_T := fun k => match k with
  | 0 => ("NuggetCamp$Store", "freightFood", "[I", true)
  | 1 => ("NuggetCamp$Store", "freightDay", "[I", true)
  | _ => ("NuggetCamp$Store", "food", "I", false)
def tyX6 : Nat → FieldType := fun k => match k with
  | 0 => .array .int
  | 1 => .array .int
  | _ => .int
abbrev wsX60 : List Cond := u_ws RX6 TX6 3
theorem nmX6 : ∀ a, a < 3 → ∀ b, b < 3 → a ≠ b → (TX6 a).2.1 ≠ (TX6 b).2.1 := by decide +kernel
theorem tyX6_ok : ∀ k, k < 3 → parseFieldDescriptor (TX6 k).2.2.1 = some (tyX6 k) := by decide +kernel
abbrev cX6_init : ByteArray := prog_8_method_1_code
def yX6_init : MethodName := ⟨RX6, "<init>", "()V"⟩
abbrev cX6_price : ByteArray := prog_8_method_2_code
def yX6_price : MethodName := ⟨RX6, "price", "()I"⟩
abbrev cX6_freightsUnderWay : ByteArray := prog_8_method_3_code
def yX6_freightsUnderWay : MethodName := ⟨RX6, "freightsUnderWay", "()I"⟩
abbrev cX6_send : ByteArray := prog_8_method_4_code
def yX6_send : MethodName := ⟨RX6, "send", "(II)V"⟩
abbrev cX6_unload : ByteArray := prog_8_method_5_code
def yX6_unload : MethodName := ⟨RX6, "unload", "(I)V"⟩
def RX7 : String := "NuggetCamp"
def TX7 : u_T := fun k => match k with
  | 0 => ("NuggetCamp", "creek", "LNuggetCamp$Creek;", true)
  | 1 => ("NuggetCamp", "store", "LNuggetCamp$Store;", true)
  | 2 => ("NuggetCamp", "rumours", "LNuggetCamp$Rumours;", true)
  | 3 => ("NuggetCamp", "miners", "Ljava/util/ArrayList;", true)
  | 4 => ("NuggetCamp", "claims", "Ljava/util/ArrayList;", true)
  | 5 => ("NuggetCamp", "rights", "Ljava/util/ArrayList;", true)
  | 6 => ("NuggetCamp", "today", "I", false)
  | 7 => ("NuggetCamp", "flowInches", "I", false)
  | 8 => ("NuggetCamp", "codeSize", "I", false)
  | 9 => ("NuggetCamp", "codeDays", "I", false)
  | 10 => ("NuggetCamp", "bankRate", "I", false)
  | _ => ("NuggetCamp", "bankGold", "I", false)
def tyX7 : Nat → FieldType := fun k => match k with
  | 0 => .object "NuggetCamp$Creek"
  | 1 => .object "NuggetCamp$Store"
  | 2 => .object "NuggetCamp$Rumours"
  | 3 => .object "java/util/ArrayList"
  | 4 => .object "java/util/ArrayList"
  | 5 => .object "java/util/ArrayList"
  | 6 => .int
  | 7 => .int
  | 8 => .int
  | 9 => .int
  | 10 => .int
  | _ => .int
abbrev wsX70 : List Cond := u_ws RX7 TX7 12
theorem nmX7 : ∀ a, a < 12 → ∀ b, b < 12 → a ≠ b → (TX7 a).2.1 ≠ (TX7 b).2.1 := by decide +kernel
theorem tyX7_ok : ∀ k, k < 12 → parseFieldDescriptor (TX7 k).2.2.1 = some (tyX7 k) := by decide +kernel
abbrev cX7_init : ByteArray := prog_1_method_1_code
def yX7_init : MethodName := ⟨RX7, "<init>", "()V"⟩
abbrev cX7_ground : ByteArray := prog_1_method_2_code
def yX7_ground : MethodName := ⟨RX7, "ground", "(III)I"⟩
abbrev cX7_flow : ByteArray := prog_1_method_3_code
def yX7_flow : MethodName := ⟨RX7, "flow", "(I)I"⟩
abbrev cX7_miner : ByteArray := prog_1_method_4_code
def yX7_miner : MethodName := ⟨RX7, "miner", "(II)I"⟩
abbrev cX7_pass : ByteArray := prog_1_method_5_code
def yX7_pass : MethodName := ⟨RX7, "pass", "(I)I"⟩
abbrev cX7_meet : ByteArray := prog_1_method_6_code
def yX7_meet : MethodName := ⟨RX7, "meet", "(IIII)Z"⟩
abbrev cX7_peg : ByteArray := prog_1_method_7_code
def yX7_peg : MethodName := ⟨RX7, "peg", "(III)I"⟩
abbrev cX7_right : ByteArray := prog_1_method_8_code
def yX7_right : MethodName := ⟨RX7, "right", "(II)I"⟩
abbrev cX7_work : ByteArray := prog_1_method_9_code
def yX7_work : MethodName := ⟨RX7, "work", "(III)I"⟩
abbrev cX7_sample : ByteArray := prog_1_method_10_code
def yX7_sample : MethodName := ⟨RX7, "sample", "(I)I"⟩
abbrev cX7_salt : ByteArray := prog_1_method_11_code
def yX7_salt : MethodName := ⟨RX7, "salt", "(III)I"⟩
abbrev cX7_brass : ByteArray := prog_1_method_12_code
def yX7_brass : MethodName := ⟨RX7, "brass", "(II)I"⟩
abbrev cX7_sell : ByteArray := prog_1_method_13_code
def yX7_sell : MethodName := ⟨RX7, "sell", "(II)I"⟩
abbrev cX7_rate : ByteArray := prog_1_method_14_code
def yX7_rate : MethodName := ⟨RX7, "rate", "(I)I"⟩
abbrev cX7_freight : ByteArray := prog_1_method_15_code
def yX7_freight : MethodName := ⟨RX7, "freight", "(II)V"⟩
abbrev cX7_buy : ByteArray := prog_1_method_16_code
def yX7_buy : MethodName := ⟨RX7, "buy", "(II)I"⟩
abbrev cX7_back : ByteArray := prog_1_method_17_code
def yX7_back : MethodName := ⟨RX7, "back", "(IIII)V"⟩
abbrev cX7_end : ByteArray := prog_1_method_18_code
def yX7_end : MethodName := ⟨RX7, "end", "(II)I"⟩
abbrev cX7_trade : ByteArray := prog_1_method_19_code
def yX7_trade : MethodName := ⟨RX7, "trade", "(III)I"⟩
abbrev cX7_suit : ByteArray := prog_1_method_20_code
def yX7_suit : MethodName := ⟨RX7, "suit", "(I)I"⟩
abbrev cX7_rumour : ByteArray := prog_1_method_21_code
def yX7_rumour : MethodName := ⟨RX7, "rumour", "(II)I"⟩
abbrev cX7_day : ByteArray := prog_1_method_22_code
def yX7_day : MethodName := ⟨RX7, "day", "()I"⟩
abbrev cX7_holds : ByteArray := prog_1_method_23_code
def yX7_holds : MethodName := ⟨RX7, "holds", "(I)I"⟩
abbrev cX7_ofClaim : ByteArray := prog_1_method_24_code
def yX7_ofClaim : MethodName := ⟨RX7, "ofClaim", "(II)I"⟩
abbrev cX7_ofMiner : ByteArray := prog_1_method_25_code
def yX7_ofMiner : MethodName := ⟨RX7, "ofMiner", "(II)I"⟩
abbrev cX7_gets : ByteArray := prog_1_method_26_code
def yX7_gets : MethodName := ⟨RX7, "gets", "(I)I"⟩
abbrev cX7_gold : ByteArray := prog_1_method_27_code
def yX7_gold : MethodName := ⟨RX7, "gold", "(I)I"⟩
abbrev cX7_camp : ByteArray := prog_1_method_28_code
def yX7_camp : MethodName := ⟨RX7, "camp", "(I)I"⟩
abbrev cX7_belief : ByteArray := prog_1_method_29_code
def yX7_belief : MethodName := ⟨RX7, "belief", "(I)I"⟩
abbrev cX7_plan : ByteArray := prog_1_method_30_code
def yX7_plan : MethodName := ⟨RX7, "plan", "(II)I"⟩
abbrev cX7_planCell : ByteArray := prog_1_method_31_code
def yX7_planCell : MethodName := ⟨RX7, "planCell", "(III)I"⟩
abbrev cX7_checkIndex : ByteArray := prog_1_method_32_code
def yX7_checkIndex : MethodName := ⟨RX7, "checkIndex", "(Z)V"⟩
abbrev cX7_checkArgument : ByteArray := prog_1_method_33_code
def yX7_checkArgument : MethodName := ⟨RX7, "checkArgument", "(Z)V"⟩
abbrev cX7_checkState : ByteArray := prog_1_method_34_code
def yX7_checkState : MethodName := ⟨RX7, "checkState", "(Z)V"⟩
abbrev cX7_checkRange : ByteArray := prog_1_method_35_code
def yX7_checkRange : MethodName := ⟨RX7, "checkRange", "(III)V"⟩
abbrev cX7_checkCell : ByteArray := prog_1_method_36_code
def yX7_checkCell : MethodName := ⟨RX7, "checkCell", "(I)V"⟩
abbrev cX7_isCell : ByteArray := prog_1_method_37_code
def yX7_isCell : MethodName := ⟨RX7, "isCell", "(I)Z"⟩
abbrev cX7_isMiner : ByteArray := prog_1_method_38_code
def yX7_isMiner : MethodName := ⟨RX7, "isMiner", "(I)Z"⟩
abbrev cX7_minerAt : ByteArray := prog_1_method_39_code
def yX7_minerAt : MethodName := ⟨RX7, "minerAt", "(I)LNuggetCamp$Miner;"⟩
abbrev cX7_claimAt : ByteArray := prog_1_method_40_code
def yX7_claimAt : MethodName := ⟨RX7, "claimAt", "(I)LNuggetCamp$Claim;"⟩
abbrev cX7_gearAt : ByteArray := prog_1_method_41_code
def yX7_gearAt : MethodName := ⟨RX7, "gearAt", "(I)LNuggetCamp$Gear;"⟩
abbrev cX7_passOneDay : ByteArray := prog_1_method_42_code
def yX7_passOneDay : MethodName := ⟨RX7, "passOneDay", "()V"⟩
abbrev cX7_lapseIfDue : ByteArray := prog_1_method_43_code
def yX7_lapseIfDue : MethodName := ⟨RX7, "lapseIfDue", "(LNuggetCamp$Claim;)V"⟩
abbrev cX7_isDead : ByteArray := prog_1_method_44_code
def yX7_isDead : MethodName := ⟨RX7, "isDead", "(I)Z"⟩
abbrev cX7_livingMiners : ByteArray := prog_1_method_45_code
def yX7_livingMiners : MethodName := ⟨RX7, "livingMiners", "()I"⟩
abbrev cX7_goldOfMiners : ByteArray := prog_1_method_46_code
def yX7_goldOfMiners : MethodName := ⟨RX7, "goldOfMiners", "()I"⟩
abbrev cX7_shareOut : ByteArray := prog_1_method_47_code
def yX7_shareOut : MethodName := ⟨RX7, "shareOut", "(LNuggetCamp$Miner;I)V"⟩
abbrev cX7_claimHolding : ByteArray := prog_1_method_48_code
def yX7_claimHolding : MethodName := ⟨RX7, "claimHolding", "(I)I"⟩
abbrev cX7_areFree : ByteArray := prog_1_method_49_code
def yX7_areFree : MethodName := ⟨RX7, "areFree", "(II)Z"⟩
abbrev cX7_mayUse : ByteArray := prog_1_method_50_code
def yX7_mayUse : MethodName := ⟨RX7, "mayUse", "(LNuggetCamp$Gear;II)Z"⟩
abbrev cX7_spoilSalesOfToday : ByteArray := prog_1_method_51_code
def yX7_spoilSalesOfToday : MethodName := ⟨RX7, "spoilSalesOfToday", "(II)V"⟩
abbrev cX7_inchesOfRight : ByteArray := prog_1_method_52_code
def yX7_inchesOfRight : MethodName := ⟨RX7, "inchesOfRight", "(I)I"⟩
abbrev cX7_inchesOfMiner : ByteArray := prog_1_method_53_code
def yX7_inchesOfMiner : MethodName := ⟨RX7, "inchesOfMiner", "(I)I"⟩
def RX8 : String := "NuggetCampModel"
def TX8 : u_T := fun k => match k with
  | _ => ("", "", "", false)
def tyX8 : Nat → FieldType := fun k => match k with
  | _ => .int
abbrev wsX80 : List Cond := u_ws RX8 TX8 0
theorem nmX8 : ∀ a, a < 0 → ∀ b, b < 0 → a ≠ b → (TX8 a).2.1 ≠ (TX8 b).2.1 := by decide +kernel
theorem tyX8_ok : ∀ k, k < 0 → parseFieldDescriptor (TX8 k).2.2.1 = some (tyX8 k) := by decide +kernel
def RJx145de : String := "java/io/Serializable"
def TJx145de : u_T := fun k => match k with
  | _ => ("", "", "", false)
def tyJx145de : Nat → FieldType := fun k => match k with
  | _ => .int
abbrev wsJx145de0 : List Cond := u_ws RJx145de TJx145de 0
theorem nmJx145de : ∀ a, a < 0 → ∀ b, b < 0 → a ≠ b → (TJx145de a).2.1 ≠ (TJx145de b).2.1 := by decide +kernel
theorem tyJx145de_ok : ∀ k, k < 0 → parseFieldDescriptor (TJx145de k).2.2.1 = some (tyJx145de k) := by decide +kernel
def RJx8e188 : String := "java/lang/Cloneable"
def TJx8e188 : u_T := fun k => match k with
  | _ => ("", "", "", false)
def tyJx8e188 : Nat → FieldType := fun k => match k with
  | _ => .int
abbrev wsJx8e1880 : List Cond := u_ws RJx8e188 TJx8e188 0
theorem nmJx8e188 : ∀ a, a < 0 → ∀ b, b < 0 → a ≠ b → (TJx8e188 a).2.1 ≠ (TJx8e188 b).2.1 := by decide +kernel
theorem tyJx8e188_ok : ∀ k, k < 0 → parseFieldDescriptor (TJx8e188 k).2.2.1 = some (tyJx8e188 k) := by decide +kernel
def RJx29ce0 : String := "java/lang/Enum"
def TJx29ce0 : u_T := fun k => match k with
  | _ => ("", "", "", false)
def tyJx29ce0 : Nat → FieldType := fun k => match k with
  | _ => .int
abbrev wsJx29ce00 : List Cond := u_ws RJx29ce0 TJx29ce0 0
theorem nmJx29ce0 : ∀ a, a < 0 → ∀ b, b < 0 → a ≠ b → (TJx29ce0 a).2.1 ≠ (TJx29ce0 b).2.1 := by decide +kernel
theorem tyJx29ce0_ok : ∀ k, k < 0 → parseFieldDescriptor (TJx29ce0 k).2.2.1 = some (tyJx29ce0 k) := by decide +kernel
def RJxab1ab : String := "java/lang/Iterable"
def TJxab1ab : u_T := fun k => match k with
  | _ => ("", "", "", false)
def tyJxab1ab : Nat → FieldType := fun k => match k with
  | _ => .int
abbrev wsJxab1ab0 : List Cond := u_ws RJxab1ab TJxab1ab 0
theorem nmJxab1ab : ∀ a, a < 0 → ∀ b, b < 0 → a ≠ b → (TJxab1ab a).2.1 ≠ (TJxab1ab b).2.1 := by decide +kernel
theorem tyJxab1ab_ok : ∀ k, k < 0 → parseFieldDescriptor (TJxab1ab k).2.2.1 = some (tyJxab1ab k) := by decide +kernel
def RJ9 : String := "java/lang/Math"
def TJ9 : u_T := fun k => match k with
  | _ => ("", "", "", false)
def tyJ9 : Nat → FieldType := fun k => match k with
  | _ => .int
abbrev wsJ90 : List Cond := u_ws RJ9 TJ9 0
theorem nmJ9 : ∀ a, a < 0 → ∀ b, b < 0 → a ≠ b → (TJ9 a).2.1 ≠ (TJ9 b).2.1 := by decide +kernel
theorem tyJ9_ok : ∀ k, k < 0 → parseFieldDescriptor (TJ9 k).2.2.1 = some (tyJ9 k) := by decide +kernel
abbrev cJ9_max_7cf53 : ByteArray := prog_19_method_65_code
def yJ9_max_7cf53 : MethodName := ⟨RJ9, "max", "(II)I"⟩
abbrev cJ9_min_7cf53 : ByteArray := prog_19_method_69_code
def yJ9_min_7cf53 : MethodName := ⟨RJ9, "min", "(II)I"⟩
def RJ0 : String := "java/lang/String"
def TJ0 : u_T := fun k => match k with
  | _ => ("", "", "", false)
def tyJ0 : Nat → FieldType := fun k => match k with
  | _ => .int
abbrev wsJ00 : List Cond := u_ws RJ0 TJ0 0
theorem nmJ0 : ∀ a, a < 0 → ∀ b, b < 0 → a ≠ b → (TJ0 a).2.1 ≠ (TJ0 b).2.1 := by decide +kernel
theorem tyJ0_ok : ∀ k, k < 0 → parseFieldDescriptor (TJ0 k).2.2.1 = some (tyJ0 k) := by decide +kernel
def RJ10 : String := "java/lang/System"
def TJ10 : u_T := fun k => match k with
  | _ => ("", "", "", false)
def tyJ10 : Nat → FieldType := fun k => match k with
  | _ => .int
abbrev wsJ100 : List Cond := u_ws RJ10 TJ10 0
theorem nmJ10 : ∀ a, a < 0 → ∀ b, b < 0 → a ≠ b → (TJ10 a).2.1 ≠ (TJ10 b).2.1 := by decide +kernel
theorem tyJ10_ok : ∀ k, k < 0 → parseFieldDescriptor (TJ10 k).2.2.1 = some (tyJ10 k) := by decide +kernel
def RJxa1e45 : String := "java/util/AbstractCollection"
def TJxa1e45 : u_T := fun k => match k with
  | _ => ("", "", "", false)
def tyJxa1e45 : Nat → FieldType := fun k => match k with
  | _ => .int
abbrev wsJxa1e450 : List Cond := u_ws RJxa1e45 TJxa1e45 0
theorem nmJxa1e45 : ∀ a, a < 0 → ∀ b, b < 0 → a ≠ b → (TJxa1e45 a).2.1 ≠ (TJxa1e45 b).2.1 := by decide +kernel
theorem tyJxa1e45_ok : ∀ k, k < 0 → parseFieldDescriptor (TJxa1e45 k).2.2.1 = some (tyJxa1e45 k) := by decide +kernel
abbrev cJxa1e45_init_da8c8 : ByteArray := prog_24_method_1_code
def yJxa1e45_init_da8c8 : MethodName := ⟨RJxa1e45, "<init>", "()V"⟩
def RJxc12de : String := "java/util/AbstractList"
def TJxc12de : u_T := fun k => match k with
  | _ => ("", "", "", false)
def tyJxc12de : Nat → FieldType := fun k => match k with
  | _ => .int
abbrev wsJxc12de0 : List Cond := u_ws RJxc12de TJxc12de 0
theorem nmJxc12de : ∀ a, a < 0 → ∀ b, b < 0 → a ≠ b → (TJxc12de a).2.1 ≠ (TJxc12de b).2.1 := by decide +kernel
theorem tyJxc12de_ok : ∀ k, k < 0 → parseFieldDescriptor (TJxc12de k).2.2.1 = some (tyJxc12de k) := by decide +kernel
abbrev cJxc12de_init_da8c8 : ByteArray := prog_25_method_1_code
def yJxc12de_init_da8c8 : MethodName := ⟨RJxc12de, "<init>", "()V"⟩
def RJx4a65c : String := "java/util/ArrayList"
def TJx4a65c : u_T := fun k => match k with
  | 0 => ("java/util/AbstractList", "modCount", "I", false)
  | 1 => ("java/util/ArrayList", "elementData", "[Ljava/lang/Object;", false)
  | _ => ("java/util/ArrayList", "size", "I", false)
def tyJx4a65c : Nat → FieldType := fun k => match k with
  | 0 => .int
  | 1 => .array (.object "java/lang/Object")
  | _ => .int
abbrev wsJx4a65c0 : List Cond := u_ws RJx4a65c TJx4a65c 3
theorem nmJx4a65c : ∀ a, a < 3 → ∀ b, b < 3 → a ≠ b → (TJx4a65c a).2.1 ≠ (TJx4a65c b).2.1 := by decide +kernel
theorem tyJx4a65c_ok : ∀ k, k < 3 → parseFieldDescriptor (TJx4a65c k).2.2.1 = some (tyJx4a65c k) := by decide +kernel
abbrev cJx4a65c_init_da8c8 : ByteArray := prog_26_method_2_code
def yJx4a65c_init_da8c8 : MethodName := ⟨RJx4a65c, "<init>", "()V"⟩
abbrev cJx4a65c_grow_92f84 : ByteArray := prog_26_method_6_code
def yJx4a65c_grow_92f84 : MethodName := ⟨RJx4a65c, "grow", "(I)[Ljava/lang/Object;"⟩
abbrev cJx4a65c_grow_d5877 : ByteArray := prog_26_method_7_code
def yJx4a65c_grow_d5877 : MethodName := ⟨RJx4a65c, "grow", "()[Ljava/lang/Object;"⟩
abbrev cJx4a65c_size_8abf5 : ByteArray := prog_26_method_8_code
def yJx4a65c_size_8abf5 : MethodName := ⟨RJx4a65c, "size", "()I"⟩
abbrev cJx4a65c_elementData_915e3 : ByteArray := prog_26_method_18_code
def yJx4a65c_elementData_915e3 : MethodName := ⟨RJx4a65c, "elementData", "(I)Ljava/lang/Object;"⟩
abbrev cJx4a65c_get_915e3 : ByteArray := prog_26_method_20_code
def yJx4a65c_get_915e3 : MethodName := ⟨RJx4a65c, "get", "(I)Ljava/lang/Object;"⟩
abbrev cJx4a65c_add_72be8 : ByteArray := prog_26_method_24_code
def yJx4a65c_add_72be8 : MethodName := ⟨RJx4a65c, "add", "(Ljava/lang/Object;[Ljava/lang/Object;I)V"⟩
abbrev cJx4a65c_add_9ea2d : ByteArray := prog_26_method_25_code
def yJx4a65c_add_9ea2d : MethodName := ⟨RJx4a65c, "add", "(Ljava/lang/Object;)Z"⟩
def RJ7 : String := "java/util/Arrays"
def TJ7 : u_T := fun k => match k with
  | _ => ("", "", "", false)
def tyJ7 : Nat → FieldType := fun k => match k with
  | _ => .int
abbrev wsJ70 : List Cond := u_ws RJ7 TJ7 0
theorem nmJ7 : ∀ a, a < 0 → ∀ b, b < 0 → a ≠ b → (TJ7 a).2.1 ≠ (TJ7 b).2.1 := by decide +kernel
theorem tyJ7_ok : ∀ k, k < 0 → parseFieldDescriptor (TJ7 k).2.2.1 = some (tyJ7 k) := by decide +kernel
abbrev cJ7_copyOf_1904c : ByteArray := prog_27_method_119_code
def yJ7_copyOf_1904c : MethodName := ⟨RJ7, "copyOf", "([Ljava/lang/Object;I)[Ljava/lang/Object;"⟩
abbrev cJ7_copyOf_6403c : ByteArray := prog_27_method_120_code
def yJ7_copyOf_6403c : MethodName := ⟨RJ7, "copyOf", "([Ljava/lang/Object;ILjava/lang/Class;)[Ljava/lang/Object;"⟩
def RJx5ef63 : String := "java/util/Collection"
def TJx5ef63 : u_T := fun k => match k with
  | _ => ("", "", "", false)
def tyJx5ef63 : Nat → FieldType := fun k => match k with
  | _ => .int
abbrev wsJx5ef630 : List Cond := u_ws RJx5ef63 TJx5ef63 0
theorem nmJx5ef63 : ∀ a, a < 0 → ∀ b, b < 0 → a ≠ b → (TJx5ef63 a).2.1 ≠ (TJx5ef63 b).2.1 := by decide +kernel
theorem tyJx5ef63_ok : ∀ k, k < 0 → parseFieldDescriptor (TJx5ef63 k).2.2.1 = some (tyJx5ef63 k) := by decide +kernel
def RJxbd725 : String := "java/util/List"
def TJxbd725 : u_T := fun k => match k with
  | _ => ("", "", "", false)
def tyJxbd725 : Nat → FieldType := fun k => match k with
  | _ => .int
abbrev wsJxbd7250 : List Cond := u_ws RJxbd725 TJxbd725 0
theorem nmJxbd725 : ∀ a, a < 0 → ∀ b, b < 0 → a ≠ b → (TJxbd725 a).2.1 ≠ (TJxbd725 b).2.1 := by decide +kernel
theorem tyJxbd725_ok : ∀ k, k < 0 → parseFieldDescriptor (TJxbd725 k).2.2.1 = some (tyJxbd725 k) := by decide +kernel
def RJ15 : String := "java/util/Objects"
def TJ15 : u_T := fun k => match k with
  | _ => ("", "", "", false)
def tyJ15 : Nat → FieldType := fun k => match k with
  | _ => .int
abbrev wsJ150 : List Cond := u_ws RJ15 TJ15 0
theorem nmJ15 : ∀ a, a < 0 → ∀ b, b < 0 → a ≠ b → (TJ15 a).2.1 ≠ (TJ15 b).2.1 := by decide +kernel
theorem tyJ15_ok : ∀ k, k < 0 → parseFieldDescriptor (TJ15 k).2.2.1 = some (tyJ15 k) := by decide +kernel
abbrev cJ15_checkIndex_7cf53 : ByteArray := prog_30_method_17_code
def yJ15_checkIndex_7cf53 : MethodName := ⟨RJ15, "checkIndex", "(II)I"⟩
def RJxf0a74 : String := "java/util/RandomAccess"
def TJxf0a74 : u_T := fun k => match k with
  | _ => ("", "", "", false)
def tyJxf0a74 : Nat → FieldType := fun k => match k with
  | _ => .int
abbrev wsJxf0a740 : List Cond := u_ws RJxf0a74 TJxf0a74 0
theorem nmJxf0a74 : ∀ a, a < 0 → ∀ b, b < 0 → a ≠ b → (TJxf0a74 a).2.1 ≠ (TJxf0a74 b).2.1 := by decide +kernel
theorem tyJxf0a74_ok : ∀ k, k < 0 → parseFieldDescriptor (TJxf0a74 k).2.2.1 = some (tyJxf0a74 k) := by decide +kernel
def RJxa66e6 : String := "java/util/SequencedCollection"
def TJxa66e6 : u_T := fun k => match k with
  | _ => ("", "", "", false)
def tyJxa66e6 : Nat → FieldType := fun k => match k with
  | _ => .int
abbrev wsJxa66e60 : List Cond := u_ws RJxa66e6 TJxa66e6 0
theorem nmJxa66e6 : ∀ a, a < 0 → ∀ b, b < 0 → a ≠ b → (TJxa66e6 a).2.1 ≠ (TJxa66e6 b).2.1 := by decide +kernel
theorem tyJxa66e6_ok : ∀ k, k < 0 → parseFieldDescriptor (TJxa66e6 k).2.2.1 = some (tyJxa66e6 k) := by decide +kernel
def RJ8 : String := "jdk/internal/util/ArraysSupport"
def TJ8 : u_T := fun k => match k with
  | _ => ("", "", "", false)
def tyJ8 : Nat → FieldType := fun k => match k with
  | _ => .int
abbrev wsJ80 : List Cond := u_ws RJ8 TJ8 0
theorem nmJ8 : ∀ a, a < 0 → ∀ b, b < 0 → a ≠ b → (TJ8 a).2.1 ≠ (TJ8 b).2.1 := by decide +kernel
theorem tyJ8_ok : ∀ k, k < 0 → parseFieldDescriptor (TJ8 k).2.2.1 = some (tyJ8 k) := by decide +kernel
abbrev cJ8_newLength_cabcc : ByteArray := prog_33_method_27_code
def yJ8_newLength_cabcc : MethodName := ⟨RJ8, "newLength", "(III)I"⟩
abbrev cJ8_hugeLength_7cf53 : ByteArray := prog_33_method_28_code
def yJ8_hugeLength_7cf53 : MethodName := ⟨RJ8, "hugeLength", "(II)I"⟩
def RJ3 : String := "jdk/internal/util/Preconditions"
def TJ3 : u_T := fun k => match k with
  | _ => ("", "", "", false)
def tyJ3 : Nat → FieldType := fun k => match k with
  | _ => .int
abbrev wsJ30 : List Cond := u_ws RJ3 TJ3 0
theorem nmJ3 : ∀ a, a < 0 → ∀ b, b < 0 → a ≠ b → (TJ3 a).2.1 ≠ (TJ3 b).2.1 := by decide +kernel
theorem tyJ3_ok : ∀ k, k < 0 → parseFieldDescriptor (TJ3 k).2.2.1 = some (tyJ3 k) := by decide +kernel
abbrev cJ3_checkIndex_8e157 : ByteArray := prog_34_method_11_code
def yJ3_checkIndex_8e157 : MethodName := ⟨RJ3, "checkIndex", "(IILjava/util/function/BiFunction;)I"⟩
def RL : String := "NuggetCampLaw"
abbrev cL_pick : ByteArray := method_2_code
def yL_pick : MethodName := ⟨RL, "pick", "([II)I"⟩
abbrev cL_act : ByteArray := method_3_code
def yL_act : MethodName := ⟨RL, "act", "(LNuggetCamp;IIIII)I"⟩
abbrev cL_sends : ByteArray := method_4_code
def yL_sends : MethodName := ⟨RL, "sends", "(LNuggetCamp;II)I"⟩
abbrev cL_backs : ByteArray := method_5_code
def yL_backs : MethodName := ⟨RL, "backs", "(LNuggetCamp;IIII)I"⟩
abbrev cL_no : ByteArray := method_6_code
def yL_no : MethodName := ⟨RL, "no", "(LNuggetCamp;IIII)Z"⟩
abbrev cL_off : ByteArray := method_7_code
def yL_off : MethodName := ⟨RL, "off", "(LNuggetCamp;IIII)Z"⟩
abbrev cL_bars : ByteArray := method_8_code
def yL_bars : MethodName := ⟨RL, "bars", "(LNuggetCamp;IIII)Z"⟩
abbrev cL_all : ByteArray := method_9_code
def yL_all : MethodName := ⟨RL, "all", "(LNuggetCamp;[I)J"⟩
abbrev cL_isRefused : ByteArray := method_10_code
def yL_isRefused : MethodName := ⟨RL, "isRefused", "(LNuggetCamp;[II)Z"⟩
abbrev cL_isSound : ByteArray := method_11_code
def yL_isSound : MethodName := ⟨RL, "isSound", "(LNuggetCamp;[I[I[II)Z"⟩
abbrev cL_isPlanned : ByteArray := method_12_code
def yL_isPlanned : MethodName := ⟨RL, "isPlanned", "(LNuggetCamp;[IIII)Z"⟩
abbrev cL_isDug : ByteArray := method_13_code
def yL_isDug : MethodName := ⟨RL, "isDug", "(LNuggetCamp;[I[III)Z"⟩
abbrev cL_isTold : ByteArray := method_14_code
def yL_isTold : MethodName := ⟨RL, "isTold", "(LNuggetCamp;[I[I[III)Z"⟩
abbrev cL_isTraded : ByteArray := method_15_code
def yL_isTraded : MethodName := ⟨RL, "isTraded", "(LNuggetCamp;[I[III)Z"⟩
abbrev cL_isPassed : ByteArray := method_16_code
def yL_isPassed : MethodName := ⟨RL, "isPassed", "(LNuggetCamp;[II)Z"⟩
abbrev cL_law : ByteArray := code
def yL_law : MethodName := ⟨RL, "law", "([I)Z"⟩
abbrev vwCl : List vw_C := [(RJx4a65c, TJx4a65c, 3), (RX0, TX0, 11), (RX1, TX1, 4), (RX3, TX3, 9), (RX4, TX4, 2), (RX5, TX5, 1), (RX6, TX6, 3), (RX7, TX7, 12)]
